/-! the law's cases -/
set_option maxHeartbeats 4000000 in
set_option maxRecDepth 100000 in
theorem law_0 {p : Program} {e : Env} {s : State} {m : MethodId} {below : List Frame} {meth : Method} {c : Code} (l : Launch) {b L : Nat} {xs : Nat → Int32} (hL : L ≤ 3072) (C0 : lw_At p s m meth c b L xs) {D : va_G} {Y : Nat → ClassId} (hK : va_K D vwCl (tY Y) s) {A B : Nat → Nat} (hAB : gAB A B s.heap.size) {i : Nat} (hi : i + 6 ≤ L) {S M : gS} (hR : RS S M) {H : Heap} {locs : List Loc} {ls : Array Slot} (hT : gTwo D Y A B s S M H locs) (hl : lv_has ls 4 [(0, .ref b), (1, .ref (A 0)), (2, .ref (B 0)), (3, .int (nI i))])
    (kk : ∀ (S M : gS) (H : Heap) (locs : List Loc) (ls : Array Slot), RS S M → gTwo D Y A B s S M H locs → lv_has ls 4 [(0, .ref b), (1, .ref (A 0)), (2, .ref (B 0)), (3, .int (nI i))] → W p l e room_1 s m #[Value.ref b] below meth c H locs 600000 7302250 (lw_Z below #[Value.ref b] s) (F0 m 1348 ls [])) : W p l e room_1 s m #[Value.ref b] below meth c H locs 600000 7302250 (lw_Z below #[Value.ref b] s) (F0 m 180 ls []) := by
  obtain ⟨hx, hb, hr, hml, hown, hts, hX, hbl, hlocks, hgv⟩ := id C0
  have hts : ∀ w ∈ wsL_law, w.before #[Value.ref b] s = true := fun w h => hts w (wsL_law_in w h)
  have hbA : ¬ (fun q : Nat => s.heap.size ≤ q) b := Nat.not_le.mpr hbl
  obtain ⟨hI1, hI2, hne, hA0, hB0⟩ := id hAB
  obtain ⟨hP, hP2, hS⟩ := hT
  refine lv_aload_n hx hb dL_law_180 rfl (lv_at hl 1 rfl) ?_
  refine lv_aload_n hx hb dL_law_181 rfl (lv_at hl 0 rfl) ?_
  refine lv_iload_n hx hb dL_law_182 rfl (lv_at hl 3 rfl) ?_
  refine lv_iconst (v := (1 : Int32)) hx hb dL_law_183 (by decide) ?_
  refine lv_iadd hx hb dL_law_184 ?_
  have n1 : nI i + (1 : Int32) = nI (i + 1) := nI_add i 1
  have v1 : vp_in (nI i + (1 : Int32)) L := by rw [n1]; exact vp_in_nI (by omega) (by omega)
  obtain ⟨a1, ea1⟩ : ∃ z : Int32, z = xs (nI i + (1 : Int32)).toNatClampNeg := ⟨_, rfl⟩
  refine va_sld hx hb hX hbl hbA hS v1 dL_law_185 ?_
  rw [← ea1]
  refine hVi (As := [.int a1]) (rest := []) ⟨hx, hb, hml, hown, hts⟩ (kX9_seed l D Y A hI1 H.size S a1 _ (s_seed hR a1)) (cwV 1 hts gL_law_X9_seed rfl rfl rfl (by decide +kernel) ⟨Nat.le_of_ble_eq_true rfl, Nat.le_of_ble_eq_true rfl⟩) hK hP hS (gF_to (z := 0) hS hA0) (aC0 Y A S) (show vwCl[9]? = some (RX9, TX9, 15) from rfl) rfl rfl hl.1 (Nat.le_of_ble_eq_true rfl) dL_law_186 ⟨Nat.le_of_ble_eq_true rfl, Nat.le_of_ble_eq_true rfl⟩ ?_
  intro r1 S2 H1 locs h hP1 hS hk
  have hP2 := gStay rfl hP2 hne hk
  have hP := hP1
  clear hP1
  generalize H1 = H at hP hP2 hS ⊢
  refine lv_aload_n hx hb dL_law_189 rfl (lv_at hl 2 rfl) ?_
  refine lv_aload_n hx hb dL_law_190 rfl (lv_at hl 0 rfl) ?_
  refine lv_iload_n hx hb dL_law_191 rfl (lv_at hl 3 rfl) ?_
  refine lv_iconst (v := (1 : Int32)) hx hb dL_law_192 (by decide) ?_
  refine lv_iadd hx hb dL_law_193 ?_
  refine va_sld hx hb hX hbl hbA hS v1 dL_law_194 ?_
  rw [← ea1]
  refine hVi (As := [.int a1]) (rest := [.int r1]) ⟨hx, hb, hml, hown, hts⟩ (kX10_seed l D Y B hI2 H.size M a1 _ h) (cwV 1 hts gL_law_X10_seed rfl rfl rfl (by decide +kernel) ⟨Nat.le_of_ble_eq_true rfl, Nat.le_of_ble_eq_true rfl⟩) hK hP2 hS (gF_to (z := 0) hS hB0) (aM0 Y B M) (show vwCl[10]? = some (RX10, TX10, 54) from rfl) rfl rfl hl.1 (Nat.le_of_ble_eq_true rfl) dL_law_195 ⟨Nat.le_of_ble_eq_true rfl, Nat.le_of_ble_eq_true rfl⟩ ?_
  intro r3 S4 H1 locs h hP1 hS hk
  have hP := gStay rfl hP (fun i j h1 h2 => Ne.symm (hne j i h2 h1)) hk
  have hP2 := hP1
  clear hP1
  generalize H1 = H at hP hP2 hS ⊢
  refine lv_icmp_eq (tgt := 1348) hx hb dL_law_198 (by decide) (fun _ => ?_) (fun c5 => ?_)
  · exact kk S2 S4 _ _ _ h.2 ⟨hP, hP2, hS⟩ hl
  · exact absurd h.1 c5
set_option maxHeartbeats 4000000 in
set_option maxRecDepth 100000 in
theorem law_1 {p : Program} {e : Env} {s : State} {m : MethodId} {below : List Frame} {meth : Method} {c : Code} (l : Launch) {b L : Nat} {xs : Nat → Int32} (hL : L ≤ 3072) (C0 : lw_At p s m meth c b L xs) {D : va_G} {Y : Nat → ClassId} (hK : va_K D vwCl (tY Y) s) {A B : Nat → Nat} (hAB : gAB A B s.heap.size) {i : Nat} (hi : i + 6 ≤ L) {S M : gS} (hR : RS S M) {H : Heap} {locs : List Loc} {ls : Array Slot} (hT : gTwo D Y A B s S M H locs) (hl : lv_has ls 4 [(0, .ref b), (1, .ref (A 0)), (2, .ref (B 0)), (3, .int (nI i))])
    (kk : ∀ (S M : gS) (H : Heap) (locs : List Loc) (ls : Array Slot), RS S M → gTwo D Y A B s S M H locs → lv_has ls 4 [(0, .ref b), (1, .ref (A 0)), (2, .ref (B 0)), (3, .int (nI i))] → W p l e room_1 s m #[Value.ref b] below meth c H locs 600000 7302250 (lw_Z below #[Value.ref b] s) (F0 m 1348 ls [])) : W p l e room_1 s m #[Value.ref b] below meth c H locs 600000 7302250 (lw_Z below #[Value.ref b] s) (F0 m 203 ls []) := by
  obtain ⟨hx, hb, hr, hml, hown, hts, hX, hbl, hlocks, hgv⟩ := id C0
  have hts : ∀ w ∈ wsL_law, w.before #[Value.ref b] s = true := fun w h => hts w (wsL_law_in w h)
  have hbA : ¬ (fun q : Nat => s.heap.size ≤ q) b := Nat.not_le.mpr hbl
  obtain ⟨hI1, hI2, hne, hA0, hB0⟩ := id hAB
  obtain ⟨hP, hP2, hS⟩ := hT
  refine lv_aload_n hx hb dL_law_203 rfl (lv_at hl 1 rfl) ?_
  refine lv_aload_n hx hb dL_law_204 rfl (lv_at hl 0 rfl) ?_
  refine lv_iload_n hx hb dL_law_205 rfl (lv_at hl 3 rfl) ?_
  refine lv_iconst (v := (1 : Int32)) hx hb dL_law_206 (by decide) ?_
  refine lv_iadd hx hb dL_law_207 ?_
  have n1 : nI i + (1 : Int32) = nI (i + 1) := nI_add i 1
  have v1 : vp_in (nI i + (1 : Int32)) L := by rw [n1]; exact vp_in_nI (by omega) (by omega)
  obtain ⟨a1, ea1⟩ : ∃ z : Int32, z = xs (nI i + (1 : Int32)).toNatClampNeg := ⟨_, rfl⟩
  refine va_sld hx hb hX hbl hbA hS v1 dL_law_208 ?_
  rw [← ea1]
  refine lv_aload_n hx hb dL_law_209 rfl (lv_at hl 0 rfl) ?_
  refine lv_iload_n hx hb dL_law_210 rfl (lv_at hl 3 rfl) ?_
  refine lv_iconst (v := (2 : Int32)) hx hb dL_law_211 (by decide) ?_
  refine lv_iadd hx hb dL_law_212 ?_
  have n2 : nI i + (2 : Int32) = nI (i + 2) := nI_add i 2
  have v2 : vp_in (nI i + (2 : Int32)) L := by rw [n2]; exact vp_in_nI (by omega) (by omega)
  obtain ⟨a2, ea2⟩ : ∃ z : Int32, z = xs (nI i + (2 : Int32)).toNatClampNeg := ⟨_, rfl⟩
  refine va_sld hx hb hX hbl hbA hS v2 dL_law_213 ?_
  rw [← ea2]
  refine lv_aload_n hx hb dL_law_214 rfl (lv_at hl 0 rfl) ?_
  refine lv_iload_n hx hb dL_law_215 rfl (lv_at hl 3 rfl) ?_
  refine lv_iconst (v := (3 : Int32)) hx hb dL_law_216 (by decide) ?_
  refine lv_iadd hx hb dL_law_217 ?_
  have n3 : nI i + (3 : Int32) = nI (i + 3) := nI_add i 3
  have v3 : vp_in (nI i + (3 : Int32)) L := by rw [n3]; exact vp_in_nI (by omega) (by omega)
  obtain ⟨a3, ea3⟩ : ∃ z : Int32, z = xs (nI i + (3 : Int32)).toNatClampNeg := ⟨_, rfl⟩
  refine va_sld hx hb hX hbl hbA hS v3 dL_law_218 ?_
  rw [← ea3]
  refine hVi (As := [.int a1, .int a2, .int a3]) (rest := []) ⟨hx, hb, hml, hown, hts⟩ (kX9_cove l D Y A hI1 H.size S a1 a2 a3 _ (s_cove hR a1 a2 a3)) (cwV 3 hts gL_law_X9_cove rfl rfl rfl (by decide +kernel) ⟨Nat.le_of_ble_eq_true rfl, Nat.le_of_ble_eq_true rfl⟩) hK hP hS (gF_to (z := 0) hS hA0) (aC0 Y A S) (show vwCl[9]? = some (RX9, TX9, 15) from rfl) rfl rfl hl.1 (Nat.le_of_ble_eq_true rfl) dL_law_219 ⟨Nat.le_of_ble_eq_true rfl, Nat.le_of_ble_eq_true rfl⟩ ?_
  intro r1 S2 H1 locs h hP1 hS hk
  have hP2 := gStay rfl hP2 hne hk
  have hP := hP1
  clear hP1
  generalize H1 = H at hP hP2 hS ⊢
  refine lv_aload_n hx hb dL_law_222 rfl (lv_at hl 2 rfl) ?_
  refine lv_aload_n hx hb dL_law_223 rfl (lv_at hl 0 rfl) ?_
  refine lv_iload_n hx hb dL_law_224 rfl (lv_at hl 3 rfl) ?_
  refine lv_iconst (v := (1 : Int32)) hx hb dL_law_225 (by decide) ?_
  refine lv_iadd hx hb dL_law_226 ?_
  refine va_sld hx hb hX hbl hbA hS v1 dL_law_227 ?_
  rw [← ea1]
  refine lv_aload_n hx hb dL_law_228 rfl (lv_at hl 0 rfl) ?_
  refine lv_iload_n hx hb dL_law_229 rfl (lv_at hl 3 rfl) ?_
  refine lv_iconst (v := (2 : Int32)) hx hb dL_law_230 (by decide) ?_
  refine lv_iadd hx hb dL_law_231 ?_
  refine va_sld hx hb hX hbl hbA hS v2 dL_law_232 ?_
  rw [← ea2]
  refine lv_aload_n hx hb dL_law_233 rfl (lv_at hl 0 rfl) ?_
  refine lv_iload_n hx hb dL_law_234 rfl (lv_at hl 3 rfl) ?_
  refine lv_iconst (v := (3 : Int32)) hx hb dL_law_235 (by decide) ?_
  refine lv_iadd hx hb dL_law_236 ?_
  refine va_sld hx hb hX hbl hbA hS v3 dL_law_237 ?_
  rw [← ea3]
  refine hVi (As := [.int a1, .int a2, .int a3]) (rest := [.int r1]) ⟨hx, hb, hml, hown, hts⟩ (kX10_cove l D Y B hI2 H.size M a1 a2 a3 _ h) (cwV 3 hts gL_law_X10_cove rfl rfl rfl (by decide +kernel) ⟨Nat.le_of_ble_eq_true rfl, Nat.le_of_ble_eq_true rfl⟩) hK hP2 hS (gF_to (z := 0) hS hB0) (aM0 Y B M) (show vwCl[10]? = some (RX10, TX10, 54) from rfl) rfl rfl hl.1 (Nat.le_of_ble_eq_true rfl) dL_law_238 ⟨Nat.le_of_ble_eq_true rfl, Nat.le_of_ble_eq_true rfl⟩ ?_
  intro r3 S4 H1 locs h hP1 hS hk
  have hP := gStay rfl hP (fun i j h1 h2 => Ne.symm (hne j i h2 h1)) hk
  have hP2 := hP1
  clear hP1
  generalize H1 = H at hP hP2 hS ⊢
  refine lv_icmp_eq (tgt := 1348) hx hb dL_law_241 (by decide) (fun _ => ?_) (fun c5 => ?_)
  · exact kk S2 S4 _ _ _ h.2 ⟨hP, hP2, hS⟩ hl
  · exact absurd h.1 c5
set_option maxHeartbeats 4000000 in
set_option maxRecDepth 100000 in
theorem law_2 {p : Program} {e : Env} {s : State} {m : MethodId} {below : List Frame} {meth : Method} {c : Code} (l : Launch) {b L : Nat} {xs : Nat → Int32} (hL : L ≤ 3072) (C0 : lw_At p s m meth c b L xs) {D : va_G} {Y : Nat → ClassId} (hK : va_K D vwCl (tY Y) s) {A B : Nat → Nat} (hAB : gAB A B s.heap.size) {i : Nat} (hi : i + 6 ≤ L) {S M : gS} (hR : RS S M) {H : Heap} {locs : List Loc} {ls : Array Slot} (hT : gTwo D Y A B s S M H locs) (hl : lv_has ls 4 [(0, .ref b), (1, .ref (A 0)), (2, .ref (B 0)), (3, .int (nI i))])
    (kk : ∀ (S M : gS) (H : Heap) (locs : List Loc) (ls : Array Slot), RS S M → gTwo D Y A B s S M H locs → lv_has ls 4 [(0, .ref b), (1, .ref (A 0)), (2, .ref (B 0)), (3, .int (nI i))] → W p l e room_1 s m #[Value.ref b] below meth c H locs 600000 7302250 (lw_Z below #[Value.ref b] s) (F0 m 1348 ls [])) : W p l e room_1 s m #[Value.ref b] below meth c H locs 600000 7302250 (lw_Z below #[Value.ref b] s) (F0 m 246 ls []) := by
  obtain ⟨hx, hb, hr, hml, hown, hts, hX, hbl, hlocks, hgv⟩ := id C0
  have hts : ∀ w ∈ wsL_law, w.before #[Value.ref b] s = true := fun w h => hts w (wsL_law_in w h)
  have hbA : ¬ (fun q : Nat => s.heap.size ≤ q) b := Nat.not_le.mpr hbl
  obtain ⟨hI1, hI2, hne, hA0, hB0⟩ := id hAB
  obtain ⟨hP, hP2, hS⟩ := hT
  refine lv_aload_n hx hb dL_law_246 rfl (lv_at hl 1 rfl) ?_
  refine lv_aload_n hx hb dL_law_247 rfl (lv_at hl 0 rfl) ?_
  refine lv_iload_n hx hb dL_law_248 rfl (lv_at hl 3 rfl) ?_
  refine lv_iconst (v := (1 : Int32)) hx hb dL_law_249 (by decide) ?_
  refine lv_iadd hx hb dL_law_250 ?_
  have n1 : nI i + (1 : Int32) = nI (i + 1) := nI_add i 1
  have v1 : vp_in (nI i + (1 : Int32)) L := by rw [n1]; exact vp_in_nI (by omega) (by omega)
  obtain ⟨a1, ea1⟩ : ∃ z : Int32, z = xs (nI i + (1 : Int32)).toNatClampNeg := ⟨_, rfl⟩
  refine va_sld hx hb hX hbl hbA hS v1 dL_law_251 ?_
  rw [← ea1]
  refine lv_aload_n hx hb dL_law_252 rfl (lv_at hl 0 rfl) ?_
  refine lv_iload_n hx hb dL_law_253 rfl (lv_at hl 3 rfl) ?_
  refine lv_iconst (v := (2 : Int32)) hx hb dL_law_254 (by decide) ?_
  refine lv_iadd hx hb dL_law_255 ?_
  have n2 : nI i + (2 : Int32) = nI (i + 2) := nI_add i 2
  have v2 : vp_in (nI i + (2 : Int32)) L := by rw [n2]; exact vp_in_nI (by omega) (by omega)
  obtain ⟨a2, ea2⟩ : ∃ z : Int32, z = xs (nI i + (2 : Int32)).toNatClampNeg := ⟨_, rfl⟩
  refine va_sld hx hb hX hbl hbA hS v2 dL_law_256 ?_
  rw [← ea2]
  refine hVi (As := [.int a1, .int a2]) (rest := []) ⟨hx, hb, hml, hown, hts⟩ (kX9_row l D Y A hI1 H.size S a1 a2 _ (s_row hR a1 a2)) (cwV 2 hts gL_law_X9_row rfl rfl rfl (by decide +kernel) ⟨Nat.le_of_ble_eq_true rfl, Nat.le_of_ble_eq_true rfl⟩) hK hP hS (gF_to (z := 0) hS hA0) (aC0 Y A S) (show vwCl[9]? = some (RX9, TX9, 15) from rfl) rfl rfl hl.1 (Nat.le_of_ble_eq_true rfl) dL_law_257 ⟨Nat.le_of_ble_eq_true rfl, Nat.le_of_ble_eq_true rfl⟩ ?_
  intro r1 S2 H1 locs h hP1 hS hk
  have hP2 := gStay rfl hP2 hne hk
  have hP := hP1
  clear hP1
  generalize H1 = H at hP hP2 hS ⊢
  refine lv_aload_n hx hb dL_law_260 rfl (lv_at hl 2 rfl) ?_
  refine lv_aload_n hx hb dL_law_261 rfl (lv_at hl 0 rfl) ?_
  refine lv_iload_n hx hb dL_law_262 rfl (lv_at hl 3 rfl) ?_
  refine lv_iconst (v := (1 : Int32)) hx hb dL_law_263 (by decide) ?_
  refine lv_iadd hx hb dL_law_264 ?_
  refine va_sld hx hb hX hbl hbA hS v1 dL_law_265 ?_
  rw [← ea1]
  refine lv_aload_n hx hb dL_law_266 rfl (lv_at hl 0 rfl) ?_
  refine lv_iload_n hx hb dL_law_267 rfl (lv_at hl 3 rfl) ?_
  refine lv_iconst (v := (2 : Int32)) hx hb dL_law_268 (by decide) ?_
  refine lv_iadd hx hb dL_law_269 ?_
  refine va_sld hx hb hX hbl hbA hS v2 dL_law_270 ?_
  rw [← ea2]
  refine hVi (As := [.int a1, .int a2]) (rest := [.int r1]) ⟨hx, hb, hml, hown, hts⟩ (kX10_row l D Y B hI2 H.size M a1 a2 _ h) (cwV 2 hts gL_law_X10_row rfl rfl rfl (by decide +kernel) ⟨Nat.le_of_ble_eq_true rfl, Nat.le_of_ble_eq_true rfl⟩) hK hP2 hS (gF_to (z := 0) hS hB0) (aM0 Y B M) (show vwCl[10]? = some (RX10, TX10, 54) from rfl) rfl rfl hl.1 (Nat.le_of_ble_eq_true rfl) dL_law_271 ⟨Nat.le_of_ble_eq_true rfl, Nat.le_of_ble_eq_true rfl⟩ ?_
  intro r3 S4 H1 locs h hP1 hS hk
  have hP := gStay rfl hP (fun i j h1 h2 => Ne.symm (hne j i h2 h1)) hk
  have hP2 := hP1
  clear hP1
  generalize H1 = H at hP hP2 hS ⊢
  refine lv_icmp_eq (tgt := 1348) hx hb dL_law_274 (by decide) (fun _ => ?_) (fun c5 => ?_)
  · exact kk S2 S4 _ _ _ h.2 ⟨hP, hP2, hS⟩ hl
  · exact absurd h.1 c5
set_option maxHeartbeats 4000000 in
set_option maxRecDepth 100000 in
theorem law_3 {p : Program} {e : Env} {s : State} {m : MethodId} {below : List Frame} {meth : Method} {c : Code} (l : Launch) {b L : Nat} {xs : Nat → Int32} (hL : L ≤ 3072) (C0 : lw_At p s m meth c b L xs) {D : va_G} {Y : Nat → ClassId} (hK : va_K D vwCl (tY Y) s) {A B : Nat → Nat} (hAB : gAB A B s.heap.size) {i : Nat} (hi : i + 6 ≤ L) {S M : gS} (hR : RS S M) {H : Heap} {locs : List Loc} {ls : Array Slot} (hT : gTwo D Y A B s S M H locs) (hl : lv_has ls 4 [(0, .ref b), (1, .ref (A 0)), (2, .ref (B 0)), (3, .int (nI i))])
    (kk : ∀ (S M : gS) (H : Heap) (locs : List Loc) (ls : Array Slot), RS S M → gTwo D Y A B s S M H locs → lv_has ls 4 [(0, .ref b), (1, .ref (A 0)), (2, .ref (B 0)), (3, .int (nI i))] → W p l e room_1 s m #[Value.ref b] below meth c H locs 600000 7302250 (lw_Z below #[Value.ref b] s) (F0 m 1348 ls [])) : W p l e room_1 s m #[Value.ref b] below meth c H locs 600000 7302250 (lw_Z below #[Value.ref b] s) (F0 m 279 ls []) := by
  obtain ⟨hx, hb, hr, hml, hown, hts, hX, hbl, hlocks, hgv⟩ := id C0
  have hts : ∀ w ∈ wsL_law, w.before #[Value.ref b] s = true := fun w h => hts w (wsL_law_in w h)
  have hbA : ¬ (fun q : Nat => s.heap.size ≤ q) b := Nat.not_le.mpr hbl
  obtain ⟨hI1, hI2, hne, hA0, hB0⟩ := id hAB
  obtain ⟨hP, hP2, hS⟩ := hT
  refine lv_aload_n hx hb dL_law_279 rfl (lv_at hl 1 rfl) ?_
  refine lv_aload_n hx hb dL_law_280 rfl (lv_at hl 0 rfl) ?_
  refine lv_iload_n hx hb dL_law_281 rfl (lv_at hl 3 rfl) ?_
  refine lv_iconst (v := (1 : Int32)) hx hb dL_law_282 (by decide) ?_
  refine lv_iadd hx hb dL_law_283 ?_
  have n1 : nI i + (1 : Int32) = nI (i + 1) := nI_add i 1
  have v1 : vp_in (nI i + (1 : Int32)) L := by rw [n1]; exact vp_in_nI (by omega) (by omega)
  obtain ⟨a1, ea1⟩ : ∃ z : Int32, z = xs (nI i + (1 : Int32)).toNatClampNeg := ⟨_, rfl⟩
  refine va_sld hx hb hX hbl hbA hS v1 dL_law_284 ?_
  rw [← ea1]
  refine hVi (As := [.int a1]) (rest := []) ⟨hx, hb, hml, hown, hts⟩ (kX9_lose l D Y A hI1 H.size S a1 _ (s_lose hR a1)) (cwV 1 hts gL_law_X9_lose rfl rfl rfl (by decide +kernel) ⟨Nat.le_of_ble_eq_true rfl, Nat.le_of_ble_eq_true rfl⟩) hK hP hS (gF_to (z := 0) hS hA0) (aC0 Y A S) (show vwCl[9]? = some (RX9, TX9, 15) from rfl) rfl rfl hl.1 (Nat.le_of_ble_eq_true rfl) dL_law_285 ⟨Nat.le_of_ble_eq_true rfl, Nat.le_of_ble_eq_true rfl⟩ ?_
  intro r1 S2 H1 locs h hP1 hS hk
  have hP2 := gStay rfl hP2 hne hk
  have hP := hP1
  clear hP1
  generalize H1 = H at hP hP2 hS ⊢
  refine lv_aload_n hx hb dL_law_288 rfl (lv_at hl 2 rfl) ?_
  refine lv_aload_n hx hb dL_law_289 rfl (lv_at hl 0 rfl) ?_
  refine lv_iload_n hx hb dL_law_290 rfl (lv_at hl 3 rfl) ?_
  refine lv_iconst (v := (1 : Int32)) hx hb dL_law_291 (by decide) ?_
  refine lv_iadd hx hb dL_law_292 ?_
  refine va_sld hx hb hX hbl hbA hS v1 dL_law_293 ?_
  rw [← ea1]
  refine hVi (As := [.int a1]) (rest := [.int r1]) ⟨hx, hb, hml, hown, hts⟩ (kX10_lose l D Y B hI2 H.size M a1 _ h) (cwV 1 hts gL_law_X10_lose rfl rfl rfl (by decide +kernel) ⟨Nat.le_of_ble_eq_true rfl, Nat.le_of_ble_eq_true rfl⟩) hK hP2 hS (gF_to (z := 0) hS hB0) (aM0 Y B M) (show vwCl[10]? = some (RX10, TX10, 54) from rfl) rfl rfl hl.1 (Nat.le_of_ble_eq_true rfl) dL_law_294 ⟨Nat.le_of_ble_eq_true rfl, Nat.le_of_ble_eq_true rfl⟩ ?_
  intro r3 S4 H1 locs h hP1 hS hk
  have hP := gStay rfl hP (fun i j h1 h2 => Ne.symm (hne j i h2 h1)) hk
  have hP2 := hP1
  clear hP1
  generalize H1 = H at hP hP2 hS ⊢
  refine lv_icmp_eq (tgt := 1348) hx hb dL_law_297 (by decide) (fun _ => ?_) (fun c5 => ?_)
  · exact kk S2 S4 _ _ _ h.2 ⟨hP, hP2, hS⟩ hl
  · exact absurd h.1 c5
set_option maxHeartbeats 4000000 in
set_option maxRecDepth 100000 in
theorem law_4 {p : Program} {e : Env} {s : State} {m : MethodId} {below : List Frame} {meth : Method} {c : Code} (l : Launch) {b L : Nat} {xs : Nat → Int32} (hL : L ≤ 3072) (C0 : lw_At p s m meth c b L xs) {D : va_G} {Y : Nat → ClassId} (hK : va_K D vwCl (tY Y) s) {A B : Nat → Nat} (hAB : gAB A B s.heap.size) {i : Nat} (hi : i + 6 ≤ L) {S M : gS} (hR : RS S M) {H : Heap} {locs : List Loc} {ls : Array Slot} (hT : gTwo D Y A B s S M H locs) (hl : lv_has ls 4 [(0, .ref b), (1, .ref (A 0)), (2, .ref (B 0)), (3, .int (nI i))])
    (kk : ∀ (S M : gS) (H : Heap) (locs : List Loc) (ls : Array Slot), RS S M → gTwo D Y A B s S M H locs → lv_has ls 4 [(0, .ref b), (1, .ref (A 0)), (2, .ref (B 0)), (3, .int (nI i))] → W p l e room_1 s m #[Value.ref b] below meth c H locs 600000 7302250 (lw_Z below #[Value.ref b] s) (F0 m 1348 ls [])) : W p l e room_1 s m #[Value.ref b] below meth c H locs 600000 7302250 (lw_Z below #[Value.ref b] s) (F0 m 302 ls []) := by
  obtain ⟨hx, hb, hr, hml, hown, hts, hX, hbl, hlocks, hgv⟩ := id C0
  have hts : ∀ w ∈ wsL_law, w.before #[Value.ref b] s = true := fun w h => hts w (wsL_law_in w h)
  have hbA : ¬ (fun q : Nat => s.heap.size ≤ q) b := Nat.not_le.mpr hbl
  obtain ⟨hI1, hI2, hne, hA0, hB0⟩ := id hAB
  obtain ⟨hP, hP2, hS⟩ := hT
  refine lv_aload_n hx hb dL_law_302 rfl (lv_at hl 1 rfl) ?_
  refine lv_aload_n hx hb dL_law_303 rfl (lv_at hl 0 rfl) ?_
  refine lv_iload_n hx hb dL_law_304 rfl (lv_at hl 3 rfl) ?_
  refine lv_iconst (v := (1 : Int32)) hx hb dL_law_305 (by decide) ?_
  refine lv_iadd hx hb dL_law_306 ?_
  have n1 : nI i + (1 : Int32) = nI (i + 1) := nI_add i 1
  have v1 : vp_in (nI i + (1 : Int32)) L := by rw [n1]; exact vp_in_nI (by omega) (by omega)
  obtain ⟨a1, ea1⟩ : ∃ z : Int32, z = xs (nI i + (1 : Int32)).toNatClampNeg := ⟨_, rfl⟩
  refine va_sld hx hb hX hbl hbA hS v1 dL_law_307 ?_
  rw [← ea1]
  refine lv_aload_n hx hb dL_law_308 rfl (lv_at hl 0 rfl) ?_
  refine lv_iload_n hx hb dL_law_309 rfl (lv_at hl 3 rfl) ?_
  refine lv_iconst (v := (2 : Int32)) hx hb dL_law_310 (by decide) ?_
  refine lv_iadd hx hb dL_law_311 ?_
  have n2 : nI i + (2 : Int32) = nI (i + 2) := nI_add i 2
  have v2 : vp_in (nI i + (2 : Int32)) L := by rw [n2]; exact vp_in_nI (by omega) (by omega)
  obtain ⟨a2, ea2⟩ : ∃ z : Int32, z = xs (nI i + (2 : Int32)).toNatClampNeg := ⟨_, rfl⟩
  refine va_sld hx hb hX hbl hbA hS v2 dL_law_312 ?_
  rw [← ea2]
  refine lv_aload_n hx hb dL_law_313 rfl (lv_at hl 0 rfl) ?_
  refine lv_iload_n hx hb dL_law_314 rfl (lv_at hl 3 rfl) ?_
  refine lv_iconst (v := (3 : Int32)) hx hb dL_law_315 (by decide) ?_
  refine lv_iadd hx hb dL_law_316 ?_
  have n3 : nI i + (3 : Int32) = nI (i + 3) := nI_add i 3
  have v3 : vp_in (nI i + (3 : Int32)) L := by rw [n3]; exact vp_in_nI (by omega) (by omega)
  obtain ⟨a3, ea3⟩ : ∃ z : Int32, z = xs (nI i + (3 : Int32)).toNatClampNeg := ⟨_, rfl⟩
  refine va_sld hx hb hX hbl hbA hS v3 dL_law_317 ?_
  rw [← ea3]
  refine hVi (As := [.int a1, .int a2, .int a3]) (rest := []) ⟨hx, hb, hml, hown, hts⟩ (kX9_put l D Y A hI1 H.size S a1 a2 a3 _ (s_put hR a1 a2 a3)) (cwV 3 hts gL_law_X9_put rfl rfl rfl (by decide +kernel) ⟨Nat.le_of_ble_eq_true rfl, Nat.le_of_ble_eq_true rfl⟩) hK hP hS (gF_to (z := 0) hS hA0) (aC0 Y A S) (show vwCl[9]? = some (RX9, TX9, 15) from rfl) rfl rfl hl.1 (Nat.le_of_ble_eq_true rfl) dL_law_318 ⟨Nat.le_of_ble_eq_true rfl, Nat.le_of_ble_eq_true rfl⟩ ?_
  intro r1 S2 H1 locs h hP1 hS hk
  have hP2 := gStay rfl hP2 hne hk
  have hP := hP1
  clear hP1
  generalize H1 = H at hP hP2 hS ⊢
  refine lv_aload_n hx hb dL_law_321 rfl (lv_at hl 2 rfl) ?_
  refine lv_aload_n hx hb dL_law_322 rfl (lv_at hl 0 rfl) ?_
  refine lv_iload_n hx hb dL_law_323 rfl (lv_at hl 3 rfl) ?_
  refine lv_iconst (v := (1 : Int32)) hx hb dL_law_324 (by decide) ?_
  refine lv_iadd hx hb dL_law_325 ?_
  refine va_sld hx hb hX hbl hbA hS v1 dL_law_326 ?_
  rw [← ea1]
  refine lv_aload_n hx hb dL_law_327 rfl (lv_at hl 0 rfl) ?_
  refine lv_iload_n hx hb dL_law_328 rfl (lv_at hl 3 rfl) ?_
  refine lv_iconst (v := (2 : Int32)) hx hb dL_law_329 (by decide) ?_
  refine lv_iadd hx hb dL_law_330 ?_
  refine va_sld hx hb hX hbl hbA hS v2 dL_law_331 ?_
  rw [← ea2]
  refine lv_aload_n hx hb dL_law_332 rfl (lv_at hl 0 rfl) ?_
  refine lv_iload_n hx hb dL_law_333 rfl (lv_at hl 3 rfl) ?_
  refine lv_iconst (v := (3 : Int32)) hx hb dL_law_334 (by decide) ?_
  refine lv_iadd hx hb dL_law_335 ?_
  refine va_sld hx hb hX hbl hbA hS v3 dL_law_336 ?_
  rw [← ea3]
  refine hVi (As := [.int a1, .int a2, .int a3]) (rest := [.int r1]) ⟨hx, hb, hml, hown, hts⟩ (kX10_put l D Y B hI2 H.size M a1 a2 a3 _ h) (cwV 3 hts gL_law_X10_put rfl rfl rfl (by decide +kernel) ⟨Nat.le_of_ble_eq_true rfl, Nat.le_of_ble_eq_true rfl⟩) hK hP2 hS (gF_to (z := 0) hS hB0) (aM0 Y B M) (show vwCl[10]? = some (RX10, TX10, 54) from rfl) rfl rfl hl.1 (Nat.le_of_ble_eq_true rfl) dL_law_337 ⟨Nat.le_of_ble_eq_true rfl, Nat.le_of_ble_eq_true rfl⟩ ?_
  intro r3 S4 H1 locs h hP1 hS hk
  have hP := gStay rfl hP (fun i j h1 h2 => Ne.symm (hne j i h2 h1)) hk
  have hP2 := hP1
  clear hP1
  generalize H1 = H at hP hP2 hS ⊢
  refine lv_icmp_eq (tgt := 1348) hx hb dL_law_340 (by decide) (fun _ => ?_) (fun c5 => ?_)
  · exact kk S2 S4 _ _ _ h.2 ⟨hP, hP2, hS⟩ hl
  · exact absurd h.1 c5
set_option maxHeartbeats 4000000 in
set_option maxRecDepth 100000 in
theorem law_5 {p : Program} {e : Env} {s : State} {m : MethodId} {below : List Frame} {meth : Method} {c : Code} (l : Launch) {b L : Nat} {xs : Nat → Int32} (hL : L ≤ 3072) (C0 : lw_At p s m meth c b L xs) {D : va_G} {Y : Nat → ClassId} (hK : va_K D vwCl (tY Y) s) {A B : Nat → Nat} (hAB : gAB A B s.heap.size) {i : Nat} (hi : i + 6 ≤ L) {S M : gS} (hR : RS S M) {H : Heap} {locs : List Loc} {ls : Array Slot} (hT : gTwo D Y A B s S M H locs) (hl : lv_has ls 4 [(0, .ref b), (1, .ref (A 0)), (2, .ref (B 0)), (3, .int (nI i))])
    (kk : ∀ (S M : gS) (H : Heap) (locs : List Loc) (ls : Array Slot), RS S M → gTwo D Y A B s S M H locs → lv_has ls 4 [(0, .ref b), (1, .ref (A 0)), (2, .ref (B 0)), (3, .int (nI i))] → W p l e room_1 s m #[Value.ref b] below meth c H locs 600000 7302250 (lw_Z below #[Value.ref b] s) (F0 m 1348 ls [])) : W p l e room_1 s m #[Value.ref b] below meth c H locs 600000 7302250 (lw_Z below #[Value.ref b] s) (F0 m 345 ls []) := by
  obtain ⟨hx, hb, hr, hml, hown, hts, hX, hbl, hlocks, hgv⟩ := id C0
  have hts : ∀ w ∈ wsL_law, w.before #[Value.ref b] s = true := fun w h => hts w (wsL_law_in w h)
  have hbA : ¬ (fun q : Nat => s.heap.size ≤ q) b := Nat.not_le.mpr hbl
  obtain ⟨hI1, hI2, hne, hA0, hB0⟩ := id hAB
  obtain ⟨hP, hP2, hS⟩ := hT
  refine lv_aload_n hx hb dL_law_345 rfl (lv_at hl 1 rfl) ?_
  refine lv_aload_n hx hb dL_law_346 rfl (lv_at hl 0 rfl) ?_
  refine lv_iload_n hx hb dL_law_347 rfl (lv_at hl 3 rfl) ?_
  refine lv_iconst (v := (1 : Int32)) hx hb dL_law_348 (by decide) ?_
  refine lv_iadd hx hb dL_law_349 ?_
  have n1 : nI i + (1 : Int32) = nI (i + 1) := nI_add i 1
  have v1 : vp_in (nI i + (1 : Int32)) L := by rw [n1]; exact vp_in_nI (by omega) (by omega)
  obtain ⟨a1, ea1⟩ : ∃ z : Int32, z = xs (nI i + (1 : Int32)).toNatClampNeg := ⟨_, rfl⟩
  refine va_sld hx hb hX hbl hbA hS v1 dL_law_350 ?_
  rw [← ea1]
  refine lv_aload_n hx hb dL_law_351 rfl (lv_at hl 0 rfl) ?_
  refine lv_iload_n hx hb dL_law_352 rfl (lv_at hl 3 rfl) ?_
  refine lv_iconst (v := (2 : Int32)) hx hb dL_law_353 (by decide) ?_
  refine lv_iadd hx hb dL_law_354 ?_
  have n2 : nI i + (2 : Int32) = nI (i + 2) := nI_add i 2
  have v2 : vp_in (nI i + (2 : Int32)) L := by rw [n2]; exact vp_in_nI (by omega) (by omega)
  obtain ⟨a2, ea2⟩ : ∃ z : Int32, z = xs (nI i + (2 : Int32)).toNatClampNeg := ⟨_, rfl⟩
  refine va_sld hx hb hX hbl hbA hS v2 dL_law_355 ?_
  rw [← ea2]
  refine lv_aload_n hx hb dL_law_356 rfl (lv_at hl 0 rfl) ?_
  refine lv_iload_n hx hb dL_law_357 rfl (lv_at hl 3 rfl) ?_
  refine lv_iconst (v := (3 : Int32)) hx hb dL_law_358 (by decide) ?_
  refine lv_iadd hx hb dL_law_359 ?_
  have n3 : nI i + (3 : Int32) = nI (i + 3) := nI_add i 3
  have v3 : vp_in (nI i + (3 : Int32)) L := by rw [n3]; exact vp_in_nI (by omega) (by omega)
  obtain ⟨a3, ea3⟩ : ∃ z : Int32, z = xs (nI i + (3 : Int32)).toNatClampNeg := ⟨_, rfl⟩
  refine va_sld hx hb hX hbl hbA hS v3 dL_law_360 ?_
  rw [← ea3]
  refine lv_aload_n hx hb dL_law_361 rfl (lv_at hl 0 rfl) ?_
  refine lv_iload_n hx hb dL_law_362 rfl (lv_at hl 3 rfl) ?_
  refine lv_iconst (v := (4 : Int32)) hx hb dL_law_363 (by decide) ?_
  refine lv_iadd hx hb dL_law_364 ?_
  have n4 : nI i + (4 : Int32) = nI (i + 4) := nI_add i 4
  have v4 : vp_in (nI i + (4 : Int32)) L := by rw [n4]; exact vp_in_nI (by omega) (by omega)
  obtain ⟨a4, ea4⟩ : ∃ z : Int32, z = xs (nI i + (4 : Int32)).toNatClampNeg := ⟨_, rfl⟩
  refine va_sld hx hb hX hbl hbA hS v4 dL_law_365 ?_
  rw [← ea4]
  refine lv_aload_n hx hb dL_law_366 rfl (lv_at hl 0 rfl) ?_
  refine lv_iload_n hx hb dL_law_367 rfl (lv_at hl 3 rfl) ?_
  refine lv_iconst (v := (5 : Int32)) hx hb dL_law_368 (by decide) ?_
  refine lv_iadd hx hb dL_law_369 ?_
  have n5 : nI i + (5 : Int32) = nI (i + 5) := nI_add i 5
  have v5 : vp_in (nI i + (5 : Int32)) L := by rw [n5]; exact vp_in_nI (by omega) (by omega)
  obtain ⟨a5, ea5⟩ : ∃ z : Int32, z = xs (nI i + (5 : Int32)).toNatClampNeg := ⟨_, rfl⟩
  refine va_sld hx hb hX hbl hbA hS v5 dL_law_370 ?_
  rw [← ea5]
  refine hVi (As := [.int a1, .int a2, .int a3, .int a4, .int a5]) (rest := []) ⟨hx, hb, hml, hown, hts⟩ (kX9_copy l D Y A hI1 H.size S a1 a2 a3 a4 a5 _ (s_copy hR a1 a2 a3 a4 a5)) (cwV 5 hts gL_law_X9_copy rfl rfl rfl (by decide +kernel) ⟨Nat.le_of_ble_eq_true rfl, Nat.le_of_ble_eq_true rfl⟩) hK hP hS (gF_to (z := 0) hS hA0) (aC0 Y A S) (show vwCl[9]? = some (RX9, TX9, 15) from rfl) rfl rfl hl.1 (Nat.le_of_ble_eq_true rfl) dL_law_371 ⟨Nat.le_of_ble_eq_true rfl, Nat.le_of_ble_eq_true rfl⟩ ?_
  intro r1 S2 H1 locs h hP1 hS hk
  have hP2 := gStay rfl hP2 hne hk
  have hP := hP1
  clear hP1
  generalize H1 = H at hP hP2 hS ⊢
  refine lv_aload_n hx hb dL_law_374 rfl (lv_at hl 2 rfl) ?_
  refine lv_aload_n hx hb dL_law_375 rfl (lv_at hl 0 rfl) ?_
  refine lv_iload_n hx hb dL_law_376 rfl (lv_at hl 3 rfl) ?_
  refine lv_iconst (v := (1 : Int32)) hx hb dL_law_377 (by decide) ?_
  refine lv_iadd hx hb dL_law_378 ?_
  refine va_sld hx hb hX hbl hbA hS v1 dL_law_379 ?_
  rw [← ea1]
  refine lv_aload_n hx hb dL_law_380 rfl (lv_at hl 0 rfl) ?_
  refine lv_iload_n hx hb dL_law_381 rfl (lv_at hl 3 rfl) ?_
  refine lv_iconst (v := (2 : Int32)) hx hb dL_law_382 (by decide) ?_
  refine lv_iadd hx hb dL_law_383 ?_
  refine va_sld hx hb hX hbl hbA hS v2 dL_law_384 ?_
  rw [← ea2]
  refine lv_aload_n hx hb dL_law_385 rfl (lv_at hl 0 rfl) ?_
  refine lv_iload_n hx hb dL_law_386 rfl (lv_at hl 3 rfl) ?_
  refine lv_iconst (v := (3 : Int32)) hx hb dL_law_387 (by decide) ?_
  refine lv_iadd hx hb dL_law_388 ?_
  refine va_sld hx hb hX hbl hbA hS v3 dL_law_389 ?_
  rw [← ea3]
  refine lv_aload_n hx hb dL_law_390 rfl (lv_at hl 0 rfl) ?_
  refine lv_iload_n hx hb dL_law_391 rfl (lv_at hl 3 rfl) ?_
  refine lv_iconst (v := (4 : Int32)) hx hb dL_law_392 (by decide) ?_
  refine lv_iadd hx hb dL_law_393 ?_
  refine va_sld hx hb hX hbl hbA hS v4 dL_law_394 ?_
  rw [← ea4]
  refine lv_aload_n hx hb dL_law_395 rfl (lv_at hl 0 rfl) ?_
  refine lv_iload_n hx hb dL_law_396 rfl (lv_at hl 3 rfl) ?_
  refine lv_iconst (v := (5 : Int32)) hx hb dL_law_397 (by decide) ?_
  refine lv_iadd hx hb dL_law_398 ?_
  refine va_sld hx hb hX hbl hbA hS v5 dL_law_399 ?_
  rw [← ea5]
  refine hVi (As := [.int a1, .int a2, .int a3, .int a4, .int a5]) (rest := [.int r1]) ⟨hx, hb, hml, hown, hts⟩ (kX10_copy l D Y B hI2 H.size M a1 a2 a3 a4 a5 _ h) (cwV 5 hts gL_law_X10_copy rfl rfl rfl (by decide +kernel) ⟨Nat.le_of_ble_eq_true rfl, Nat.le_of_ble_eq_true rfl⟩) hK hP2 hS (gF_to (z := 0) hS hB0) (aM0 Y B M) (show vwCl[10]? = some (RX10, TX10, 54) from rfl) rfl rfl hl.1 (Nat.le_of_ble_eq_true rfl) dL_law_400 ⟨Nat.le_of_ble_eq_true rfl, Nat.le_of_ble_eq_true rfl⟩ ?_
  intro r3 S4 H1 locs h hP1 hS hk
  have hP := gStay rfl hP (fun i j h1 h2 => Ne.symm (hne j i h2 h1)) hk
  have hP2 := hP1
  clear hP1
  generalize H1 = H at hP hP2 hS ⊢
  refine lv_icmp_eq (tgt := 1348) hx hb dL_law_403 (by decide) (fun _ => ?_) (fun c5 => ?_)
  · exact kk S2 S4 _ _ _ h.2 ⟨hP, hP2, hS⟩ hl
  · exact absurd h.1 c5
set_option maxHeartbeats 4000000 in
set_option maxRecDepth 100000 in
theorem law_6 {p : Program} {e : Env} {s : State} {m : MethodId} {below : List Frame} {meth : Method} {c : Code} (l : Launch) {b L : Nat} {xs : Nat → Int32} (hL : L ≤ 3072) (C0 : lw_At p s m meth c b L xs) {D : va_G} {Y : Nat → ClassId} (hK : va_K D vwCl (tY Y) s) {A B : Nat → Nat} (hAB : gAB A B s.heap.size) {i : Nat} (hi : i + 6 ≤ L) {S M : gS} (hR : RS S M) {H : Heap} {locs : List Loc} {ls : Array Slot} (hT : gTwo D Y A B s S M H locs) (hl : lv_has ls 4 [(0, .ref b), (1, .ref (A 0)), (2, .ref (B 0)), (3, .int (nI i))])
    (kk : ∀ (S M : gS) (H : Heap) (locs : List Loc) (ls : Array Slot), RS S M → gTwo D Y A B s S M H locs → lv_has ls 4 [(0, .ref b), (1, .ref (A 0)), (2, .ref (B 0)), (3, .int (nI i))] → W p l e room_1 s m #[Value.ref b] below meth c H locs 600000 7302250 (lw_Z below #[Value.ref b] s) (F0 m 1348 ls [])) : W p l e room_1 s m #[Value.ref b] below meth c H locs 600000 7302250 (lw_Z below #[Value.ref b] s) (F0 m 408 ls []) := by
  obtain ⟨hx, hb, hr, hml, hown, hts, hX, hbl, hlocks, hgv⟩ := id C0
  have hts : ∀ w ∈ wsL_law, w.before #[Value.ref b] s = true := fun w h => hts w (wsL_law_in w h)
  have hbA : ¬ (fun q : Nat => s.heap.size ≤ q) b := Nat.not_le.mpr hbl
  obtain ⟨hI1, hI2, hne, hA0, hB0⟩ := id hAB
  obtain ⟨hP, hP2, hS⟩ := hT
  refine lv_aload_n hx hb dL_law_408 rfl (lv_at hl 1 rfl) ?_
  refine lv_aload_n hx hb dL_law_409 rfl (lv_at hl 0 rfl) ?_
  refine lv_iload_n hx hb dL_law_410 rfl (lv_at hl 3 rfl) ?_
  refine lv_iconst (v := (1 : Int32)) hx hb dL_law_411 (by decide) ?_
  refine lv_iadd hx hb dL_law_412 ?_
  have n1 : nI i + (1 : Int32) = nI (i + 1) := nI_add i 1
  have v1 : vp_in (nI i + (1 : Int32)) L := by rw [n1]; exact vp_in_nI (by omega) (by omega)
  obtain ⟨a1, ea1⟩ : ∃ z : Int32, z = xs (nI i + (1 : Int32)).toNatClampNeg := ⟨_, rfl⟩
  refine va_sld hx hb hX hbl hbA hS v1 dL_law_413 ?_
  rw [← ea1]
  refine lv_aload_n hx hb dL_law_414 rfl (lv_at hl 0 rfl) ?_
  refine lv_iload_n hx hb dL_law_415 rfl (lv_at hl 3 rfl) ?_
  refine lv_iconst (v := (2 : Int32)) hx hb dL_law_416 (by decide) ?_
  refine lv_iadd hx hb dL_law_417 ?_
  have n2 : nI i + (2 : Int32) = nI (i + 2) := nI_add i 2
  have v2 : vp_in (nI i + (2 : Int32)) L := by rw [n2]; exact vp_in_nI (by omega) (by omega)
  obtain ⟨a2, ea2⟩ : ∃ z : Int32, z = xs (nI i + (2 : Int32)).toNatClampNeg := ⟨_, rfl⟩
  refine va_sld hx hb hX hbl hbA hS v2 dL_law_418 ?_
  rw [← ea2]
  refine hVi (As := [.int a1, .int a2]) (rest := []) ⟨hx, hb, hml, hown, hts⟩ (kX9_lead l D Y A hI1 H.size S a1 a2 _ (s_lead hR a1 a2)) (cwV 2 hts gL_law_X9_lead rfl rfl rfl (by decide +kernel) ⟨Nat.le_of_ble_eq_true rfl, Nat.le_of_ble_eq_true rfl⟩) hK hP hS (gF_to (z := 0) hS hA0) (aC0 Y A S) (show vwCl[9]? = some (RX9, TX9, 15) from rfl) rfl rfl hl.1 (Nat.le_of_ble_eq_true rfl) dL_law_419 ⟨Nat.le_of_ble_eq_true rfl, Nat.le_of_ble_eq_true rfl⟩ ?_
  intro r1 S2 H1 locs h hP1 hS hk
  have hP2 := gStay rfl hP2 hne hk
  have hP := hP1
  clear hP1
  generalize H1 = H at hP hP2 hS ⊢
  refine lv_aload_n hx hb dL_law_422 rfl (lv_at hl 2 rfl) ?_
  refine lv_aload_n hx hb dL_law_423 rfl (lv_at hl 0 rfl) ?_
  refine lv_iload_n hx hb dL_law_424 rfl (lv_at hl 3 rfl) ?_
  refine lv_iconst (v := (1 : Int32)) hx hb dL_law_425 (by decide) ?_
  refine lv_iadd hx hb dL_law_426 ?_
  refine va_sld hx hb hX hbl hbA hS v1 dL_law_427 ?_
  rw [← ea1]
  refine lv_aload_n hx hb dL_law_428 rfl (lv_at hl 0 rfl) ?_
  refine lv_iload_n hx hb dL_law_429 rfl (lv_at hl 3 rfl) ?_
  refine lv_iconst (v := (2 : Int32)) hx hb dL_law_430 (by decide) ?_
  refine lv_iadd hx hb dL_law_431 ?_
  refine va_sld hx hb hX hbl hbA hS v2 dL_law_432 ?_
  rw [← ea2]
  refine hVi (As := [.int a1, .int a2]) (rest := [.int r1]) ⟨hx, hb, hml, hown, hts⟩ (kX10_lead l D Y B hI2 H.size M a1 a2 _ h) (cwV 2 hts gL_law_X10_lead rfl rfl rfl (by decide +kernel) ⟨Nat.le_of_ble_eq_true rfl, Nat.le_of_ble_eq_true rfl⟩) hK hP2 hS (gF_to (z := 0) hS hB0) (aM0 Y B M) (show vwCl[10]? = some (RX10, TX10, 54) from rfl) rfl rfl hl.1 (Nat.le_of_ble_eq_true rfl) dL_law_433 ⟨Nat.le_of_ble_eq_true rfl, Nat.le_of_ble_eq_true rfl⟩ ?_
  intro r3 S4 H1 locs h hP1 hS hk
  have hP := gStay rfl hP (fun i j h1 h2 => Ne.symm (hne j i h2 h1)) hk
  have hP2 := hP1
  clear hP1
  generalize H1 = H at hP hP2 hS ⊢
  refine lv_icmp_eq (tgt := 1348) hx hb dL_law_436 (by decide) (fun _ => ?_) (fun c5 => ?_)
  · exact kk S2 S4 _ _ _ h.2 ⟨hP, hP2, hS⟩ hl
  · exact absurd h.1 c5
