/-! the law's cases -/
set_option maxHeartbeats 4000000 in
set_option maxRecDepth 100000 in
theorem law_28 {p : Program} {e : Env} {s : State} {m : MethodId} {below : List Frame} {meth : Method} {c : Code} (l : Launch) {b L : Nat} {xs : Nat → Int32} (hL : L ≤ 3072) (C0 : lw_At p s m meth c b L xs) {D : va_G} {Y : Nat → ClassId} (hK : va_K D vwCl (tY Y) s) {A B : Nat → Nat} (hAB : gAB A B s.heap.size) {i : Nat} (hi : i + 6 ≤ L) {S M : gS} (hR : RS S M) {H : Heap} {locs : List Loc} {ls : Array Slot} (hT : gTwo D Y A B s S M H locs) (hl : lv_has ls 4 [(0, .ref b), (1, .ref (A 0)), (2, .ref (B 0)), (3, .int (nI i))])
    (kk : ∀ (S M : gS) (H : Heap) (locs : List Loc) (ls : Array Slot), RS S M → gTwo D Y A B s S M H locs → lv_has ls 4 [(0, .ref b), (1, .ref (A 0)), (2, .ref (B 0)), (3, .int (nI i))] → W p l e room_1 s m #[Value.ref b] below meth c H locs 600000 7302250 (lw_Z below #[Value.ref b] s) (F0 m 1348 ls [])) : W p l e room_1 s m #[Value.ref b] below meth c H locs 600000 7302250 (lw_Z below #[Value.ref b] s) (F0 m 1213 ls []) := by
  obtain ⟨hx, hb, hr, hml, hown, hts, hX, hbl, hlocks, hgv⟩ := id C0
  have hts : ∀ w ∈ wsL_law, w.before #[Value.ref b] s = true := fun w h => hts w (wsL_law_in w h)
  have hbA : ¬ (fun q : Nat => s.heap.size ≤ q) b := Nat.not_le.mpr hbl
  obtain ⟨hI1, hI2, hne, hA0, hB0⟩ := id hAB
  obtain ⟨hP, hP2, hS⟩ := hT
  refine lv_aload_n hx hb dL_law_1213 rfl (lv_at hl 1 rfl) ?_
  refine lv_aload_n hx hb dL_law_1214 rfl (lv_at hl 0 rfl) ?_
  refine lv_iload_n hx hb dL_law_1215 rfl (lv_at hl 3 rfl) ?_
  refine lv_iconst (v := (1 : Int32)) hx hb dL_law_1216 (by decide) ?_
  refine lv_iadd hx hb dL_law_1217 ?_
  have n1 : nI i + (1 : Int32) = nI (i + 1) := nI_add i 1
  have v1 : vp_in (nI i + (1 : Int32)) L := by rw [n1]; exact vp_in_nI (by omega) (by omega)
  obtain ⟨a1, ea1⟩ : ∃ z : Int32, z = xs (nI i + (1 : Int32)).toNatClampNeg := ⟨_, rfl⟩
  refine va_sld hx hb hX hbl hbA hS v1 dL_law_1218 ?_
  rw [← ea1]
  refine lv_aload_n hx hb dL_law_1219 rfl (lv_at hl 0 rfl) ?_
  refine lv_iload_n hx hb dL_law_1220 rfl (lv_at hl 3 rfl) ?_
  refine lv_iconst (v := (2 : Int32)) hx hb dL_law_1221 (by decide) ?_
  refine lv_iadd hx hb dL_law_1222 ?_
  have n2 : nI i + (2 : Int32) = nI (i + 2) := nI_add i 2
  have v2 : vp_in (nI i + (2 : Int32)) L := by rw [n2]; exact vp_in_nI (by omega) (by omega)
  obtain ⟨a2, ea2⟩ : ∃ z : Int32, z = xs (nI i + (2 : Int32)).toNatClampNeg := ⟨_, rfl⟩
  refine va_sld hx hb hX hbl hbA hS v2 dL_law_1223 ?_
  rw [← ea2]
  refine hVi (As := [.int a1, .int a2]) (rest := []) ⟨hx, hb, hml, hown, hts⟩ (kX9_boatOf l D Y A hI1 H.size S a1 a2 _ (s_boatOf hR a1 a2)) (cwV 2 hts gL_law_X9_boatOf rfl rfl rfl (by decide +kernel) ⟨Nat.le_of_ble_eq_true rfl, Nat.le_of_ble_eq_true rfl⟩) hK hP hS (gF_to (z := 0) hS hA0) (aC0 Y A S) (show vwCl[9]? = some (RX9, TX9, 15) from rfl) rfl rfl hl.1 (Nat.le_of_ble_eq_true rfl) dL_law_1224 ⟨Nat.le_of_ble_eq_true rfl, Nat.le_of_ble_eq_true rfl⟩ ?_
  intro r1 S2 H1 locs h hP1 hS hk
  have hP2 := gStay rfl hP2 hne hk
  have hP := hP1
  clear hP1
  generalize H1 = H at hP hP2 hS ⊢
  refine lv_aload_n hx hb dL_law_1227 rfl (lv_at hl 2 rfl) ?_
  refine lv_aload_n hx hb dL_law_1228 rfl (lv_at hl 0 rfl) ?_
  refine lv_iload_n hx hb dL_law_1229 rfl (lv_at hl 3 rfl) ?_
  refine lv_iconst (v := (1 : Int32)) hx hb dL_law_1230 (by decide) ?_
  refine lv_iadd hx hb dL_law_1231 ?_
  refine va_sld hx hb hX hbl hbA hS v1 dL_law_1232 ?_
  rw [← ea1]
  refine lv_aload_n hx hb dL_law_1233 rfl (lv_at hl 0 rfl) ?_
  refine lv_iload_n hx hb dL_law_1234 rfl (lv_at hl 3 rfl) ?_
  refine lv_iconst (v := (2 : Int32)) hx hb dL_law_1235 (by decide) ?_
  refine lv_iadd hx hb dL_law_1236 ?_
  refine va_sld hx hb hX hbl hbA hS v2 dL_law_1237 ?_
  rw [← ea2]
  refine hVi (As := [.int a1, .int a2]) (rest := [.int r1]) ⟨hx, hb, hml, hown, hts⟩ (kX10_boatOf l D Y B hI2 H.size M a1 a2 _ h) (cwV 2 hts gL_law_X10_boatOf rfl rfl rfl (by decide +kernel) ⟨Nat.le_of_ble_eq_true rfl, Nat.le_of_ble_eq_true rfl⟩) hK hP2 hS (gF_to (z := 0) hS hB0) (aM0 Y B M) (show vwCl[10]? = some (RX10, TX10, 54) from rfl) rfl rfl hl.1 (Nat.le_of_ble_eq_true rfl) dL_law_1238 ⟨Nat.le_of_ble_eq_true rfl, Nat.le_of_ble_eq_true rfl⟩ ?_
  intro r3 S4 H1 locs h hP1 hS hk
  have hP := gStay rfl hP (fun i j h1 h2 => Ne.symm (hne j i h2 h1)) hk
  have hP2 := hP1
  clear hP1
  generalize H1 = H at hP hP2 hS ⊢
  refine lv_icmp_eq (tgt := 1348) hx hb dL_law_1241 (by decide) (fun _ => ?_) (fun c5 => ?_)
  · exact kk S2 S4 _ _ _ h.2 ⟨hP, hP2, hS⟩ hl
  · exact absurd h.1 c5
set_option maxHeartbeats 4000000 in
set_option maxRecDepth 100000 in
theorem law_29 {p : Program} {e : Env} {s : State} {m : MethodId} {below : List Frame} {meth : Method} {c : Code} (l : Launch) {b L : Nat} {xs : Nat → Int32} (hL : L ≤ 3072) (C0 : lw_At p s m meth c b L xs) {D : va_G} {Y : Nat → ClassId} (hK : va_K D vwCl (tY Y) s) {A B : Nat → Nat} (hAB : gAB A B s.heap.size) {i : Nat} (hi : i + 6 ≤ L) {S M : gS} (hR : RS S M) {H : Heap} {locs : List Loc} {ls : Array Slot} (hT : gTwo D Y A B s S M H locs) (hl : lv_has ls 4 [(0, .ref b), (1, .ref (A 0)), (2, .ref (B 0)), (3, .int (nI i))])
    (kk : ∀ (S M : gS) (H : Heap) (locs : List Loc) (ls : Array Slot), RS S M → gTwo D Y A B s S M H locs → lv_has ls 4 [(0, .ref b), (1, .ref (A 0)), (2, .ref (B 0)), (3, .int (nI i))] → W p l e room_1 s m #[Value.ref b] below meth c H locs 600000 7302250 (lw_Z below #[Value.ref b] s) (F0 m 1348 ls [])) : W p l e room_1 s m #[Value.ref b] below meth c H locs 600000 7302250 (lw_Z below #[Value.ref b] s) (F0 m 1246 ls []) := by
  obtain ⟨hx, hb, hr, hml, hown, hts, hX, hbl, hlocks, hgv⟩ := id C0
  have hts : ∀ w ∈ wsL_law, w.before #[Value.ref b] s = true := fun w h => hts w (wsL_law_in w h)
  have hbA : ¬ (fun q : Nat => s.heap.size ≤ q) b := Nat.not_le.mpr hbl
  obtain ⟨hI1, hI2, hne, hA0, hB0⟩ := id hAB
  obtain ⟨hP, hP2, hS⟩ := hT
  refine lv_aload_n hx hb dL_law_1246 rfl (lv_at hl 1 rfl) ?_
  refine lv_aload_n hx hb dL_law_1247 rfl (lv_at hl 0 rfl) ?_
  refine lv_iload_n hx hb dL_law_1248 rfl (lv_at hl 3 rfl) ?_
  refine lv_iconst (v := (1 : Int32)) hx hb dL_law_1249 (by decide) ?_
  refine lv_iadd hx hb dL_law_1250 ?_
  have n1 : nI i + (1 : Int32) = nI (i + 1) := nI_add i 1
  have v1 : vp_in (nI i + (1 : Int32)) L := by rw [n1]; exact vp_in_nI (by omega) (by omega)
  obtain ⟨a1, ea1⟩ : ∃ z : Int32, z = xs (nI i + (1 : Int32)).toNatClampNeg := ⟨_, rfl⟩
  refine va_sld hx hb hX hbl hbA hS v1 dL_law_1251 ?_
  rw [← ea1]
  refine lv_aload_n hx hb dL_law_1252 rfl (lv_at hl 0 rfl) ?_
  refine lv_iload_n hx hb dL_law_1253 rfl (lv_at hl 3 rfl) ?_
  refine lv_iconst (v := (2 : Int32)) hx hb dL_law_1254 (by decide) ?_
  refine lv_iadd hx hb dL_law_1255 ?_
  have n2 : nI i + (2 : Int32) = nI (i + 2) := nI_add i 2
  have v2 : vp_in (nI i + (2 : Int32)) L := by rw [n2]; exact vp_in_nI (by omega) (by omega)
  obtain ⟨a2, ea2⟩ : ∃ z : Int32, z = xs (nI i + (2 : Int32)).toNatClampNeg := ⟨_, rfl⟩
  refine va_sld hx hb hX hbl hbA hS v2 dL_law_1256 ?_
  rw [← ea2]
  refine hVi (As := [.int a1, .int a2]) (rest := []) ⟨hx, hb, hml, hown, hts⟩ (kX9_hideOf l D Y A hI1 H.size S a1 a2 _ (s_hideOf hR a1 a2)) (cwV 2 hts gL_law_X9_hideOf rfl rfl rfl (by decide +kernel) ⟨Nat.le_of_ble_eq_true rfl, Nat.le_of_ble_eq_true rfl⟩) hK hP hS (gF_to (z := 0) hS hA0) (aC0 Y A S) (show vwCl[9]? = some (RX9, TX9, 15) from rfl) rfl rfl hl.1 (Nat.le_of_ble_eq_true rfl) dL_law_1257 ⟨Nat.le_of_ble_eq_true rfl, Nat.le_of_ble_eq_true rfl⟩ ?_
  intro r1 S2 H1 locs h hP1 hS hk
  have hP2 := gStay rfl hP2 hne hk
  have hP := hP1
  clear hP1
  generalize H1 = H at hP hP2 hS ⊢
  refine lv_aload_n hx hb dL_law_1260 rfl (lv_at hl 2 rfl) ?_
  refine lv_aload_n hx hb dL_law_1261 rfl (lv_at hl 0 rfl) ?_
  refine lv_iload_n hx hb dL_law_1262 rfl (lv_at hl 3 rfl) ?_
  refine lv_iconst (v := (1 : Int32)) hx hb dL_law_1263 (by decide) ?_
  refine lv_iadd hx hb dL_law_1264 ?_
  refine va_sld hx hb hX hbl hbA hS v1 dL_law_1265 ?_
  rw [← ea1]
  refine lv_aload_n hx hb dL_law_1266 rfl (lv_at hl 0 rfl) ?_
  refine lv_iload_n hx hb dL_law_1267 rfl (lv_at hl 3 rfl) ?_
  refine lv_iconst (v := (2 : Int32)) hx hb dL_law_1268 (by decide) ?_
  refine lv_iadd hx hb dL_law_1269 ?_
  refine va_sld hx hb hX hbl hbA hS v2 dL_law_1270 ?_
  rw [← ea2]
  refine hVi (As := [.int a1, .int a2]) (rest := [.int r1]) ⟨hx, hb, hml, hown, hts⟩ (kX10_hideOf l D Y B hI2 H.size M a1 a2 _ h) (cwV 2 hts gL_law_X10_hideOf rfl rfl rfl (by decide +kernel) ⟨Nat.le_of_ble_eq_true rfl, Nat.le_of_ble_eq_true rfl⟩) hK hP2 hS (gF_to (z := 0) hS hB0) (aM0 Y B M) (show vwCl[10]? = some (RX10, TX10, 54) from rfl) rfl rfl hl.1 (Nat.le_of_ble_eq_true rfl) dL_law_1271 ⟨Nat.le_of_ble_eq_true rfl, Nat.le_of_ble_eq_true rfl⟩ ?_
  intro r3 S4 H1 locs h hP1 hS hk
  have hP := gStay rfl hP (fun i j h1 h2 => Ne.symm (hne j i h2 h1)) hk
  have hP2 := hP1
  clear hP1
  generalize H1 = H at hP hP2 hS ⊢
  refine lv_icmp_eq (tgt := 1348) hx hb dL_law_1274 (by decide) (fun _ => ?_) (fun c5 => ?_)
  · exact kk S2 S4 _ _ _ h.2 ⟨hP, hP2, hS⟩ hl
  · exact absurd h.1 c5
set_option maxHeartbeats 4000000 in
set_option maxRecDepth 100000 in
theorem law_30 {p : Program} {e : Env} {s : State} {m : MethodId} {below : List Frame} {meth : Method} {c : Code} (l : Launch) {b L : Nat} {xs : Nat → Int32} (hL : L ≤ 3072) (C0 : lw_At p s m meth c b L xs) {D : va_G} {Y : Nat → ClassId} (hK : va_K D vwCl (tY Y) s) {A B : Nat → Nat} (hAB : gAB A B s.heap.size) {i : Nat} (hi : i + 6 ≤ L) {S M : gS} (hR : RS S M) {H : Heap} {locs : List Loc} {ls : Array Slot} (hT : gTwo D Y A B s S M H locs) (hl : lv_has ls 4 [(0, .ref b), (1, .ref (A 0)), (2, .ref (B 0)), (3, .int (nI i))])
    (kk : ∀ (S M : gS) (H : Heap) (locs : List Loc) (ls : Array Slot), RS S M → gTwo D Y A B s S M H locs → lv_has ls 4 [(0, .ref b), (1, .ref (A 0)), (2, .ref (B 0)), (3, .int (nI i))] → W p l e room_1 s m #[Value.ref b] below meth c H locs 600000 7302250 (lw_Z below #[Value.ref b] s) (F0 m 1348 ls [])) : W p l e room_1 s m #[Value.ref b] below meth c H locs 600000 7302250 (lw_Z below #[Value.ref b] s) (F0 m 1279 ls []) := by
  obtain ⟨hx, hb, hr, hml, hown, hts, hX, hbl, hlocks, hgv⟩ := id C0
  have hts : ∀ w ∈ wsL_law, w.before #[Value.ref b] s = true := fun w h => hts w (wsL_law_in w h)
  have hbA : ¬ (fun q : Nat => s.heap.size ≤ q) b := Nat.not_le.mpr hbl
  obtain ⟨hI1, hI2, hne, hA0, hB0⟩ := id hAB
  obtain ⟨hP, hP2, hS⟩ := hT
  refine lv_aload_n hx hb dL_law_1279 rfl (lv_at hl 1 rfl) ?_
  refine lv_aload_n hx hb dL_law_1280 rfl (lv_at hl 0 rfl) ?_
  refine lv_iload_n hx hb dL_law_1281 rfl (lv_at hl 3 rfl) ?_
  refine lv_iconst (v := (1 : Int32)) hx hb dL_law_1282 (by decide) ?_
  refine lv_iadd hx hb dL_law_1283 ?_
  have n1 : nI i + (1 : Int32) = nI (i + 1) := nI_add i 1
  have v1 : vp_in (nI i + (1 : Int32)) L := by rw [n1]; exact vp_in_nI (by omega) (by omega)
  obtain ⟨a1, ea1⟩ : ∃ z : Int32, z = xs (nI i + (1 : Int32)).toNatClampNeg := ⟨_, rfl⟩
  refine va_sld hx hb hX hbl hbA hS v1 dL_law_1284 ?_
  rw [← ea1]
  refine hVi (As := [.int a1]) (rest := []) ⟨hx, hb, hml, hown, hts⟩ (kX9_watched l D Y A hI1 H.size S a1 _ (s_watched hR a1)) (cwV 1 hts gL_law_X9_watched rfl rfl rfl (by decide +kernel) ⟨Nat.le_of_ble_eq_true rfl, Nat.le_of_ble_eq_true rfl⟩) hK hP hS (gF_to (z := 0) hS hA0) (aC0 Y A S) (show vwCl[9]? = some (RX9, TX9, 15) from rfl) rfl rfl hl.1 (Nat.le_of_ble_eq_true rfl) dL_law_1285 ⟨Nat.le_of_ble_eq_true rfl, Nat.le_of_ble_eq_true rfl⟩ ?_
  intro r1 S2 H1 locs h hP1 hS hk
  have hP2 := gStay rfl hP2 hne hk
  have hP := hP1
  clear hP1
  generalize H1 = H at hP hP2 hS ⊢
  refine lv_aload_n hx hb dL_law_1288 rfl (lv_at hl 2 rfl) ?_
  refine lv_aload_n hx hb dL_law_1289 rfl (lv_at hl 0 rfl) ?_
  refine lv_iload_n hx hb dL_law_1290 rfl (lv_at hl 3 rfl) ?_
  refine lv_iconst (v := (1 : Int32)) hx hb dL_law_1291 (by decide) ?_
  refine lv_iadd hx hb dL_law_1292 ?_
  refine va_sld hx hb hX hbl hbA hS v1 dL_law_1293 ?_
  rw [← ea1]
  refine hVi (As := [.int a1]) (rest := [.int r1]) ⟨hx, hb, hml, hown, hts⟩ (kX10_watched l D Y B hI2 H.size M a1 _ h) (cwV 1 hts gL_law_X10_watched rfl rfl rfl (by decide +kernel) ⟨Nat.le_of_ble_eq_true rfl, Nat.le_of_ble_eq_true rfl⟩) hK hP2 hS (gF_to (z := 0) hS hB0) (aM0 Y B M) (show vwCl[10]? = some (RX10, TX10, 54) from rfl) rfl rfl hl.1 (Nat.le_of_ble_eq_true rfl) dL_law_1294 ⟨Nat.le_of_ble_eq_true rfl, Nat.le_of_ble_eq_true rfl⟩ ?_
  intro r3 S4 H1 locs h hP1 hS hk
  have hP := gStay rfl hP (fun i j h1 h2 => Ne.symm (hne j i h2 h1)) hk
  have hP2 := hP1
  clear hP1
  generalize H1 = H at hP hP2 hS ⊢
  refine lv_icmp_eq (tgt := 1348) hx hb dL_law_1297 (by decide) (fun _ => ?_) (fun c5 => ?_)
  · exact kk S2 S4 _ _ _ h.2 ⟨hP, hP2, hS⟩ hl
  · exact absurd h.1 c5
set_option maxHeartbeats 4000000 in
set_option maxRecDepth 100000 in
theorem law_31 {p : Program} {e : Env} {s : State} {m : MethodId} {below : List Frame} {meth : Method} {c : Code} (l : Launch) {b L : Nat} {xs : Nat → Int32} (hL : L ≤ 3072) (C0 : lw_At p s m meth c b L xs) {D : va_G} {Y : Nat → ClassId} (hK : va_K D vwCl (tY Y) s) {A B : Nat → Nat} (hAB : gAB A B s.heap.size) {i : Nat} (hi : i + 6 ≤ L) {S M : gS} (hR : RS S M) {H : Heap} {locs : List Loc} {ls : Array Slot} (hT : gTwo D Y A B s S M H locs) (hl : lv_has ls 4 [(0, .ref b), (1, .ref (A 0)), (2, .ref (B 0)), (3, .int (nI i))])
    (kk : ∀ (S M : gS) (H : Heap) (locs : List Loc) (ls : Array Slot), RS S M → gTwo D Y A B s S M H locs → lv_has ls 4 [(0, .ref b), (1, .ref (A 0)), (2, .ref (B 0)), (3, .int (nI i))] → W p l e room_1 s m #[Value.ref b] below meth c H locs 600000 7302250 (lw_Z below #[Value.ref b] s) (F0 m 1348 ls [])) : W p l e room_1 s m #[Value.ref b] below meth c H locs 600000 7302250 (lw_Z below #[Value.ref b] s) (F0 m 1302 ls []) := by
  obtain ⟨hx, hb, hr, hml, hown, hts, hX, hbl, hlocks, hgv⟩ := id C0
  have hts : ∀ w ∈ wsL_law, w.before #[Value.ref b] s = true := fun w h => hts w (wsL_law_in w h)
  have hbA : ¬ (fun q : Nat => s.heap.size ≤ q) b := Nat.not_le.mpr hbl
  obtain ⟨hI1, hI2, hne, hA0, hB0⟩ := id hAB
  obtain ⟨hP, hP2, hS⟩ := hT
  refine lv_aload_n hx hb dL_law_1302 rfl (lv_at hl 1 rfl) ?_
  refine lv_aload_n hx hb dL_law_1303 rfl (lv_at hl 0 rfl) ?_
  refine lv_iload_n hx hb dL_law_1304 rfl (lv_at hl 3 rfl) ?_
  refine lv_iconst (v := (1 : Int32)) hx hb dL_law_1305 (by decide) ?_
  refine lv_iadd hx hb dL_law_1306 ?_
  have n1 : nI i + (1 : Int32) = nI (i + 1) := nI_add i 1
  have v1 : vp_in (nI i + (1 : Int32)) L := by rw [n1]; exact vp_in_nI (by omega) (by omega)
  obtain ⟨a1, ea1⟩ : ∃ z : Int32, z = xs (nI i + (1 : Int32)).toNatClampNeg := ⟨_, rfl⟩
  refine va_sld hx hb hX hbl hbA hS v1 dL_law_1307 ?_
  rw [← ea1]
  refine hVi (As := [.int a1]) (rest := []) ⟨hx, hb, hml, hown, hts⟩ (kX9_coins l D Y A hI1 H.size S a1 _ (s_coins hR a1)) (cwV 1 hts gL_law_X9_coins rfl rfl rfl (by decide +kernel) ⟨Nat.le_of_ble_eq_true rfl, Nat.le_of_ble_eq_true rfl⟩) hK hP hS (gF_to (z := 0) hS hA0) (aC0 Y A S) (show vwCl[9]? = some (RX9, TX9, 15) from rfl) rfl rfl hl.1 (Nat.le_of_ble_eq_true rfl) dL_law_1308 ⟨Nat.le_of_ble_eq_true rfl, Nat.le_of_ble_eq_true rfl⟩ ?_
  intro r1 S2 H1 locs h hP1 hS hk
  have hP2 := gStay rfl hP2 hne hk
  have hP := hP1
  clear hP1
  generalize H1 = H at hP hP2 hS ⊢
  refine lv_aload_n hx hb dL_law_1311 rfl (lv_at hl 2 rfl) ?_
  refine lv_aload_n hx hb dL_law_1312 rfl (lv_at hl 0 rfl) ?_
  refine lv_iload_n hx hb dL_law_1313 rfl (lv_at hl 3 rfl) ?_
  refine lv_iconst (v := (1 : Int32)) hx hb dL_law_1314 (by decide) ?_
  refine lv_iadd hx hb dL_law_1315 ?_
  refine va_sld hx hb hX hbl hbA hS v1 dL_law_1316 ?_
  rw [← ea1]
  refine hVi (As := [.int a1]) (rest := [.int r1]) ⟨hx, hb, hml, hown, hts⟩ (kX10_coins l D Y B hI2 H.size M a1 _ h) (cwV 1 hts gL_law_X10_coins rfl rfl rfl (by decide +kernel) ⟨Nat.le_of_ble_eq_true rfl, Nat.le_of_ble_eq_true rfl⟩) hK hP2 hS (gF_to (z := 0) hS hB0) (aM0 Y B M) (show vwCl[10]? = some (RX10, TX10, 54) from rfl) rfl rfl hl.1 (Nat.le_of_ble_eq_true rfl) dL_law_1317 ⟨Nat.le_of_ble_eq_true rfl, Nat.le_of_ble_eq_true rfl⟩ ?_
  intro r3 S4 H1 locs h hP1 hS hk
  have hP := gStay rfl hP (fun i j h1 h2 => Ne.symm (hne j i h2 h1)) hk
  have hP2 := hP1
  clear hP1
  generalize H1 = H at hP hP2 hS ⊢
  refine lv_icmp_eq (tgt := 1348) hx hb dL_law_1320 (by decide) (fun _ => ?_) (fun c5 => ?_)
  · exact kk S2 S4 _ _ _ h.2 ⟨hP, hP2, hS⟩ hl
  · exact absurd h.1 c5
set_option maxHeartbeats 4000000 in
set_option maxRecDepth 100000 in
theorem law_32 {p : Program} {e : Env} {s : State} {m : MethodId} {below : List Frame} {meth : Method} {c : Code} (l : Launch) {b L : Nat} {xs : Nat → Int32} (hL : L ≤ 3072) (C0 : lw_At p s m meth c b L xs) {D : va_G} {Y : Nat → ClassId} (hK : va_K D vwCl (tY Y) s) {A B : Nat → Nat} (hAB : gAB A B s.heap.size) {i : Nat} (hi : i + 6 ≤ L) {S M : gS} (hR : RS S M) {H : Heap} {locs : List Loc} {ls : Array Slot} (hT : gTwo D Y A B s S M H locs) (hl : lv_has ls 4 [(0, .ref b), (1, .ref (A 0)), (2, .ref (B 0)), (3, .int (nI i))])
    (kk : ∀ (S M : gS) (H : Heap) (locs : List Loc) (ls : Array Slot), RS S M → gTwo D Y A B s S M H locs → lv_has ls 4 [(0, .ref b), (1, .ref (A 0)), (2, .ref (B 0)), (3, .int (nI i))] → W p l e room_1 s m #[Value.ref b] below meth c H locs 600000 7302250 (lw_Z below #[Value.ref b] s) (F0 m 1348 ls [])) : W p l e room_1 s m #[Value.ref b] below meth c H locs 600000 7302250 (lw_Z below #[Value.ref b] s) (F0 m 1325 ls []) := by
  obtain ⟨hx, hb, hr, hml, hown, hts, hX, hbl, hlocks, hgv⟩ := id C0
  have hts : ∀ w ∈ wsL_law, w.before #[Value.ref b] s = true := fun w h => hts w (wsL_law_in w h)
  have hbA : ¬ (fun q : Nat => s.heap.size ≤ q) b := Nat.not_le.mpr hbl
  obtain ⟨hI1, hI2, hne, hA0, hB0⟩ := id hAB
  obtain ⟨hP, hP2, hS⟩ := hT
  refine lv_aload_n hx hb dL_law_1325 rfl (lv_at hl 1 rfl) ?_
  refine lv_aload_n hx hb dL_law_1326 rfl (lv_at hl 0 rfl) ?_
  refine lv_iload_n hx hb dL_law_1327 rfl (lv_at hl 3 rfl) ?_
  refine lv_iconst (v := (1 : Int32)) hx hb dL_law_1328 (by decide) ?_
  refine lv_iadd hx hb dL_law_1329 ?_
  have n1 : nI i + (1 : Int32) = nI (i + 1) := nI_add i 1
  have v1 : vp_in (nI i + (1 : Int32)) L := by rw [n1]; exact vp_in_nI (by omega) (by omega)
  obtain ⟨a1, ea1⟩ : ∃ z : Int32, z = xs (nI i + (1 : Int32)).toNatClampNeg := ⟨_, rfl⟩
  refine va_sld hx hb hX hbl hbA hS v1 dL_law_1330 ?_
  rw [← ea1]
  refine hVi (As := [.int a1]) (rest := []) ⟨hx, hb, hml, hown, hts⟩ (kX9_count l D Y A hI1 H.size S a1 _ (s_count hR a1)) (cwV 1 hts gL_law_X9_count rfl rfl rfl (by decide +kernel) ⟨Nat.le_of_ble_eq_true rfl, Nat.le_of_ble_eq_true rfl⟩) hK hP hS (gF_to (z := 0) hS hA0) (aC0 Y A S) (show vwCl[9]? = some (RX9, TX9, 15) from rfl) rfl rfl hl.1 (Nat.le_of_ble_eq_true rfl) dL_law_1331 ⟨Nat.le_of_ble_eq_true rfl, Nat.le_of_ble_eq_true rfl⟩ ?_
  intro r1 S2 H1 locs h hP1 hS hk
  have hP2 := gStay rfl hP2 hne hk
  have hP := hP1
  clear hP1
  generalize H1 = H at hP hP2 hS ⊢
  refine lv_aload_n hx hb dL_law_1334 rfl (lv_at hl 2 rfl) ?_
  refine lv_aload_n hx hb dL_law_1335 rfl (lv_at hl 0 rfl) ?_
  refine lv_iload_n hx hb dL_law_1336 rfl (lv_at hl 3 rfl) ?_
  refine lv_iconst (v := (1 : Int32)) hx hb dL_law_1337 (by decide) ?_
  refine lv_iadd hx hb dL_law_1338 ?_
  refine va_sld hx hb hX hbl hbA hS v1 dL_law_1339 ?_
  rw [← ea1]
  refine hVi (As := [.int a1]) (rest := [.int r1]) ⟨hx, hb, hml, hown, hts⟩ (kX10_count l D Y B hI2 H.size M a1 _ h) (cwV 1 hts gL_law_X10_count rfl rfl rfl (by decide +kernel) ⟨Nat.le_of_ble_eq_true rfl, Nat.le_of_ble_eq_true rfl⟩) hK hP2 hS (gF_to (z := 0) hS hB0) (aM0 Y B M) (show vwCl[10]? = some (RX10, TX10, 54) from rfl) rfl rfl hl.1 (Nat.le_of_ble_eq_true rfl) dL_law_1340 ⟨Nat.le_of_ble_eq_true rfl, Nat.le_of_ble_eq_true rfl⟩ ?_
  intro r3 S4 H1 locs h hP1 hS hk
  have hP := gStay rfl hP (fun i j h1 h2 => Ne.symm (hne j i h2 h1)) hk
  have hP2 := hP1
  clear hP1
  generalize H1 = H at hP hP2 hS ⊢
  refine lv_icmp_eq (tgt := 1348) hx hb dL_law_1343 (by decide) (fun _ => ?_) (fun c5 => ?_)
  · exact kk S2 S4 _ _ _ h.2 ⟨hP, hP2, hS⟩ hl
  · exact absurd h.1 c5
