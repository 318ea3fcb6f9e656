/-! the law's cases -/
set_option maxHeartbeats 4000000 in
set_option maxRecDepth 100000 in
theorem law_21 {p : Program} {e : Env} {s : State} {m : MethodId} {below : List Frame} {meth : Method} {c : Code} (l : Launch) {b L : Nat} {xs : Nat → Int32} (hL : L ≤ 3072) (C0 : lw_At p s m meth c b L xs) {D : va_G} {Y : Nat → ClassId} (hK : va_K D vwCl (tY Y) s) {A B : Nat → Nat} (hAB : gAB A B s.heap.size) {i : Nat} (hi : i + 6 ≤ L) {S M : gS} (hR : RS S M) {H : Heap} {locs : List Loc} {ls : Array Slot} (hT : gTwo D Y A B s S M H locs) (hl : lv_has ls 4 [(0, .ref b), (1, .ref (A 0)), (2, .ref (B 0)), (3, .int (nI i))])
    (kk : ∀ (S M : gS) (H : Heap) (locs : List Loc) (ls : Array Slot), RS S M → gTwo D Y A B s S M H locs → lv_has ls 4 [(0, .ref b), (1, .ref (A 0)), (2, .ref (B 0)), (3, .int (nI i))] → W p l e room_1 s m #[Value.ref b] below meth c H locs 600000 7302250 (lw_Z below #[Value.ref b] s) (F0 m 1348 ls [])) : W p l e room_1 s m #[Value.ref b] below meth c H locs 600000 7302250 (lw_Z below #[Value.ref b] s) (F0 m 919 ls []) := by
  obtain ⟨hx, hb, hr, hml, hown, hts, hX, hbl, hlocks, hgv⟩ := id C0
  have hts : ∀ w ∈ wsL_law, w.before #[Value.ref b] s = true := fun w h => hts w (wsL_law_in w h)
  have hbA : ¬ (fun q : Nat => s.heap.size ≤ q) b := Nat.not_le.mpr hbl
  obtain ⟨hI1, hI2, hne, hA0, hB0⟩ := id hAB
  obtain ⟨hP, hP2, hS⟩ := hT
  refine lv_aload_n hx hb dL_law_919 rfl (lv_at hl 1 rfl) ?_
  refine lv_aload_n hx hb dL_law_920 rfl (lv_at hl 0 rfl) ?_
  refine lv_iload_n hx hb dL_law_921 rfl (lv_at hl 3 rfl) ?_
  refine lv_iconst (v := (1 : Int32)) hx hb dL_law_922 (by decide) ?_
  refine lv_iadd hx hb dL_law_923 ?_
  have n1 : nI i + (1 : Int32) = nI (i + 1) := nI_add i 1
  have v1 : vp_in (nI i + (1 : Int32)) L := by rw [n1]; exact vp_in_nI (by omega) (by omega)
  obtain ⟨a1, ea1⟩ : ∃ z : Int32, z = xs (nI i + (1 : Int32)).toNatClampNeg := ⟨_, rfl⟩
  refine va_sld hx hb hX hbl hbA hS v1 dL_law_924 ?_
  rw [← ea1]
  refine lv_aload_n hx hb dL_law_925 rfl (lv_at hl 0 rfl) ?_
  refine lv_iload_n hx hb dL_law_926 rfl (lv_at hl 3 rfl) ?_
  refine lv_iconst (v := (2 : Int32)) hx hb dL_law_927 (by decide) ?_
  refine lv_iadd hx hb dL_law_928 ?_
  have n2 : nI i + (2 : Int32) = nI (i + 2) := nI_add i 2
  have v2 : vp_in (nI i + (2 : Int32)) L := by rw [n2]; exact vp_in_nI (by omega) (by omega)
  obtain ⟨a2, ea2⟩ : ∃ z : Int32, z = xs (nI i + (2 : Int32)).toNatClampNeg := ⟨_, rfl⟩
  refine va_sld hx hb hX hbl hbA hS v2 dL_law_929 ?_
  rw [← ea2]
  refine lv_aload_n hx hb dL_law_930 rfl (lv_at hl 0 rfl) ?_
  refine lv_iload_n hx hb dL_law_931 rfl (lv_at hl 3 rfl) ?_
  refine lv_iconst (v := (3 : Int32)) hx hb dL_law_932 (by decide) ?_
  refine lv_iadd hx hb dL_law_933 ?_
  have n3 : nI i + (3 : Int32) = nI (i + 3) := nI_add i 3
  have v3 : vp_in (nI i + (3 : Int32)) L := by rw [n3]; exact vp_in_nI (by omega) (by omega)
  obtain ⟨a3, ea3⟩ : ∃ z : Int32, z = xs (nI i + (3 : Int32)).toNatClampNeg := ⟨_, rfl⟩
  refine va_sld hx hb hX hbl hbA hS v3 dL_law_934 ?_
  rw [← ea3]
  refine hVl (As := [.int a1, .int a2, .int a3]) (rest := []) ⟨hx, hb, hml, hown, hts⟩ (kX9_belief l D Y A hI1 H.size S a1 a2 a3 _ (s_belief hR a1 a2 a3)) (cwV 3 hts gL_law_X9_belief rfl rfl rfl (by decide +kernel) ⟨Nat.le_of_ble_eq_true rfl, Nat.le_of_ble_eq_true rfl⟩) hK hP hS (gF_to (z := 0) hS hA0) (aC0 Y A S) (show vwCl[9]? = some (RX9, TX9, 15) from rfl) rfl rfl hl.1 (Nat.le_of_ble_eq_true rfl) dL_law_935 ⟨Nat.le_of_ble_eq_true rfl, Nat.le_of_ble_eq_true rfl⟩ ?_
  intro r1 S2 H1 locs h hP1 hS hk
  have hP2 := gStay rfl hP2 hne hk
  have hP := hP1
  clear hP1
  generalize H1 = H at hP hP2 hS ⊢
  refine lv_aload_n hx hb dL_law_938 rfl (lv_at hl 2 rfl) ?_
  refine lv_aload_n hx hb dL_law_939 rfl (lv_at hl 0 rfl) ?_
  refine lv_iload_n hx hb dL_law_940 rfl (lv_at hl 3 rfl) ?_
  refine lv_iconst (v := (1 : Int32)) hx hb dL_law_941 (by decide) ?_
  refine lv_iadd hx hb dL_law_942 ?_
  refine va_sld hx hb hX hbl hbA hS v1 dL_law_943 ?_
  rw [← ea1]
  refine lv_aload_n hx hb dL_law_944 rfl (lv_at hl 0 rfl) ?_
  refine lv_iload_n hx hb dL_law_945 rfl (lv_at hl 3 rfl) ?_
  refine lv_iconst (v := (2 : Int32)) hx hb dL_law_946 (by decide) ?_
  refine lv_iadd hx hb dL_law_947 ?_
  refine va_sld hx hb hX hbl hbA hS v2 dL_law_948 ?_
  rw [← ea2]
  refine lv_aload_n hx hb dL_law_949 rfl (lv_at hl 0 rfl) ?_
  refine lv_iload_n hx hb dL_law_950 rfl (lv_at hl 3 rfl) ?_
  refine lv_iconst (v := (3 : Int32)) hx hb dL_law_951 (by decide) ?_
  refine lv_iadd hx hb dL_law_952 ?_
  refine va_sld hx hb hX hbl hbA hS v3 dL_law_953 ?_
  rw [← ea3]
  refine hVl (As := [.int a1, .int a2, .int a3]) (rest := [.long r1]) ⟨hx, hb, hml, hown, hts⟩ (kX10_belief l D Y B hI2 H.size M a1 a2 a3 _ h) (cwV 3 hts gL_law_X10_belief rfl rfl rfl (by decide +kernel) ⟨Nat.le_of_ble_eq_true rfl, Nat.le_of_ble_eq_true rfl⟩) hK hP2 hS (gF_to (z := 0) hS hB0) (aM0 Y B M) (show vwCl[10]? = some (RX10, TX10, 54) from rfl) rfl rfl hl.1 (Nat.le_of_ble_eq_true rfl) dL_law_954 ⟨Nat.le_of_ble_eq_true rfl, Nat.le_of_ble_eq_true rfl⟩ ?_
  intro r3 S4 H1 locs h hP1 hS hk
  have hP := gStay rfl hP (fun i j h1 h2 => Ne.symm (hne j i h2 h1)) hk
  have hP2 := hP1
  clear hP1
  generalize H1 = H at hP hP2 hS ⊢
  refine W.lcmp hx hb dL_law_957 ?_
  refine lv_if_eq (tgt := 1348) hx hb dL_law_958 (by decide) (fun _ => ?_) (fun c5 => ?_)
  · exact kk S2 S4 _ _ _ h.2 ⟨hP, hP2, hS⟩ hl
  · exact absurd (by rw [h.1]; exact cmp_self _) c5
set_option maxHeartbeats 4000000 in
set_option maxRecDepth 100000 in
theorem law_22 {p : Program} {e : Env} {s : State} {m : MethodId} {below : List Frame} {meth : Method} {c : Code} (l : Launch) {b L : Nat} {xs : Nat → Int32} (hL : L ≤ 3072) (C0 : lw_At p s m meth c b L xs) {D : va_G} {Y : Nat → ClassId} (hK : va_K D vwCl (tY Y) s) {A B : Nat → Nat} (hAB : gAB A B s.heap.size) {i : Nat} (hi : i + 6 ≤ L) {S M : gS} (hR : RS S M) {H : Heap} {locs : List Loc} {ls : Array Slot} (hT : gTwo D Y A B s S M H locs) (hl : lv_has ls 4 [(0, .ref b), (1, .ref (A 0)), (2, .ref (B 0)), (3, .int (nI i))])
    (kk : ∀ (S M : gS) (H : Heap) (locs : List Loc) (ls : Array Slot), RS S M → gTwo D Y A B s S M H locs → lv_has ls 4 [(0, .ref b), (1, .ref (A 0)), (2, .ref (B 0)), (3, .int (nI i))] → W p l e room_1 s m #[Value.ref b] below meth c H locs 600000 7302250 (lw_Z below #[Value.ref b] s) (F0 m 1348 ls [])) : W p l e room_1 s m #[Value.ref b] below meth c H locs 600000 7302250 (lw_Z below #[Value.ref b] s) (F0 m 963 ls []) := by
  obtain ⟨hx, hb, hr, hml, hown, hts, hX, hbl, hlocks, hgv⟩ := id C0
  have hts : ∀ w ∈ wsL_law, w.before #[Value.ref b] s = true := fun w h => hts w (wsL_law_in w h)
  have hbA : ¬ (fun q : Nat => s.heap.size ≤ q) b := Nat.not_le.mpr hbl
  obtain ⟨hI1, hI2, hne, hA0, hB0⟩ := id hAB
  obtain ⟨hP, hP2, hS⟩ := hT
  refine lv_aload_n hx hb dL_law_963 rfl (lv_at hl 1 rfl) ?_
  refine lv_aload_n hx hb dL_law_964 rfl (lv_at hl 0 rfl) ?_
  refine lv_iload_n hx hb dL_law_965 rfl (lv_at hl 3 rfl) ?_
  refine lv_iconst (v := (1 : Int32)) hx hb dL_law_966 (by decide) ?_
  refine lv_iadd hx hb dL_law_967 ?_
  have n1 : nI i + (1 : Int32) = nI (i + 1) := nI_add i 1
  have v1 : vp_in (nI i + (1 : Int32)) L := by rw [n1]; exact vp_in_nI (by omega) (by omega)
  obtain ⟨a1, ea1⟩ : ∃ z : Int32, z = xs (nI i + (1 : Int32)).toNatClampNeg := ⟨_, rfl⟩
  refine va_sld hx hb hX hbl hbA hS v1 dL_law_968 ?_
  rw [← ea1]
  refine lv_aload_n hx hb dL_law_969 rfl (lv_at hl 0 rfl) ?_
  refine lv_iload_n hx hb dL_law_970 rfl (lv_at hl 3 rfl) ?_
  refine lv_iconst (v := (2 : Int32)) hx hb dL_law_971 (by decide) ?_
  refine lv_iadd hx hb dL_law_972 ?_
  have n2 : nI i + (2 : Int32) = nI (i + 2) := nI_add i 2
  have v2 : vp_in (nI i + (2 : Int32)) L := by rw [n2]; exact vp_in_nI (by omega) (by omega)
  obtain ⟨a2, ea2⟩ : ∃ z : Int32, z = xs (nI i + (2 : Int32)).toNatClampNeg := ⟨_, rfl⟩
  refine va_sld hx hb hX hbl hbA hS v2 dL_law_973 ?_
  rw [← ea2]
  refine hVi (As := [.int a1, .int a2]) (rest := []) ⟨hx, hb, hml, hown, hts⟩ (kX9_weight l D Y A hI1 H.size S a1 a2 _ (s_weight hR a1 a2)) (cwV 2 hts gL_law_X9_weight rfl rfl rfl (by decide +kernel) ⟨Nat.le_of_ble_eq_true rfl, Nat.le_of_ble_eq_true rfl⟩) hK hP hS (gF_to (z := 0) hS hA0) (aC0 Y A S) (show vwCl[9]? = some (RX9, TX9, 15) from rfl) rfl rfl hl.1 (Nat.le_of_ble_eq_true rfl) dL_law_974 ⟨Nat.le_of_ble_eq_true rfl, Nat.le_of_ble_eq_true rfl⟩ ?_
  intro r1 S2 H1 locs h hP1 hS hk
  have hP2 := gStay rfl hP2 hne hk
  have hP := hP1
  clear hP1
  generalize H1 = H at hP hP2 hS ⊢
  refine lv_aload_n hx hb dL_law_977 rfl (lv_at hl 2 rfl) ?_
  refine lv_aload_n hx hb dL_law_978 rfl (lv_at hl 0 rfl) ?_
  refine lv_iload_n hx hb dL_law_979 rfl (lv_at hl 3 rfl) ?_
  refine lv_iconst (v := (1 : Int32)) hx hb dL_law_980 (by decide) ?_
  refine lv_iadd hx hb dL_law_981 ?_
  refine va_sld hx hb hX hbl hbA hS v1 dL_law_982 ?_
  rw [← ea1]
  refine lv_aload_n hx hb dL_law_983 rfl (lv_at hl 0 rfl) ?_
  refine lv_iload_n hx hb dL_law_984 rfl (lv_at hl 3 rfl) ?_
  refine lv_iconst (v := (2 : Int32)) hx hb dL_law_985 (by decide) ?_
  refine lv_iadd hx hb dL_law_986 ?_
  refine va_sld hx hb hX hbl hbA hS v2 dL_law_987 ?_
  rw [← ea2]
  refine hVi (As := [.int a1, .int a2]) (rest := [.int r1]) ⟨hx, hb, hml, hown, hts⟩ (kX10_weight l D Y B hI2 H.size M a1 a2 _ h) (cwV 2 hts gL_law_X10_weight rfl rfl rfl (by decide +kernel) ⟨Nat.le_of_ble_eq_true rfl, Nat.le_of_ble_eq_true rfl⟩) hK hP2 hS (gF_to (z := 0) hS hB0) (aM0 Y B M) (show vwCl[10]? = some (RX10, TX10, 54) from rfl) rfl rfl hl.1 (Nat.le_of_ble_eq_true rfl) dL_law_988 ⟨Nat.le_of_ble_eq_true rfl, Nat.le_of_ble_eq_true rfl⟩ ?_
  intro r3 S4 H1 locs h hP1 hS hk
  have hP := gStay rfl hP (fun i j h1 h2 => Ne.symm (hne j i h2 h1)) hk
  have hP2 := hP1
  clear hP1
  generalize H1 = H at hP hP2 hS ⊢
  refine lv_icmp_eq (tgt := 1348) hx hb dL_law_991 (by decide) (fun _ => ?_) (fun c5 => ?_)
  · exact kk S2 S4 _ _ _ h.2 ⟨hP, hP2, hS⟩ hl
  · exact absurd h.1 c5
set_option maxHeartbeats 4000000 in
set_option maxRecDepth 100000 in
theorem law_23 {p : Program} {e : Env} {s : State} {m : MethodId} {below : List Frame} {meth : Method} {c : Code} (l : Launch) {b L : Nat} {xs : Nat → Int32} (hL : L ≤ 3072) (C0 : lw_At p s m meth c b L xs) {D : va_G} {Y : Nat → ClassId} (hK : va_K D vwCl (tY Y) s) {A B : Nat → Nat} (hAB : gAB A B s.heap.size) {i : Nat} (hi : i + 6 ≤ L) {S M : gS} (hR : RS S M) {H : Heap} {locs : List Loc} {ls : Array Slot} (hT : gTwo D Y A B s S M H locs) (hl : lv_has ls 4 [(0, .ref b), (1, .ref (A 0)), (2, .ref (B 0)), (3, .int (nI i))])
    (kk : ∀ (S M : gS) (H : Heap) (locs : List Loc) (ls : Array Slot), RS S M → gTwo D Y A B s S M H locs → lv_has ls 4 [(0, .ref b), (1, .ref (A 0)), (2, .ref (B 0)), (3, .int (nI i))] → W p l e room_1 s m #[Value.ref b] below meth c H locs 600000 7302250 (lw_Z below #[Value.ref b] s) (F0 m 1348 ls [])) : W p l e room_1 s m #[Value.ref b] below meth c H locs 600000 7302250 (lw_Z below #[Value.ref b] s) (F0 m 996 ls []) := by
  obtain ⟨hx, hb, hr, hml, hown, hts, hX, hbl, hlocks, hgv⟩ := id C0
  have hts : ∀ w ∈ wsL_law, w.before #[Value.ref b] s = true := fun w h => hts w (wsL_law_in w h)
  have hbA : ¬ (fun q : Nat => s.heap.size ≤ q) b := Nat.not_le.mpr hbl
  obtain ⟨hI1, hI2, hne, hA0, hB0⟩ := id hAB
  obtain ⟨hP, hP2, hS⟩ := hT
  refine lv_aload_n hx hb dL_law_996 rfl (lv_at hl 1 rfl) ?_
  refine lv_aload_n hx hb dL_law_997 rfl (lv_at hl 0 rfl) ?_
  refine lv_iload_n hx hb dL_law_998 rfl (lv_at hl 3 rfl) ?_
  refine lv_iconst (v := (1 : Int32)) hx hb dL_law_999 (by decide) ?_
  refine lv_iadd hx hb dL_law_1000 ?_
  have n1 : nI i + (1 : Int32) = nI (i + 1) := nI_add i 1
  have v1 : vp_in (nI i + (1 : Int32)) L := by rw [n1]; exact vp_in_nI (by omega) (by omega)
  obtain ⟨a1, ea1⟩ : ∃ z : Int32, z = xs (nI i + (1 : Int32)).toNatClampNeg := ⟨_, rfl⟩
  refine va_sld hx hb hX hbl hbA hS v1 dL_law_1001 ?_
  rw [← ea1]
  refine lv_aload_n hx hb dL_law_1002 rfl (lv_at hl 0 rfl) ?_
  refine lv_iload_n hx hb dL_law_1003 rfl (lv_at hl 3 rfl) ?_
  refine lv_iconst (v := (2 : Int32)) hx hb dL_law_1004 (by decide) ?_
  refine lv_iadd hx hb dL_law_1005 ?_
  have n2 : nI i + (2 : Int32) = nI (i + 2) := nI_add i 2
  have v2 : vp_in (nI i + (2 : Int32)) L := by rw [n2]; exact vp_in_nI (by omega) (by omega)
  obtain ⟨a2, ea2⟩ : ∃ z : Int32, z = xs (nI i + (2 : Int32)).toNatClampNeg := ⟨_, rfl⟩
  refine va_sld hx hb hX hbl hbA hS v2 dL_law_1006 ?_
  rw [← ea2]
  refine lv_aload_n hx hb dL_law_1007 rfl (lv_at hl 0 rfl) ?_
  refine lv_iload_n hx hb dL_law_1008 rfl (lv_at hl 3 rfl) ?_
  refine lv_iconst (v := (3 : Int32)) hx hb dL_law_1009 (by decide) ?_
  refine lv_iadd hx hb dL_law_1010 ?_
  have n3 : nI i + (3 : Int32) = nI (i + 3) := nI_add i 3
  have v3 : vp_in (nI i + (3 : Int32)) L := by rw [n3]; exact vp_in_nI (by omega) (by omega)
  obtain ⟨a3, ea3⟩ : ∃ z : Int32, z = xs (nI i + (3 : Int32)).toNatClampNeg := ⟨_, rfl⟩
  refine va_sld hx hb hX hbl hbA hS v3 dL_law_1011 ?_
  rw [← ea3]
  refine hVl (As := [.int a1, .int a2, .int a3]) (rest := []) ⟨hx, hb, hml, hown, hts⟩ (kX9_value l D Y A hI1 H.size S a1 a2 a3 _ (s_value hR a1 a2 a3)) (cwV 3 hts gL_law_X9_value rfl rfl rfl (by decide +kernel) ⟨Nat.le_of_ble_eq_true rfl, Nat.le_of_ble_eq_true rfl⟩) hK hP hS (gF_to (z := 0) hS hA0) (aC0 Y A S) (show vwCl[9]? = some (RX9, TX9, 15) from rfl) rfl rfl hl.1 (Nat.le_of_ble_eq_true rfl) dL_law_1012 ⟨Nat.le_of_ble_eq_true rfl, Nat.le_of_ble_eq_true rfl⟩ ?_
  intro r1 S2 H1 locs h hP1 hS hk
  have hP2 := gStay rfl hP2 hne hk
  have hP := hP1
  clear hP1
  generalize H1 = H at hP hP2 hS ⊢
  refine lv_aload_n hx hb dL_law_1015 rfl (lv_at hl 2 rfl) ?_
  refine lv_aload_n hx hb dL_law_1016 rfl (lv_at hl 0 rfl) ?_
  refine lv_iload_n hx hb dL_law_1017 rfl (lv_at hl 3 rfl) ?_
  refine lv_iconst (v := (1 : Int32)) hx hb dL_law_1018 (by decide) ?_
  refine lv_iadd hx hb dL_law_1019 ?_
  refine va_sld hx hb hX hbl hbA hS v1 dL_law_1020 ?_
  rw [← ea1]
  refine lv_aload_n hx hb dL_law_1021 rfl (lv_at hl 0 rfl) ?_
  refine lv_iload_n hx hb dL_law_1022 rfl (lv_at hl 3 rfl) ?_
  refine lv_iconst (v := (2 : Int32)) hx hb dL_law_1023 (by decide) ?_
  refine lv_iadd hx hb dL_law_1024 ?_
  refine va_sld hx hb hX hbl hbA hS v2 dL_law_1025 ?_
  rw [← ea2]
  refine lv_aload_n hx hb dL_law_1026 rfl (lv_at hl 0 rfl) ?_
  refine lv_iload_n hx hb dL_law_1027 rfl (lv_at hl 3 rfl) ?_
  refine lv_iconst (v := (3 : Int32)) hx hb dL_law_1028 (by decide) ?_
  refine lv_iadd hx hb dL_law_1029 ?_
  refine va_sld hx hb hX hbl hbA hS v3 dL_law_1030 ?_
  rw [← ea3]
  refine hVl (As := [.int a1, .int a2, .int a3]) (rest := [.long r1]) ⟨hx, hb, hml, hown, hts⟩ (kX10_value l D Y B hI2 H.size M a1 a2 a3 _ h) (cwV 3 hts gL_law_X10_value rfl rfl rfl (by decide +kernel) ⟨Nat.le_of_ble_eq_true rfl, Nat.le_of_ble_eq_true rfl⟩) hK hP2 hS (gF_to (z := 0) hS hB0) (aM0 Y B M) (show vwCl[10]? = some (RX10, TX10, 54) from rfl) rfl rfl hl.1 (Nat.le_of_ble_eq_true rfl) dL_law_1031 ⟨Nat.le_of_ble_eq_true rfl, Nat.le_of_ble_eq_true rfl⟩ ?_
  intro r3 S4 H1 locs h hP1 hS hk
  have hP := gStay rfl hP (fun i j h1 h2 => Ne.symm (hne j i h2 h1)) hk
  have hP2 := hP1
  clear hP1
  generalize H1 = H at hP hP2 hS ⊢
  refine W.lcmp hx hb dL_law_1034 ?_
  refine lv_if_eq (tgt := 1348) hx hb dL_law_1035 (by decide) (fun _ => ?_) (fun c5 => ?_)
  · exact kk S2 S4 _ _ _ h.2 ⟨hP, hP2, hS⟩ hl
  · exact absurd (by rw [h.1]; exact cmp_self _) c5
set_option maxHeartbeats 4000000 in
set_option maxRecDepth 100000 in
theorem law_24 {p : Program} {e : Env} {s : State} {m : MethodId} {below : List Frame} {meth : Method} {c : Code} (l : Launch) {b L : Nat} {xs : Nat → Int32} (hL : L ≤ 3072) (C0 : lw_At p s m meth c b L xs) {D : va_G} {Y : Nat → ClassId} (hK : va_K D vwCl (tY Y) s) {A B : Nat → Nat} (hAB : gAB A B s.heap.size) {i : Nat} (hi : i + 6 ≤ L) {S M : gS} (hR : RS S M) {H : Heap} {locs : List Loc} {ls : Array Slot} (hT : gTwo D Y A B s S M H locs) (hl : lv_has ls 4 [(0, .ref b), (1, .ref (A 0)), (2, .ref (B 0)), (3, .int (nI i))])
    (kk : ∀ (S M : gS) (H : Heap) (locs : List Loc) (ls : Array Slot), RS S M → gTwo D Y A B s S M H locs → lv_has ls 4 [(0, .ref b), (1, .ref (A 0)), (2, .ref (B 0)), (3, .int (nI i))] → W p l e room_1 s m #[Value.ref b] below meth c H locs 600000 7302250 (lw_Z below #[Value.ref b] s) (F0 m 1348 ls [])) : W p l e room_1 s m #[Value.ref b] below meth c H locs 600000 7302250 (lw_Z below #[Value.ref b] s) (F0 m 1040 ls []) := by
  obtain ⟨hx, hb, hr, hml, hown, hts, hX, hbl, hlocks, hgv⟩ := id C0
  have hts : ∀ w ∈ wsL_law, w.before #[Value.ref b] s = true := fun w h => hts w (wsL_law_in w h)
  have hbA : ¬ (fun q : Nat => s.heap.size ≤ q) b := Nat.not_le.mpr hbl
  obtain ⟨hI1, hI2, hne, hA0, hB0⟩ := id hAB
  obtain ⟨hP, hP2, hS⟩ := hT
  refine lv_aload_n hx hb dL_law_1040 rfl (lv_at hl 1 rfl) ?_
  refine lv_aload_n hx hb dL_law_1041 rfl (lv_at hl 0 rfl) ?_
  refine lv_iload_n hx hb dL_law_1042 rfl (lv_at hl 3 rfl) ?_
  refine lv_iconst (v := (1 : Int32)) hx hb dL_law_1043 (by decide) ?_
  refine lv_iadd hx hb dL_law_1044 ?_
  have n1 : nI i + (1 : Int32) = nI (i + 1) := nI_add i 1
  have v1 : vp_in (nI i + (1 : Int32)) L := by rw [n1]; exact vp_in_nI (by omega) (by omega)
  obtain ⟨a1, ea1⟩ : ∃ z : Int32, z = xs (nI i + (1 : Int32)).toNatClampNeg := ⟨_, rfl⟩
  refine va_sld hx hb hX hbl hbA hS v1 dL_law_1045 ?_
  rw [← ea1]
  refine lv_aload_n hx hb dL_law_1046 rfl (lv_at hl 0 rfl) ?_
  refine lv_iload_n hx hb dL_law_1047 rfl (lv_at hl 3 rfl) ?_
  refine lv_iconst (v := (2 : Int32)) hx hb dL_law_1048 (by decide) ?_
  refine lv_iadd hx hb dL_law_1049 ?_
  have n2 : nI i + (2 : Int32) = nI (i + 2) := nI_add i 2
  have v2 : vp_in (nI i + (2 : Int32)) L := by rw [n2]; exact vp_in_nI (by omega) (by omega)
  obtain ⟨a2, ea2⟩ : ∃ z : Int32, z = xs (nI i + (2 : Int32)).toNatClampNeg := ⟨_, rfl⟩
  refine va_sld hx hb hX hbl hbA hS v2 dL_law_1050 ?_
  rw [← ea2]
  refine lv_aload_n hx hb dL_law_1051 rfl (lv_at hl 0 rfl) ?_
  refine lv_iload_n hx hb dL_law_1052 rfl (lv_at hl 3 rfl) ?_
  refine lv_iconst (v := (3 : Int32)) hx hb dL_law_1053 (by decide) ?_
  refine lv_iadd hx hb dL_law_1054 ?_
  have n3 : nI i + (3 : Int32) = nI (i + 3) := nI_add i 3
  have v3 : vp_in (nI i + (3 : Int32)) L := by rw [n3]; exact vp_in_nI (by omega) (by omega)
  obtain ⟨a3, ea3⟩ : ∃ z : Int32, z = xs (nI i + (3 : Int32)).toNatClampNeg := ⟨_, rfl⟩
  refine va_sld hx hb hX hbl hbA hS v3 dL_law_1055 ?_
  rw [← ea3]
  refine lv_aload_n hx hb dL_law_1056 rfl (lv_at hl 0 rfl) ?_
  refine lv_iload_n hx hb dL_law_1057 rfl (lv_at hl 3 rfl) ?_
  refine lv_iconst (v := (4 : Int32)) hx hb dL_law_1058 (by decide) ?_
  refine lv_iadd hx hb dL_law_1059 ?_
  have n4 : nI i + (4 : Int32) = nI (i + 4) := nI_add i 4
  have v4 : vp_in (nI i + (4 : Int32)) L := by rw [n4]; exact vp_in_nI (by omega) (by omega)
  obtain ⟨a4, ea4⟩ : ∃ z : Int32, z = xs (nI i + (4 : Int32)).toNatClampNeg := ⟨_, rfl⟩
  refine va_sld hx hb hX hbl hbA hS v4 dL_law_1060 ?_
  rw [← ea4]
  refine hVl (As := [.int a1, .int a2, .int a3, .int a4]) (rest := []) ⟨hx, hb, hml, hown, hts⟩ (kX9_chance l D Y A hI1 H.size S a1 a2 a3 a4 _ (s_chance hR a1 a2 a3 a4)) (cwV 4 hts gL_law_X9_chance rfl rfl rfl (by decide +kernel) ⟨Nat.le_of_ble_eq_true rfl, Nat.le_of_ble_eq_true rfl⟩) hK hP hS (gF_to (z := 0) hS hA0) (aC0 Y A S) (show vwCl[9]? = some (RX9, TX9, 15) from rfl) rfl rfl hl.1 (Nat.le_of_ble_eq_true rfl) dL_law_1061 ⟨Nat.le_of_ble_eq_true rfl, Nat.le_of_ble_eq_true rfl⟩ ?_
  intro r1 S2 H1 locs h hP1 hS hk
  have hP2 := gStay rfl hP2 hne hk
  have hP := hP1
  clear hP1
  generalize H1 = H at hP hP2 hS ⊢
  refine lv_aload_n hx hb dL_law_1064 rfl (lv_at hl 2 rfl) ?_
  refine lv_aload_n hx hb dL_law_1065 rfl (lv_at hl 0 rfl) ?_
  refine lv_iload_n hx hb dL_law_1066 rfl (lv_at hl 3 rfl) ?_
  refine lv_iconst (v := (1 : Int32)) hx hb dL_law_1067 (by decide) ?_
  refine lv_iadd hx hb dL_law_1068 ?_
  refine va_sld hx hb hX hbl hbA hS v1 dL_law_1069 ?_
  rw [← ea1]
  refine lv_aload_n hx hb dL_law_1070 rfl (lv_at hl 0 rfl) ?_
  refine lv_iload_n hx hb dL_law_1071 rfl (lv_at hl 3 rfl) ?_
  refine lv_iconst (v := (2 : Int32)) hx hb dL_law_1072 (by decide) ?_
  refine lv_iadd hx hb dL_law_1073 ?_
  refine va_sld hx hb hX hbl hbA hS v2 dL_law_1074 ?_
  rw [← ea2]
  refine lv_aload_n hx hb dL_law_1075 rfl (lv_at hl 0 rfl) ?_
  refine lv_iload_n hx hb dL_law_1076 rfl (lv_at hl 3 rfl) ?_
  refine lv_iconst (v := (3 : Int32)) hx hb dL_law_1077 (by decide) ?_
  refine lv_iadd hx hb dL_law_1078 ?_
  refine va_sld hx hb hX hbl hbA hS v3 dL_law_1079 ?_
  rw [← ea3]
  refine lv_aload_n hx hb dL_law_1080 rfl (lv_at hl 0 rfl) ?_
  refine lv_iload_n hx hb dL_law_1081 rfl (lv_at hl 3 rfl) ?_
  refine lv_iconst (v := (4 : Int32)) hx hb dL_law_1082 (by decide) ?_
  refine lv_iadd hx hb dL_law_1083 ?_
  refine va_sld hx hb hX hbl hbA hS v4 dL_law_1084 ?_
  rw [← ea4]
  refine hVl (As := [.int a1, .int a2, .int a3, .int a4]) (rest := [.long r1]) ⟨hx, hb, hml, hown, hts⟩ (kX10_chance l D Y B hI2 H.size M a1 a2 a3 a4 _ h) (cwV 4 hts gL_law_X10_chance rfl rfl rfl (by decide +kernel) ⟨Nat.le_of_ble_eq_true rfl, Nat.le_of_ble_eq_true rfl⟩) hK hP2 hS (gF_to (z := 0) hS hB0) (aM0 Y B M) (show vwCl[10]? = some (RX10, TX10, 54) from rfl) rfl rfl hl.1 (Nat.le_of_ble_eq_true rfl) dL_law_1085 ⟨Nat.le_of_ble_eq_true rfl, Nat.le_of_ble_eq_true rfl⟩ ?_
  intro r3 S4 H1 locs h hP1 hS hk
  have hP := gStay rfl hP (fun i j h1 h2 => Ne.symm (hne j i h2 h1)) hk
  have hP2 := hP1
  clear hP1
  generalize H1 = H at hP hP2 hS ⊢
  refine W.lcmp hx hb dL_law_1088 ?_
  refine lv_if_eq (tgt := 1348) hx hb dL_law_1089 (by decide) (fun _ => ?_) (fun c5 => ?_)
  · exact kk S2 S4 _ _ _ h.2 ⟨hP, hP2, hS⟩ hl
  · exact absurd (by rw [h.1]; exact cmp_self _) c5
set_option maxHeartbeats 4000000 in
set_option maxRecDepth 100000 in
theorem law_25 {p : Program} {e : Env} {s : State} {m : MethodId} {below : List Frame} {meth : Method} {c : Code} (l : Launch) {b L : Nat} {xs : Nat → Int32} (hL : L ≤ 3072) (C0 : lw_At p s m meth c b L xs) {D : va_G} {Y : Nat → ClassId} (hK : va_K D vwCl (tY Y) s) {A B : Nat → Nat} (hAB : gAB A B s.heap.size) {i : Nat} (hi : i + 6 ≤ L) {S M : gS} (hR : RS S M) {H : Heap} {locs : List Loc} {ls : Array Slot} (hT : gTwo D Y A B s S M H locs) (hl : lv_has ls 4 [(0, .ref b), (1, .ref (A 0)), (2, .ref (B 0)), (3, .int (nI i))])
    (kk : ∀ (S M : gS) (H : Heap) (locs : List Loc) (ls : Array Slot), RS S M → gTwo D Y A B s S M H locs → lv_has ls 4 [(0, .ref b), (1, .ref (A 0)), (2, .ref (B 0)), (3, .int (nI i))] → W p l e room_1 s m #[Value.ref b] below meth c H locs 600000 7302250 (lw_Z below #[Value.ref b] s) (F0 m 1348 ls [])) : W p l e room_1 s m #[Value.ref b] below meth c H locs 600000 7302250 (lw_Z below #[Value.ref b] s) (F0 m 1094 ls []) := by
  obtain ⟨hx, hb, hr, hml, hown, hts, hX, hbl, hlocks, hgv⟩ := id C0
  have hts : ∀ w ∈ wsL_law, w.before #[Value.ref b] s = true := fun w h => hts w (wsL_law_in w h)
  have hbA : ¬ (fun q : Nat => s.heap.size ≤ q) b := Nat.not_le.mpr hbl
  obtain ⟨hI1, hI2, hne, hA0, hB0⟩ := id hAB
  obtain ⟨hP, hP2, hS⟩ := hT
  refine lv_aload_n hx hb dL_law_1094 rfl (lv_at hl 1 rfl) ?_
  refine lv_aload_n hx hb dL_law_1095 rfl (lv_at hl 0 rfl) ?_
  refine lv_iload_n hx hb dL_law_1096 rfl (lv_at hl 3 rfl) ?_
  refine lv_iconst (v := (1 : Int32)) hx hb dL_law_1097 (by decide) ?_
  refine lv_iadd hx hb dL_law_1098 ?_
  have n1 : nI i + (1 : Int32) = nI (i + 1) := nI_add i 1
  have v1 : vp_in (nI i + (1 : Int32)) L := by rw [n1]; exact vp_in_nI (by omega) (by omega)
  obtain ⟨a1, ea1⟩ : ∃ z : Int32, z = xs (nI i + (1 : Int32)).toNatClampNeg := ⟨_, rfl⟩
  refine va_sld hx hb hX hbl hbA hS v1 dL_law_1099 ?_
  rw [← ea1]
  refine lv_aload_n hx hb dL_law_1100 rfl (lv_at hl 0 rfl) ?_
  refine lv_iload_n hx hb dL_law_1101 rfl (lv_at hl 3 rfl) ?_
  refine lv_iconst (v := (2 : Int32)) hx hb dL_law_1102 (by decide) ?_
  refine lv_iadd hx hb dL_law_1103 ?_
  have n2 : nI i + (2 : Int32) = nI (i + 2) := nI_add i 2
  have v2 : vp_in (nI i + (2 : Int32)) L := by rw [n2]; exact vp_in_nI (by omega) (by omega)
  obtain ⟨a2, ea2⟩ : ∃ z : Int32, z = xs (nI i + (2 : Int32)).toNatClampNeg := ⟨_, rfl⟩
  refine va_sld hx hb hX hbl hbA hS v2 dL_law_1104 ?_
  rw [← ea2]
  refine lv_aload_n hx hb dL_law_1105 rfl (lv_at hl 0 rfl) ?_
  refine lv_iload_n hx hb dL_law_1106 rfl (lv_at hl 3 rfl) ?_
  refine lv_iconst (v := (3 : Int32)) hx hb dL_law_1107 (by decide) ?_
  refine lv_iadd hx hb dL_law_1108 ?_
  have n3 : nI i + (3 : Int32) = nI (i + 3) := nI_add i 3
  have v3 : vp_in (nI i + (3 : Int32)) L := by rw [n3]; exact vp_in_nI (by omega) (by omega)
  obtain ⟨a3, ea3⟩ : ∃ z : Int32, z = xs (nI i + (3 : Int32)).toNatClampNeg := ⟨_, rfl⟩
  refine va_sld hx hb hX hbl hbA hS v3 dL_law_1109 ?_
  rw [← ea3]
  refine lv_aload_n hx hb dL_law_1110 rfl (lv_at hl 0 rfl) ?_
  refine lv_iload_n hx hb dL_law_1111 rfl (lv_at hl 3 rfl) ?_
  refine lv_iconst (v := (4 : Int32)) hx hb dL_law_1112 (by decide) ?_
  refine lv_iadd hx hb dL_law_1113 ?_
  have n4 : nI i + (4 : Int32) = nI (i + 4) := nI_add i 4
  have v4 : vp_in (nI i + (4 : Int32)) L := by rw [n4]; exact vp_in_nI (by omega) (by omega)
  obtain ⟨a4, ea4⟩ : ∃ z : Int32, z = xs (nI i + (4 : Int32)).toNatClampNeg := ⟨_, rfl⟩
  refine va_sld hx hb hX hbl hbA hS v4 dL_law_1114 ?_
  rw [← ea4]
  refine hVi (As := [.int a1, .int a2, .int a3, .int a4]) (rest := []) ⟨hx, hb, hml, hown, hts⟩ (kX9_used l D Y A hI1 H.size S a1 a2 a3 a4 _ (s_used hR a1 a2 a3 a4)) (cwV 4 hts gL_law_X9_used rfl rfl rfl (by decide +kernel) ⟨Nat.le_of_ble_eq_true rfl, Nat.le_of_ble_eq_true rfl⟩) hK hP hS (gF_to (z := 0) hS hA0) (aC0 Y A S) (show vwCl[9]? = some (RX9, TX9, 15) from rfl) rfl rfl hl.1 (Nat.le_of_ble_eq_true rfl) dL_law_1115 ⟨Nat.le_of_ble_eq_true rfl, Nat.le_of_ble_eq_true rfl⟩ ?_
  intro r1 S2 H1 locs h hP1 hS hk
  have hP2 := gStay rfl hP2 hne hk
  have hP := hP1
  clear hP1
  generalize H1 = H at hP hP2 hS ⊢
  refine lv_aload_n hx hb dL_law_1118 rfl (lv_at hl 2 rfl) ?_
  refine lv_aload_n hx hb dL_law_1119 rfl (lv_at hl 0 rfl) ?_
  refine lv_iload_n hx hb dL_law_1120 rfl (lv_at hl 3 rfl) ?_
  refine lv_iconst (v := (1 : Int32)) hx hb dL_law_1121 (by decide) ?_
  refine lv_iadd hx hb dL_law_1122 ?_
  refine va_sld hx hb hX hbl hbA hS v1 dL_law_1123 ?_
  rw [← ea1]
  refine lv_aload_n hx hb dL_law_1124 rfl (lv_at hl 0 rfl) ?_
  refine lv_iload_n hx hb dL_law_1125 rfl (lv_at hl 3 rfl) ?_
  refine lv_iconst (v := (2 : Int32)) hx hb dL_law_1126 (by decide) ?_
  refine lv_iadd hx hb dL_law_1127 ?_
  refine va_sld hx hb hX hbl hbA hS v2 dL_law_1128 ?_
  rw [← ea2]
  refine lv_aload_n hx hb dL_law_1129 rfl (lv_at hl 0 rfl) ?_
  refine lv_iload_n hx hb dL_law_1130 rfl (lv_at hl 3 rfl) ?_
  refine lv_iconst (v := (3 : Int32)) hx hb dL_law_1131 (by decide) ?_
  refine lv_iadd hx hb dL_law_1132 ?_
  refine va_sld hx hb hX hbl hbA hS v3 dL_law_1133 ?_
  rw [← ea3]
  refine lv_aload_n hx hb dL_law_1134 rfl (lv_at hl 0 rfl) ?_
  refine lv_iload_n hx hb dL_law_1135 rfl (lv_at hl 3 rfl) ?_
  refine lv_iconst (v := (4 : Int32)) hx hb dL_law_1136 (by decide) ?_
  refine lv_iadd hx hb dL_law_1137 ?_
  refine va_sld hx hb hX hbl hbA hS v4 dL_law_1138 ?_
  rw [← ea4]
  refine hVi (As := [.int a1, .int a2, .int a3, .int a4]) (rest := [.int r1]) ⟨hx, hb, hml, hown, hts⟩ (kX10_used l D Y B hI2 H.size M a1 a2 a3 a4 _ h) (cwV 4 hts gL_law_X10_used rfl rfl rfl (by decide +kernel) ⟨Nat.le_of_ble_eq_true rfl, Nat.le_of_ble_eq_true rfl⟩) hK hP2 hS (gF_to (z := 0) hS hB0) (aM0 Y B M) (show vwCl[10]? = some (RX10, TX10, 54) from rfl) rfl rfl hl.1 (Nat.le_of_ble_eq_true rfl) dL_law_1139 ⟨Nat.le_of_ble_eq_true rfl, Nat.le_of_ble_eq_true rfl⟩ ?_
  intro r3 S4 H1 locs h hP1 hS hk
  have hP := gStay rfl hP (fun i j h1 h2 => Ne.symm (hne j i h2 h1)) hk
  have hP2 := hP1
  clear hP1
  generalize H1 = H at hP hP2 hS ⊢
  refine lv_icmp_eq (tgt := 1348) hx hb dL_law_1142 (by decide) (fun _ => ?_) (fun c5 => ?_)
  · exact kk S2 S4 _ _ _ h.2 ⟨hP, hP2, hS⟩ hl
  · exact absurd h.1 c5
set_option maxHeartbeats 4000000 in
set_option maxRecDepth 100000 in
theorem law_26 {p : Program} {e : Env} {s : State} {m : MethodId} {below : List Frame} {meth : Method} {c : Code} (l : Launch) {b L : Nat} {xs : Nat → Int32} (hL : L ≤ 3072) (C0 : lw_At p s m meth c b L xs) {D : va_G} {Y : Nat → ClassId} (hK : va_K D vwCl (tY Y) s) {A B : Nat → Nat} (hAB : gAB A B s.heap.size) {i : Nat} (hi : i + 6 ≤ L) {S M : gS} (hR : RS S M) {H : Heap} {locs : List Loc} {ls : Array Slot} (hT : gTwo D Y A B s S M H locs) (hl : lv_has ls 4 [(0, .ref b), (1, .ref (A 0)), (2, .ref (B 0)), (3, .int (nI i))])
    (kk : ∀ (S M : gS) (H : Heap) (locs : List Loc) (ls : Array Slot), RS S M → gTwo D Y A B s S M H locs → lv_has ls 4 [(0, .ref b), (1, .ref (A 0)), (2, .ref (B 0)), (3, .int (nI i))] → W p l e room_1 s m #[Value.ref b] below meth c H locs 600000 7302250 (lw_Z below #[Value.ref b] s) (F0 m 1348 ls [])) : W p l e room_1 s m #[Value.ref b] below meth c H locs 600000 7302250 (lw_Z below #[Value.ref b] s) (F0 m 1147 ls []) := by
  obtain ⟨hx, hb, hr, hml, hown, hts, hX, hbl, hlocks, hgv⟩ := id C0
  have hts : ∀ w ∈ wsL_law, w.before #[Value.ref b] s = true := fun w h => hts w (wsL_law_in w h)
  have hbA : ¬ (fun q : Nat => s.heap.size ≤ q) b := Nat.not_le.mpr hbl
  obtain ⟨hI1, hI2, hne, hA0, hB0⟩ := id hAB
  obtain ⟨hP, hP2, hS⟩ := hT
  refine lv_aload_n hx hb dL_law_1147 rfl (lv_at hl 1 rfl) ?_
  refine lv_aload_n hx hb dL_law_1148 rfl (lv_at hl 0 rfl) ?_
  refine lv_iload_n hx hb dL_law_1149 rfl (lv_at hl 3 rfl) ?_
  refine lv_iconst (v := (1 : Int32)) hx hb dL_law_1150 (by decide) ?_
  refine lv_iadd hx hb dL_law_1151 ?_
  have n1 : nI i + (1 : Int32) = nI (i + 1) := nI_add i 1
  have v1 : vp_in (nI i + (1 : Int32)) L := by rw [n1]; exact vp_in_nI (by omega) (by omega)
  obtain ⟨a1, ea1⟩ : ∃ z : Int32, z = xs (nI i + (1 : Int32)).toNatClampNeg := ⟨_, rfl⟩
  refine va_sld hx hb hX hbl hbA hS v1 dL_law_1152 ?_
  rw [← ea1]
  refine lv_aload_n hx hb dL_law_1153 rfl (lv_at hl 0 rfl) ?_
  refine lv_iload_n hx hb dL_law_1154 rfl (lv_at hl 3 rfl) ?_
  refine lv_iconst (v := (2 : Int32)) hx hb dL_law_1155 (by decide) ?_
  refine lv_iadd hx hb dL_law_1156 ?_
  have n2 : nI i + (2 : Int32) = nI (i + 2) := nI_add i 2
  have v2 : vp_in (nI i + (2 : Int32)) L := by rw [n2]; exact vp_in_nI (by omega) (by omega)
  obtain ⟨a2, ea2⟩ : ∃ z : Int32, z = xs (nI i + (2 : Int32)).toNatClampNeg := ⟨_, rfl⟩
  refine va_sld hx hb hX hbl hbA hS v2 dL_law_1157 ?_
  rw [← ea2]
  refine hVi (As := [.int a1, .int a2]) (rest := []) ⟨hx, hb, hml, hown, hts⟩ (kX9_landed l D Y A hI1 H.size S a1 a2 _ (s_landed hR a1 a2)) (cwV 2 hts gL_law_X9_landed rfl rfl rfl (by decide +kernel) ⟨Nat.le_of_ble_eq_true rfl, Nat.le_of_ble_eq_true rfl⟩) hK hP hS (gF_to (z := 0) hS hA0) (aC0 Y A S) (show vwCl[9]? = some (RX9, TX9, 15) from rfl) rfl rfl hl.1 (Nat.le_of_ble_eq_true rfl) dL_law_1158 ⟨Nat.le_of_ble_eq_true rfl, Nat.le_of_ble_eq_true rfl⟩ ?_
  intro r1 S2 H1 locs h hP1 hS hk
  have hP2 := gStay rfl hP2 hne hk
  have hP := hP1
  clear hP1
  generalize H1 = H at hP hP2 hS ⊢
  refine lv_aload_n hx hb dL_law_1161 rfl (lv_at hl 2 rfl) ?_
  refine lv_aload_n hx hb dL_law_1162 rfl (lv_at hl 0 rfl) ?_
  refine lv_iload_n hx hb dL_law_1163 rfl (lv_at hl 3 rfl) ?_
  refine lv_iconst (v := (1 : Int32)) hx hb dL_law_1164 (by decide) ?_
  refine lv_iadd hx hb dL_law_1165 ?_
  refine va_sld hx hb hX hbl hbA hS v1 dL_law_1166 ?_
  rw [← ea1]
  refine lv_aload_n hx hb dL_law_1167 rfl (lv_at hl 0 rfl) ?_
  refine lv_iload_n hx hb dL_law_1168 rfl (lv_at hl 3 rfl) ?_
  refine lv_iconst (v := (2 : Int32)) hx hb dL_law_1169 (by decide) ?_
  refine lv_iadd hx hb dL_law_1170 ?_
  refine va_sld hx hb hX hbl hbA hS v2 dL_law_1171 ?_
  rw [← ea2]
  refine hVi (As := [.int a1, .int a2]) (rest := [.int r1]) ⟨hx, hb, hml, hown, hts⟩ (kX10_landed l D Y B hI2 H.size M a1 a2 _ h) (cwV 2 hts gL_law_X10_landed rfl rfl rfl (by decide +kernel) ⟨Nat.le_of_ble_eq_true rfl, Nat.le_of_ble_eq_true rfl⟩) hK hP2 hS (gF_to (z := 0) hS hB0) (aM0 Y B M) (show vwCl[10]? = some (RX10, TX10, 54) from rfl) rfl rfl hl.1 (Nat.le_of_ble_eq_true rfl) dL_law_1172 ⟨Nat.le_of_ble_eq_true rfl, Nat.le_of_ble_eq_true rfl⟩ ?_
  intro r3 S4 H1 locs h hP1 hS hk
  have hP := gStay rfl hP (fun i j h1 h2 => Ne.symm (hne j i h2 h1)) hk
  have hP2 := hP1
  clear hP1
  generalize H1 = H at hP hP2 hS ⊢
  refine lv_icmp_eq (tgt := 1348) hx hb dL_law_1175 (by decide) (fun _ => ?_) (fun c5 => ?_)
  · exact kk S2 S4 _ _ _ h.2 ⟨hP, hP2, hS⟩ hl
  · exact absurd h.1 c5
set_option maxHeartbeats 4000000 in
set_option maxRecDepth 100000 in
theorem law_27 {p : Program} {e : Env} {s : State} {m : MethodId} {below : List Frame} {meth : Method} {c : Code} (l : Launch) {b L : Nat} {xs : Nat → Int32} (hL : L ≤ 3072) (C0 : lw_At p s m meth c b L xs) {D : va_G} {Y : Nat → ClassId} (hK : va_K D vwCl (tY Y) s) {A B : Nat → Nat} (hAB : gAB A B s.heap.size) {i : Nat} (hi : i + 6 ≤ L) {S M : gS} (hR : RS S M) {H : Heap} {locs : List Loc} {ls : Array Slot} (hT : gTwo D Y A B s S M H locs) (hl : lv_has ls 4 [(0, .ref b), (1, .ref (A 0)), (2, .ref (B 0)), (3, .int (nI i))])
    (kk : ∀ (S M : gS) (H : Heap) (locs : List Loc) (ls : Array Slot), RS S M → gTwo D Y A B s S M H locs → lv_has ls 4 [(0, .ref b), (1, .ref (A 0)), (2, .ref (B 0)), (3, .int (nI i))] → W p l e room_1 s m #[Value.ref b] below meth c H locs 600000 7302250 (lw_Z below #[Value.ref b] s) (F0 m 1348 ls [])) : W p l e room_1 s m #[Value.ref b] below meth c H locs 600000 7302250 (lw_Z below #[Value.ref b] s) (F0 m 1180 ls []) := by
  obtain ⟨hx, hb, hr, hml, hown, hts, hX, hbl, hlocks, hgv⟩ := id C0
  have hts : ∀ w ∈ wsL_law, w.before #[Value.ref b] s = true := fun w h => hts w (wsL_law_in w h)
  have hbA : ¬ (fun q : Nat => s.heap.size ≤ q) b := Nat.not_le.mpr hbl
  obtain ⟨hI1, hI2, hne, hA0, hB0⟩ := id hAB
  obtain ⟨hP, hP2, hS⟩ := hT
  refine lv_aload_n hx hb dL_law_1180 rfl (lv_at hl 1 rfl) ?_
  refine lv_aload_n hx hb dL_law_1181 rfl (lv_at hl 0 rfl) ?_
  refine lv_iload_n hx hb dL_law_1182 rfl (lv_at hl 3 rfl) ?_
  refine lv_iconst (v := (1 : Int32)) hx hb dL_law_1183 (by decide) ?_
  refine lv_iadd hx hb dL_law_1184 ?_
  have n1 : nI i + (1 : Int32) = nI (i + 1) := nI_add i 1
  have v1 : vp_in (nI i + (1 : Int32)) L := by rw [n1]; exact vp_in_nI (by omega) (by omega)
  obtain ⟨a1, ea1⟩ : ∃ z : Int32, z = xs (nI i + (1 : Int32)).toNatClampNeg := ⟨_, rfl⟩
  refine va_sld hx hb hX hbl hbA hS v1 dL_law_1185 ?_
  rw [← ea1]
  refine lv_aload_n hx hb dL_law_1186 rfl (lv_at hl 0 rfl) ?_
  refine lv_iload_n hx hb dL_law_1187 rfl (lv_at hl 3 rfl) ?_
  refine lv_iconst (v := (2 : Int32)) hx hb dL_law_1188 (by decide) ?_
  refine lv_iadd hx hb dL_law_1189 ?_
  have n2 : nI i + (2 : Int32) = nI (i + 2) := nI_add i 2
  have v2 : vp_in (nI i + (2 : Int32)) L := by rw [n2]; exact vp_in_nI (by omega) (by omega)
  obtain ⟨a2, ea2⟩ : ∃ z : Int32, z = xs (nI i + (2 : Int32)).toNatClampNeg := ⟨_, rfl⟩
  refine va_sld hx hb hX hbl hbA hS v2 dL_law_1190 ?_
  rw [← ea2]
  refine hVi (As := [.int a1, .int a2]) (rest := []) ⟨hx, hb, hml, hown, hts⟩ (kX9_lotOf l D Y A hI1 H.size S a1 a2 _ (s_lotOf hR a1 a2)) (cwV 2 hts gL_law_X9_lotOf rfl rfl rfl (by decide +kernel) ⟨Nat.le_of_ble_eq_true rfl, Nat.le_of_ble_eq_true rfl⟩) hK hP hS (gF_to (z := 0) hS hA0) (aC0 Y A S) (show vwCl[9]? = some (RX9, TX9, 15) from rfl) rfl rfl hl.1 (Nat.le_of_ble_eq_true rfl) dL_law_1191 ⟨Nat.le_of_ble_eq_true rfl, Nat.le_of_ble_eq_true rfl⟩ ?_
  intro r1 S2 H1 locs h hP1 hS hk
  have hP2 := gStay rfl hP2 hne hk
  have hP := hP1
  clear hP1
  generalize H1 = H at hP hP2 hS ⊢
  refine lv_aload_n hx hb dL_law_1194 rfl (lv_at hl 2 rfl) ?_
  refine lv_aload_n hx hb dL_law_1195 rfl (lv_at hl 0 rfl) ?_
  refine lv_iload_n hx hb dL_law_1196 rfl (lv_at hl 3 rfl) ?_
  refine lv_iconst (v := (1 : Int32)) hx hb dL_law_1197 (by decide) ?_
  refine lv_iadd hx hb dL_law_1198 ?_
  refine va_sld hx hb hX hbl hbA hS v1 dL_law_1199 ?_
  rw [← ea1]
  refine lv_aload_n hx hb dL_law_1200 rfl (lv_at hl 0 rfl) ?_
  refine lv_iload_n hx hb dL_law_1201 rfl (lv_at hl 3 rfl) ?_
  refine lv_iconst (v := (2 : Int32)) hx hb dL_law_1202 (by decide) ?_
  refine lv_iadd hx hb dL_law_1203 ?_
  refine va_sld hx hb hX hbl hbA hS v2 dL_law_1204 ?_
  rw [← ea2]
  refine hVi (As := [.int a1, .int a2]) (rest := [.int r1]) ⟨hx, hb, hml, hown, hts⟩ (kX10_lotOf l D Y B hI2 H.size M a1 a2 _ h) (cwV 2 hts gL_law_X10_lotOf rfl rfl rfl (by decide +kernel) ⟨Nat.le_of_ble_eq_true rfl, Nat.le_of_ble_eq_true rfl⟩) hK hP2 hS (gF_to (z := 0) hS hB0) (aM0 Y B M) (show vwCl[10]? = some (RX10, TX10, 54) from rfl) rfl rfl hl.1 (Nat.le_of_ble_eq_true rfl) dL_law_1205 ⟨Nat.le_of_ble_eq_true rfl, Nat.le_of_ble_eq_true rfl⟩ ?_
  intro r3 S4 H1 locs h hP1 hS hk
  have hP := gStay rfl hP (fun i j h1 h2 => Ne.symm (hne j i h2 h1)) hk
  have hP2 := hP1
  clear hP1
  generalize H1 = H at hP hP2 hS ⊢
  refine lv_icmp_eq (tgt := 1348) hx hb dL_law_1208 (by decide) (fun _ => ?_) (fun c5 => ?_)
  · exact kk S2 S4 _ _ _ h.2 ⟨hP, hP2, hS⟩ hl
  · exact absurd h.1 c5
