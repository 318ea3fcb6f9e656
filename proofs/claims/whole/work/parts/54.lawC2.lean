/-! the law's cases -/
set_option maxHeartbeats 4000000 in
set_option maxRecDepth 100000 in
theorem law_14 {p : Program} {e : Env} {s : State} {m : MethodId} {below : List Frame} {meth : Method} {c : Code} (l : Launch) {b L : Nat} {xs : Nat → Int32} (hL : L ≤ 3072) (C0 : lw_At p s m meth c b L xs) {D : va_G} {Y : Nat → ClassId} (hK : va_K D vwCl (tY Y) s) {A B : Nat → Nat} (hAB : gAB A B s.heap.size) {i : Nat} (hi : i + 6 ≤ L) {S M : gS} (hR : RS S M) {H : Heap} {locs : List Loc} {ls : Array Slot} (hT : gTwo D Y A B s S M H locs) (hl : lv_has ls 4 [(0, .ref b), (1, .ref (A 0)), (2, .ref (B 0)), (3, .int (nI i))])
    (kk : ∀ (S M : gS) (H : Heap) (locs : List Loc) (ls : Array Slot), RS S M → gTwo D Y A B s S M H locs → lv_has ls 4 [(0, .ref b), (1, .ref (A 0)), (2, .ref (B 0)), (3, .int (nI i))] → W p l e room_1 s m #[Value.ref b] below meth c H locs 600000 7302250 (lw_Z below #[Value.ref b] s) (F0 m 1348 ls [])) : W p l e room_1 s m #[Value.ref b] below meth c H locs 600000 7302250 (lw_Z below #[Value.ref b] s) (F0 m 718 ls []) := by
  obtain ⟨hx, hb, hr, hml, hown, hts, hX, hbl, hlocks, hgv⟩ := id C0
  have hts : ∀ w ∈ wsL_law, w.before #[Value.ref b] s = true := fun w h => hts w (wsL_law_in w h)
  have hbA : ¬ (fun q : Nat => s.heap.size ≤ q) b := Nat.not_le.mpr hbl
  obtain ⟨hI1, hI2, hne, hA0, hB0⟩ := id hAB
  obtain ⟨hP, hP2, hS⟩ := hT
  refine lv_aload_n hx hb dL_law_718 rfl (lv_at hl 1 rfl) ?_
  refine lv_aload_n hx hb dL_law_719 rfl (lv_at hl 0 rfl) ?_
  refine lv_iload_n hx hb dL_law_720 rfl (lv_at hl 3 rfl) ?_
  refine lv_iconst (v := (1 : Int32)) hx hb dL_law_721 (by decide) ?_
  refine lv_iadd hx hb dL_law_722 ?_
  have n1 : nI i + (1 : Int32) = nI (i + 1) := nI_add i 1
  have v1 : vp_in (nI i + (1 : Int32)) L := by rw [n1]; exact vp_in_nI (by omega) (by omega)
  obtain ⟨a1, ea1⟩ : ∃ z : Int32, z = xs (nI i + (1 : Int32)).toNatClampNeg := ⟨_, rfl⟩
  refine va_sld hx hb hX hbl hbA hS v1 dL_law_723 ?_
  rw [← ea1]
  refine hVi (As := [.int a1]) (rest := []) ⟨hx, hb, hml, hown, hts⟩ (kX9_draws l D Y A hI1 H.size S a1 _ (s_draws hR a1)) (cwV 1 hts gL_law_X9_draws rfl rfl rfl (by decide +kernel) ⟨Nat.le_of_ble_eq_true rfl, Nat.le_of_ble_eq_true rfl⟩) hK hP hS (gF_to (z := 0) hS hA0) (aC0 Y A S) (show vwCl[9]? = some (RX9, TX9, 15) from rfl) rfl rfl hl.1 (Nat.le_of_ble_eq_true rfl) dL_law_724 ⟨Nat.le_of_ble_eq_true rfl, Nat.le_of_ble_eq_true rfl⟩ ?_
  intro r1 S2 H1 locs h hP1 hS hk
  have hP2 := gStay rfl hP2 hne hk
  have hP := hP1
  clear hP1
  generalize H1 = H at hP hP2 hS ⊢
  refine lv_aload_n hx hb dL_law_727 rfl (lv_at hl 2 rfl) ?_
  refine lv_aload_n hx hb dL_law_728 rfl (lv_at hl 0 rfl) ?_
  refine lv_iload_n hx hb dL_law_729 rfl (lv_at hl 3 rfl) ?_
  refine lv_iconst (v := (1 : Int32)) hx hb dL_law_730 (by decide) ?_
  refine lv_iadd hx hb dL_law_731 ?_
  refine va_sld hx hb hX hbl hbA hS v1 dL_law_732 ?_
  rw [← ea1]
  refine hVi (As := [.int a1]) (rest := [.int r1]) ⟨hx, hb, hml, hown, hts⟩ (kX10_draws l D Y B hI2 H.size M a1 _ h) (cwV 1 hts gL_law_X10_draws rfl rfl rfl (by decide +kernel) ⟨Nat.le_of_ble_eq_true rfl, Nat.le_of_ble_eq_true rfl⟩) hK hP2 hS (gF_to (z := 0) hS hB0) (aM0 Y B M) (show vwCl[10]? = some (RX10, TX10, 54) from rfl) rfl rfl hl.1 (Nat.le_of_ble_eq_true rfl) dL_law_733 ⟨Nat.le_of_ble_eq_true rfl, Nat.le_of_ble_eq_true rfl⟩ ?_
  intro r3 S4 H1 locs h hP1 hS hk
  have hP := gStay rfl hP (fun i j h1 h2 => Ne.symm (hne j i h2 h1)) hk
  have hP2 := hP1
  clear hP1
  generalize H1 = H at hP hP2 hS ⊢
  refine lv_icmp_eq (tgt := 1348) hx hb dL_law_736 (by decide) (fun _ => ?_) (fun c5 => ?_)
  · exact kk S2 S4 _ _ _ h.2 ⟨hP, hP2, hS⟩ hl
  · exact absurd h.1 c5
set_option maxHeartbeats 4000000 in
set_option maxRecDepth 100000 in
theorem law_15 {p : Program} {e : Env} {s : State} {m : MethodId} {below : List Frame} {meth : Method} {c : Code} (l : Launch) {b L : Nat} {xs : Nat → Int32} (hL : L ≤ 3072) (C0 : lw_At p s m meth c b L xs) {D : va_G} {Y : Nat → ClassId} (hK : va_K D vwCl (tY Y) s) {A B : Nat → Nat} (hAB : gAB A B s.heap.size) {i : Nat} (hi : i + 6 ≤ L) {S M : gS} (hR : RS S M) {H : Heap} {locs : List Loc} {ls : Array Slot} (hT : gTwo D Y A B s S M H locs) (hl : lv_has ls 4 [(0, .ref b), (1, .ref (A 0)), (2, .ref (B 0)), (3, .int (nI i))])
    (kk : ∀ (S M : gS) (H : Heap) (locs : List Loc) (ls : Array Slot), RS S M → gTwo D Y A B s S M H locs → lv_has ls 4 [(0, .ref b), (1, .ref (A 0)), (2, .ref (B 0)), (3, .int (nI i))] → W p l e room_1 s m #[Value.ref b] below meth c H locs 600000 7302250 (lw_Z below #[Value.ref b] s) (F0 m 1348 ls [])) : W p l e room_1 s m #[Value.ref b] below meth c H locs 600000 7302250 (lw_Z below #[Value.ref b] s) (F0 m 741 ls []) := by
  obtain ⟨hx, hb, hr, hml, hown, hts, hX, hbl, hlocks, hgv⟩ := id C0
  have hts : ∀ w ∈ wsL_law, w.before #[Value.ref b] s = true := fun w h => hts w (wsL_law_in w h)
  have hbA : ¬ (fun q : Nat => s.heap.size ≤ q) b := Nat.not_le.mpr hbl
  obtain ⟨hI1, hI2, hne, hA0, hB0⟩ := id hAB
  obtain ⟨hP, hP2, hS⟩ := hT
  refine lv_aload_n hx hb dL_law_741 rfl (lv_at hl 1 rfl) ?_
  refine lv_aload_n hx hb dL_law_742 rfl (lv_at hl 0 rfl) ?_
  refine lv_iload_n hx hb dL_law_743 rfl (lv_at hl 3 rfl) ?_
  refine lv_iconst (v := (1 : Int32)) hx hb dL_law_744 (by decide) ?_
  refine lv_iadd hx hb dL_law_745 ?_
  have n1 : nI i + (1 : Int32) = nI (i + 1) := nI_add i 1
  have v1 : vp_in (nI i + (1 : Int32)) L := by rw [n1]; exact vp_in_nI (by omega) (by omega)
  obtain ⟨a1, ea1⟩ : ∃ z : Int32, z = xs (nI i + (1 : Int32)).toNatClampNeg := ⟨_, rfl⟩
  refine va_sld hx hb hX hbl hbA hS v1 dL_law_746 ?_
  rw [← ea1]
  refine hVi (As := [.int a1]) (rest := []) ⟨hx, hb, hml, hown, hts⟩ (kX9_price l D Y A hI1 H.size S a1 _ (s_price hR a1)) (cwV 1 hts gL_law_X9_price rfl rfl rfl (by decide +kernel) ⟨Nat.le_of_ble_eq_true rfl, Nat.le_of_ble_eq_true rfl⟩) hK hP hS (gF_to (z := 0) hS hA0) (aC0 Y A S) (show vwCl[9]? = some (RX9, TX9, 15) from rfl) rfl rfl hl.1 (Nat.le_of_ble_eq_true rfl) dL_law_747 ⟨Nat.le_of_ble_eq_true rfl, Nat.le_of_ble_eq_true rfl⟩ ?_
  intro r1 S2 H1 locs h hP1 hS hk
  have hP2 := gStay rfl hP2 hne hk
  have hP := hP1
  clear hP1
  generalize H1 = H at hP hP2 hS ⊢
  refine lv_aload_n hx hb dL_law_750 rfl (lv_at hl 2 rfl) ?_
  refine lv_aload_n hx hb dL_law_751 rfl (lv_at hl 0 rfl) ?_
  refine lv_iload_n hx hb dL_law_752 rfl (lv_at hl 3 rfl) ?_
  refine lv_iconst (v := (1 : Int32)) hx hb dL_law_753 (by decide) ?_
  refine lv_iadd hx hb dL_law_754 ?_
  refine va_sld hx hb hX hbl hbA hS v1 dL_law_755 ?_
  rw [← ea1]
  refine hVi (As := [.int a1]) (rest := [.int r1]) ⟨hx, hb, hml, hown, hts⟩ (kX10_price l D Y B hI2 H.size M a1 _ h) (cwV 1 hts gL_law_X10_price rfl rfl rfl (by decide +kernel) ⟨Nat.le_of_ble_eq_true rfl, Nat.le_of_ble_eq_true rfl⟩) hK hP2 hS (gF_to (z := 0) hS hB0) (aM0 Y B M) (show vwCl[10]? = some (RX10, TX10, 54) from rfl) rfl rfl hl.1 (Nat.le_of_ble_eq_true rfl) dL_law_756 ⟨Nat.le_of_ble_eq_true rfl, Nat.le_of_ble_eq_true rfl⟩ ?_
  intro r3 S4 H1 locs h hP1 hS hk
  have hP := gStay rfl hP (fun i j h1 h2 => Ne.symm (hne j i h2 h1)) hk
  have hP2 := hP1
  clear hP1
  generalize H1 = H at hP hP2 hS ⊢
  refine lv_icmp_eq (tgt := 1348) hx hb dL_law_759 (by decide) (fun _ => ?_) (fun c5 => ?_)
  · exact kk S2 S4 _ _ _ h.2 ⟨hP, hP2, hS⟩ hl
  · exact absurd h.1 c5
set_option maxHeartbeats 4000000 in
set_option maxRecDepth 100000 in
theorem law_16 {p : Program} {e : Env} {s : State} {m : MethodId} {below : List Frame} {meth : Method} {c : Code} (l : Launch) {b L : Nat} {xs : Nat → Int32} (hL : L ≤ 3072) (C0 : lw_At p s m meth c b L xs) {D : va_G} {Y : Nat → ClassId} (hK : va_K D vwCl (tY Y) s) {A B : Nat → Nat} (hAB : gAB A B s.heap.size) {i : Nat} (hi : i + 6 ≤ L) {S M : gS} (hR : RS S M) {H : Heap} {locs : List Loc} {ls : Array Slot} (hT : gTwo D Y A B s S M H locs) (hl : lv_has ls 4 [(0, .ref b), (1, .ref (A 0)), (2, .ref (B 0)), (3, .int (nI i))])
    (kk : ∀ (S M : gS) (H : Heap) (locs : List Loc) (ls : Array Slot), RS S M → gTwo D Y A B s S M H locs → lv_has ls 4 [(0, .ref b), (1, .ref (A 0)), (2, .ref (B 0)), (3, .int (nI i))] → W p l e room_1 s m #[Value.ref b] below meth c H locs 600000 7302250 (lw_Z below #[Value.ref b] s) (F0 m 1348 ls [])) : W p l e room_1 s m #[Value.ref b] below meth c H locs 600000 7302250 (lw_Z below #[Value.ref b] s) (F0 m 764 ls []) := by
  obtain ⟨hx, hb, hr, hml, hown, hts, hX, hbl, hlocks, hgv⟩ := id C0
  have hts : ∀ w ∈ wsL_law, w.before #[Value.ref b] s = true := fun w h => hts w (wsL_law_in w h)
  have hbA : ¬ (fun q : Nat => s.heap.size ≤ q) b := Nat.not_le.mpr hbl
  obtain ⟨hI1, hI2, hne, hA0, hB0⟩ := id hAB
  obtain ⟨hP, hP2, hS⟩ := hT
  refine lv_aload_n hx hb dL_law_764 rfl (lv_at hl 1 rfl) ?_
  refine lv_aload_n hx hb dL_law_765 rfl (lv_at hl 0 rfl) ?_
  refine lv_iload_n hx hb dL_law_766 rfl (lv_at hl 3 rfl) ?_
  refine lv_iconst (v := (1 : Int32)) hx hb dL_law_767 (by decide) ?_
  refine lv_iadd hx hb dL_law_768 ?_
  have n1 : nI i + (1 : Int32) = nI (i + 1) := nI_add i 1
  have v1 : vp_in (nI i + (1 : Int32)) L := by rw [n1]; exact vp_in_nI (by omega) (by omega)
  obtain ⟨a1, ea1⟩ : ∃ z : Int32, z = xs (nI i + (1 : Int32)).toNatClampNeg := ⟨_, rfl⟩
  refine va_sld hx hb hX hbl hbA hS v1 dL_law_769 ?_
  rw [← ea1]
  refine lv_aload_n hx hb dL_law_770 rfl (lv_at hl 0 rfl) ?_
  refine lv_iload_n hx hb dL_law_771 rfl (lv_at hl 3 rfl) ?_
  refine lv_iconst (v := (2 : Int32)) hx hb dL_law_772 (by decide) ?_
  refine lv_iadd hx hb dL_law_773 ?_
  have n2 : nI i + (2 : Int32) = nI (i + 2) := nI_add i 2
  have v2 : vp_in (nI i + (2 : Int32)) L := by rw [n2]; exact vp_in_nI (by omega) (by omega)
  obtain ⟨a2, ea2⟩ : ∃ z : Int32, z = xs (nI i + (2 : Int32)).toNatClampNeg := ⟨_, rfl⟩
  refine va_sld hx hb hX hbl hbA hS v2 dL_law_774 ?_
  rw [← ea2]
  refine lv_aload_n hx hb dL_law_775 rfl (lv_at hl 0 rfl) ?_
  refine lv_iload_n hx hb dL_law_776 rfl (lv_at hl 3 rfl) ?_
  refine lv_iconst (v := (3 : Int32)) hx hb dL_law_777 (by decide) ?_
  refine lv_iadd hx hb dL_law_778 ?_
  have n3 : nI i + (3 : Int32) = nI (i + 3) := nI_add i 3
  have v3 : vp_in (nI i + (3 : Int32)) L := by rw [n3]; exact vp_in_nI (by omega) (by omega)
  obtain ⟨a3, ea3⟩ : ∃ z : Int32, z = xs (nI i + (3 : Int32)).toNatClampNeg := ⟨_, rfl⟩
  refine va_sld hx hb hX hbl hbA hS v3 dL_law_779 ?_
  rw [← ea3]
  refine hVi (As := [.int a1, .int a2, .int a3]) (rest := []) ⟨hx, hb, hml, hown, hts⟩ (kX9_law l D Y A hI1 H.size S a1 a2 a3 _ (s_law hR a1 a2 a3)) (cwV 3 hts gL_law_X9_law rfl rfl rfl (by decide +kernel) ⟨Nat.le_of_ble_eq_true rfl, Nat.le_of_ble_eq_true rfl⟩) hK hP hS (gF_to (z := 0) hS hA0) (aC0 Y A S) (show vwCl[9]? = some (RX9, TX9, 15) from rfl) rfl rfl hl.1 (Nat.le_of_ble_eq_true rfl) dL_law_780 ⟨Nat.le_of_ble_eq_true rfl, Nat.le_of_ble_eq_true rfl⟩ ?_
  intro r1 S2 H1 locs h hP1 hS hk
  have hP2 := gStay rfl hP2 hne hk
  have hP := hP1
  clear hP1
  generalize H1 = H at hP hP2 hS ⊢
  refine lv_aload_n hx hb dL_law_783 rfl (lv_at hl 2 rfl) ?_
  refine lv_aload_n hx hb dL_law_784 rfl (lv_at hl 0 rfl) ?_
  refine lv_iload_n hx hb dL_law_785 rfl (lv_at hl 3 rfl) ?_
  refine lv_iconst (v := (1 : Int32)) hx hb dL_law_786 (by decide) ?_
  refine lv_iadd hx hb dL_law_787 ?_
  refine va_sld hx hb hX hbl hbA hS v1 dL_law_788 ?_
  rw [← ea1]
  refine lv_aload_n hx hb dL_law_789 rfl (lv_at hl 0 rfl) ?_
  refine lv_iload_n hx hb dL_law_790 rfl (lv_at hl 3 rfl) ?_
  refine lv_iconst (v := (2 : Int32)) hx hb dL_law_791 (by decide) ?_
  refine lv_iadd hx hb dL_law_792 ?_
  refine va_sld hx hb hX hbl hbA hS v2 dL_law_793 ?_
  rw [← ea2]
  refine lv_aload_n hx hb dL_law_794 rfl (lv_at hl 0 rfl) ?_
  refine lv_iload_n hx hb dL_law_795 rfl (lv_at hl 3 rfl) ?_
  refine lv_iconst (v := (3 : Int32)) hx hb dL_law_796 (by decide) ?_
  refine lv_iadd hx hb dL_law_797 ?_
  refine va_sld hx hb hX hbl hbA hS v3 dL_law_798 ?_
  rw [← ea3]
  refine hVi (As := [.int a1, .int a2, .int a3]) (rest := [.int r1]) ⟨hx, hb, hml, hown, hts⟩ (kX10_law l D Y B hI2 H.size M a1 a2 a3 _ h) (cwV 3 hts gL_law_X10_law rfl rfl rfl (by decide +kernel) ⟨Nat.le_of_ble_eq_true rfl, Nat.le_of_ble_eq_true rfl⟩) hK hP2 hS (gF_to (z := 0) hS hB0) (aM0 Y B M) (show vwCl[10]? = some (RX10, TX10, 54) from rfl) rfl rfl hl.1 (Nat.le_of_ble_eq_true rfl) dL_law_799 ⟨Nat.le_of_ble_eq_true rfl, Nat.le_of_ble_eq_true rfl⟩ ?_
  intro r3 S4 H1 locs h hP1 hS hk
  have hP := gStay rfl hP (fun i j h1 h2 => Ne.symm (hne j i h2 h1)) hk
  have hP2 := hP1
  clear hP1
  generalize H1 = H at hP hP2 hS ⊢
  refine lv_icmp_eq (tgt := 1348) hx hb dL_law_802 (by decide) (fun _ => ?_) (fun c5 => ?_)
  · exact kk S2 S4 _ _ _ h.2 ⟨hP, hP2, hS⟩ hl
  · exact absurd h.1 c5
set_option maxHeartbeats 4000000 in
set_option maxRecDepth 100000 in
theorem law_17 {p : Program} {e : Env} {s : State} {m : MethodId} {below : List Frame} {meth : Method} {c : Code} (l : Launch) {b L : Nat} {xs : Nat → Int32} (hL : L ≤ 3072) (C0 : lw_At p s m meth c b L xs) {D : va_G} {Y : Nat → ClassId} (hK : va_K D vwCl (tY Y) s) {A B : Nat → Nat} (hAB : gAB A B s.heap.size) {i : Nat} (hi : i + 6 ≤ L) {S M : gS} (hR : RS S M) {H : Heap} {locs : List Loc} {ls : Array Slot} (hT : gTwo D Y A B s S M H locs) (hl : lv_has ls 4 [(0, .ref b), (1, .ref (A 0)), (2, .ref (B 0)), (3, .int (nI i))])
    (kk : ∀ (S M : gS) (H : Heap) (locs : List Loc) (ls : Array Slot), RS S M → gTwo D Y A B s S M H locs → lv_has ls 4 [(0, .ref b), (1, .ref (A 0)), (2, .ref (B 0)), (3, .int (nI i))] → W p l e room_1 s m #[Value.ref b] below meth c H locs 600000 7302250 (lw_Z below #[Value.ref b] s) (F0 m 1348 ls [])) : W p l e room_1 s m #[Value.ref b] below meth c H locs 600000 7302250 (lw_Z below #[Value.ref b] s) (F0 m 807 ls []) := by
  obtain ⟨hx, hb, hr, hml, hown, hts, hX, hbl, hlocks, hgv⟩ := id C0
  have hts : ∀ w ∈ wsL_law, w.before #[Value.ref b] s = true := fun w h => hts w (wsL_law_in w h)
  have hbA : ¬ (fun q : Nat => s.heap.size ≤ q) b := Nat.not_le.mpr hbl
  obtain ⟨hI1, hI2, hne, hA0, hB0⟩ := id hAB
  obtain ⟨hP, hP2, hS⟩ := hT
  refine lv_aload_n hx hb dL_law_807 rfl (lv_at hl 1 rfl) ?_
  refine lv_aload_n hx hb dL_law_808 rfl (lv_at hl 0 rfl) ?_
  refine lv_iload_n hx hb dL_law_809 rfl (lv_at hl 3 rfl) ?_
  refine lv_iconst (v := (1 : Int32)) hx hb dL_law_810 (by decide) ?_
  refine lv_iadd hx hb dL_law_811 ?_
  have n1 : nI i + (1 : Int32) = nI (i + 1) := nI_add i 1
  have v1 : vp_in (nI i + (1 : Int32)) L := by rw [n1]; exact vp_in_nI (by omega) (by omega)
  obtain ⟨a1, ea1⟩ : ∃ z : Int32, z = xs (nI i + (1 : Int32)).toNatClampNeg := ⟨_, rfl⟩
  refine va_sld hx hb hX hbl hbA hS v1 dL_law_812 ?_
  rw [← ea1]
  refine lv_aload_n hx hb dL_law_813 rfl (lv_at hl 0 rfl) ?_
  refine lv_iload_n hx hb dL_law_814 rfl (lv_at hl 3 rfl) ?_
  refine lv_iconst (v := (2 : Int32)) hx hb dL_law_815 (by decide) ?_
  refine lv_iadd hx hb dL_law_816 ?_
  have n2 : nI i + (2 : Int32) = nI (i + 2) := nI_add i 2
  have v2 : vp_in (nI i + (2 : Int32)) L := by rw [n2]; exact vp_in_nI (by omega) (by omega)
  obtain ⟨a2, ea2⟩ : ∃ z : Int32, z = xs (nI i + (2 : Int32)).toNatClampNeg := ⟨_, rfl⟩
  refine va_sld hx hb hX hbl hbA hS v2 dL_law_817 ?_
  rw [← ea2]
  refine lv_aload_n hx hb dL_law_818 rfl (lv_at hl 0 rfl) ?_
  refine lv_iload_n hx hb dL_law_819 rfl (lv_at hl 3 rfl) ?_
  refine lv_iconst (v := (3 : Int32)) hx hb dL_law_820 (by decide) ?_
  refine lv_iadd hx hb dL_law_821 ?_
  have n3 : nI i + (3 : Int32) = nI (i + 3) := nI_add i 3
  have v3 : vp_in (nI i + (3 : Int32)) L := by rw [n3]; exact vp_in_nI (by omega) (by omega)
  obtain ⟨a3, ea3⟩ : ∃ z : Int32, z = xs (nI i + (3 : Int32)).toNatClampNeg := ⟨_, rfl⟩
  refine va_sld hx hb hX hbl hbA hS v3 dL_law_822 ?_
  rw [← ea3]
  refine hVi (As := [.int a1, .int a2, .int a3]) (rest := []) ⟨hx, hb, hml, hown, hts⟩ (kX9_word l D Y A hI1 H.size S a1 a2 a3 _ (s_word hR a1 a2 a3)) (cwV 3 hts gL_law_X9_word rfl rfl rfl (by decide +kernel) ⟨Nat.le_of_ble_eq_true rfl, Nat.le_of_ble_eq_true rfl⟩) hK hP hS (gF_to (z := 0) hS hA0) (aC0 Y A S) (show vwCl[9]? = some (RX9, TX9, 15) from rfl) rfl rfl hl.1 (Nat.le_of_ble_eq_true rfl) dL_law_823 ⟨Nat.le_of_ble_eq_true rfl, Nat.le_of_ble_eq_true rfl⟩ ?_
  intro r1 S2 H1 locs h hP1 hS hk
  have hP2 := gStay rfl hP2 hne hk
  have hP := hP1
  clear hP1
  generalize H1 = H at hP hP2 hS ⊢
  refine lv_aload_n hx hb dL_law_826 rfl (lv_at hl 2 rfl) ?_
  refine lv_aload_n hx hb dL_law_827 rfl (lv_at hl 0 rfl) ?_
  refine lv_iload_n hx hb dL_law_828 rfl (lv_at hl 3 rfl) ?_
  refine lv_iconst (v := (1 : Int32)) hx hb dL_law_829 (by decide) ?_
  refine lv_iadd hx hb dL_law_830 ?_
  refine va_sld hx hb hX hbl hbA hS v1 dL_law_831 ?_
  rw [← ea1]
  refine lv_aload_n hx hb dL_law_832 rfl (lv_at hl 0 rfl) ?_
  refine lv_iload_n hx hb dL_law_833 rfl (lv_at hl 3 rfl) ?_
  refine lv_iconst (v := (2 : Int32)) hx hb dL_law_834 (by decide) ?_
  refine lv_iadd hx hb dL_law_835 ?_
  refine va_sld hx hb hX hbl hbA hS v2 dL_law_836 ?_
  rw [← ea2]
  refine lv_aload_n hx hb dL_law_837 rfl (lv_at hl 0 rfl) ?_
  refine lv_iload_n hx hb dL_law_838 rfl (lv_at hl 3 rfl) ?_
  refine lv_iconst (v := (3 : Int32)) hx hb dL_law_839 (by decide) ?_
  refine lv_iadd hx hb dL_law_840 ?_
  refine va_sld hx hb hX hbl hbA hS v3 dL_law_841 ?_
  rw [← ea3]
  refine hVi (As := [.int a1, .int a2, .int a3]) (rest := [.int r1]) ⟨hx, hb, hml, hown, hts⟩ (kX10_word l D Y B hI2 H.size M a1 a2 a3 _ h) (cwV 3 hts gL_law_X10_word rfl rfl rfl (by decide +kernel) ⟨Nat.le_of_ble_eq_true rfl, Nat.le_of_ble_eq_true rfl⟩) hK hP2 hS (gF_to (z := 0) hS hB0) (aM0 Y B M) (show vwCl[10]? = some (RX10, TX10, 54) from rfl) rfl rfl hl.1 (Nat.le_of_ble_eq_true rfl) dL_law_842 ⟨Nat.le_of_ble_eq_true rfl, Nat.le_of_ble_eq_true rfl⟩ ?_
  intro r3 S4 H1 locs h hP1 hS hk
  have hP := gStay rfl hP (fun i j h1 h2 => Ne.symm (hne j i h2 h1)) hk
  have hP2 := hP1
  clear hP1
  generalize H1 = H at hP hP2 hS ⊢
  refine lv_icmp_eq (tgt := 1348) hx hb dL_law_845 (by decide) (fun _ => ?_) (fun c5 => ?_)
  · exact kk S2 S4 _ _ _ h.2 ⟨hP, hP2, hS⟩ hl
  · exact absurd h.1 c5
set_option maxHeartbeats 4000000 in
set_option maxRecDepth 100000 in
theorem law_18 {p : Program} {e : Env} {s : State} {m : MethodId} {below : List Frame} {meth : Method} {c : Code} (l : Launch) {b L : Nat} {xs : Nat → Int32} (hL : L ≤ 3072) (C0 : lw_At p s m meth c b L xs) {D : va_G} {Y : Nat → ClassId} (hK : va_K D vwCl (tY Y) s) {A B : Nat → Nat} (hAB : gAB A B s.heap.size) {i : Nat} (hi : i + 6 ≤ L) {S M : gS} (hR : RS S M) {H : Heap} {locs : List Loc} {ls : Array Slot} (hT : gTwo D Y A B s S M H locs) (hl : lv_has ls 4 [(0, .ref b), (1, .ref (A 0)), (2, .ref (B 0)), (3, .int (nI i))])
    (kk : ∀ (S M : gS) (H : Heap) (locs : List Loc) (ls : Array Slot), RS S M → gTwo D Y A B s S M H locs → lv_has ls 4 [(0, .ref b), (1, .ref (A 0)), (2, .ref (B 0)), (3, .int (nI i))] → W p l e room_1 s m #[Value.ref b] below meth c H locs 600000 7302250 (lw_Z below #[Value.ref b] s) (F0 m 1348 ls [])) : W p l e room_1 s m #[Value.ref b] below meth c H locs 600000 7302250 (lw_Z below #[Value.ref b] s) (F0 m 850 ls []) := by
  obtain ⟨hx, hb, hr, hml, hown, hts, hX, hbl, hlocks, hgv⟩ := id C0
  have hts : ∀ w ∈ wsL_law, w.before #[Value.ref b] s = true := fun w h => hts w (wsL_law_in w h)
  have hbA : ¬ (fun q : Nat => s.heap.size ≤ q) b := Nat.not_le.mpr hbl
  obtain ⟨hI1, hI2, hne, hA0, hB0⟩ := id hAB
  obtain ⟨hP, hP2, hS⟩ := hT
  refine lv_aload_n hx hb dL_law_850 rfl (lv_at hl 1 rfl) ?_
  refine lv_aload_n hx hb dL_law_851 rfl (lv_at hl 0 rfl) ?_
  refine lv_iload_n hx hb dL_law_852 rfl (lv_at hl 3 rfl) ?_
  refine lv_iconst (v := (1 : Int32)) hx hb dL_law_853 (by decide) ?_
  refine lv_iadd hx hb dL_law_854 ?_
  have n1 : nI i + (1 : Int32) = nI (i + 1) := nI_add i 1
  have v1 : vp_in (nI i + (1 : Int32)) L := by rw [n1]; exact vp_in_nI (by omega) (by omega)
  obtain ⟨a1, ea1⟩ : ∃ z : Int32, z = xs (nI i + (1 : Int32)).toNatClampNeg := ⟨_, rfl⟩
  refine va_sld hx hb hX hbl hbA hS v1 dL_law_855 ?_
  rw [← ea1]
  refine hVi (As := [.int a1]) (rest := []) ⟨hx, hb, hml, hown, hts⟩ (kX9_nights l D Y A hI1 H.size S a1 _ (s_nights hR a1)) (cwV 1 hts gL_law_X9_nights rfl rfl rfl (by decide +kernel) ⟨Nat.le_of_ble_eq_true rfl, Nat.le_of_ble_eq_true rfl⟩) hK hP hS (gF_to (z := 0) hS hA0) (aC0 Y A S) (show vwCl[9]? = some (RX9, TX9, 15) from rfl) rfl rfl hl.1 (Nat.le_of_ble_eq_true rfl) dL_law_856 ⟨Nat.le_of_ble_eq_true rfl, Nat.le_of_ble_eq_true rfl⟩ ?_
  intro r1 S2 H1 locs h hP1 hS hk
  have hP2 := gStay rfl hP2 hne hk
  have hP := hP1
  clear hP1
  generalize H1 = H at hP hP2 hS ⊢
  refine lv_aload_n hx hb dL_law_859 rfl (lv_at hl 2 rfl) ?_
  refine lv_aload_n hx hb dL_law_860 rfl (lv_at hl 0 rfl) ?_
  refine lv_iload_n hx hb dL_law_861 rfl (lv_at hl 3 rfl) ?_
  refine lv_iconst (v := (1 : Int32)) hx hb dL_law_862 (by decide) ?_
  refine lv_iadd hx hb dL_law_863 ?_
  refine va_sld hx hb hX hbl hbA hS v1 dL_law_864 ?_
  rw [← ea1]
  refine hVi (As := [.int a1]) (rest := [.int r1]) ⟨hx, hb, hml, hown, hts⟩ (kX10_nights l D Y B hI2 H.size M a1 _ h) (cwV 1 hts gL_law_X10_nights rfl rfl rfl (by decide +kernel) ⟨Nat.le_of_ble_eq_true rfl, Nat.le_of_ble_eq_true rfl⟩) hK hP2 hS (gF_to (z := 0) hS hB0) (aM0 Y B M) (show vwCl[10]? = some (RX10, TX10, 54) from rfl) rfl rfl hl.1 (Nat.le_of_ble_eq_true rfl) dL_law_865 ⟨Nat.le_of_ble_eq_true rfl, Nat.le_of_ble_eq_true rfl⟩ ?_
  intro r3 S4 H1 locs h hP1 hS hk
  have hP := gStay rfl hP (fun i j h1 h2 => Ne.symm (hne j i h2 h1)) hk
  have hP2 := hP1
  clear hP1
  generalize H1 = H at hP hP2 hS ⊢
  refine lv_icmp_eq (tgt := 1348) hx hb dL_law_868 (by decide) (fun _ => ?_) (fun c5 => ?_)
  · exact kk S2 S4 _ _ _ h.2 ⟨hP, hP2, hS⟩ hl
  · exact absurd h.1 c5
set_option maxHeartbeats 4000000 in
set_option maxRecDepth 100000 in
theorem law_19 {p : Program} {e : Env} {s : State} {m : MethodId} {below : List Frame} {meth : Method} {c : Code} (l : Launch) {b L : Nat} {xs : Nat → Int32} (hL : L ≤ 3072) (C0 : lw_At p s m meth c b L xs) {D : va_G} {Y : Nat → ClassId} (hK : va_K D vwCl (tY Y) s) {A B : Nat → Nat} (hAB : gAB A B s.heap.size) {i : Nat} (hi : i + 6 ≤ L) {S M : gS} (hR : RS S M) {H : Heap} {locs : List Loc} {ls : Array Slot} (hT : gTwo D Y A B s S M H locs) (hl : lv_has ls 4 [(0, .ref b), (1, .ref (A 0)), (2, .ref (B 0)), (3, .int (nI i))])
    (kk : ∀ (S M : gS) (H : Heap) (locs : List Loc) (ls : Array Slot), RS S M → gTwo D Y A B s S M H locs → lv_has ls 4 [(0, .ref b), (1, .ref (A 0)), (2, .ref (B 0)), (3, .int (nI i))] → W p l e room_1 s m #[Value.ref b] below meth c H locs 600000 7302250 (lw_Z below #[Value.ref b] s) (F0 m 1348 ls [])) : W p l e room_1 s m #[Value.ref b] below meth c H locs 600000 7302250 (lw_Z below #[Value.ref b] s) (F0 m 873 ls []) := by
  obtain ⟨hx, hb, hr, hml, hown, hts, hX, hbl, hlocks, hgv⟩ := id C0
  have hts : ∀ w ∈ wsL_law, w.before #[Value.ref b] s = true := fun w h => hts w (wsL_law_in w h)
  have hbA : ¬ (fun q : Nat => s.heap.size ≤ q) b := Nat.not_le.mpr hbl
  obtain ⟨hI1, hI2, hne, hA0, hB0⟩ := id hAB
  obtain ⟨hP, hP2, hS⟩ := hT
  refine lv_aload_n hx hb dL_law_873 rfl (lv_at hl 1 rfl) ?_
  refine lv_aload_n hx hb dL_law_874 rfl (lv_at hl 0 rfl) ?_
  refine lv_iload_n hx hb dL_law_875 rfl (lv_at hl 3 rfl) ?_
  refine lv_iconst (v := (1 : Int32)) hx hb dL_law_876 (by decide) ?_
  refine lv_iadd hx hb dL_law_877 ?_
  have n1 : nI i + (1 : Int32) = nI (i + 1) := nI_add i 1
  have v1 : vp_in (nI i + (1 : Int32)) L := by rw [n1]; exact vp_in_nI (by omega) (by omega)
  obtain ⟨a1, ea1⟩ : ∃ z : Int32, z = xs (nI i + (1 : Int32)).toNatClampNeg := ⟨_, rfl⟩
  refine va_sld hx hb hX hbl hbA hS v1 dL_law_878 ?_
  rw [← ea1]
  refine hVi (As := [.int a1]) (rest := []) ⟨hx, hb, hml, hown, hts⟩ (kX9_search l D Y A hI1 H.size S a1 _ (s_search hR a1)) (cwV 1 hts gL_law_X9_search rfl rfl rfl (by decide +kernel) ⟨Nat.le_of_ble_eq_true rfl, Nat.le_of_ble_eq_true rfl⟩) hK hP hS (gF_to (z := 0) hS hA0) (aC0 Y A S) (show vwCl[9]? = some (RX9, TX9, 15) from rfl) rfl rfl hl.1 (Nat.le_of_ble_eq_true rfl) dL_law_879 ⟨Nat.le_of_ble_eq_true rfl, Nat.le_of_ble_eq_true rfl⟩ ?_
  intro r1 S2 H1 locs h hP1 hS hk
  have hP2 := gStay rfl hP2 hne hk
  have hP := hP1
  clear hP1
  generalize H1 = H at hP hP2 hS ⊢
  refine lv_aload_n hx hb dL_law_882 rfl (lv_at hl 2 rfl) ?_
  refine lv_aload_n hx hb dL_law_883 rfl (lv_at hl 0 rfl) ?_
  refine lv_iload_n hx hb dL_law_884 rfl (lv_at hl 3 rfl) ?_
  refine lv_iconst (v := (1 : Int32)) hx hb dL_law_885 (by decide) ?_
  refine lv_iadd hx hb dL_law_886 ?_
  refine va_sld hx hb hX hbl hbA hS v1 dL_law_887 ?_
  rw [← ea1]
  refine hVi (As := [.int a1]) (rest := [.int r1]) ⟨hx, hb, hml, hown, hts⟩ (kX10_search l D Y B hI2 H.size M a1 _ h) (cwV 1 hts gL_law_X10_search rfl rfl rfl (by decide +kernel) ⟨Nat.le_of_ble_eq_true rfl, Nat.le_of_ble_eq_true rfl⟩) hK hP2 hS (gF_to (z := 0) hS hB0) (aM0 Y B M) (show vwCl[10]? = some (RX10, TX10, 54) from rfl) rfl rfl hl.1 (Nat.le_of_ble_eq_true rfl) dL_law_888 ⟨Nat.le_of_ble_eq_true rfl, Nat.le_of_ble_eq_true rfl⟩ ?_
  intro r3 S4 H1 locs h hP1 hS hk
  have hP := gStay rfl hP (fun i j h1 h2 => Ne.symm (hne j i h2 h1)) hk
  have hP2 := hP1
  clear hP1
  generalize H1 = H at hP hP2 hS ⊢
  refine lv_icmp_eq (tgt := 1348) hx hb dL_law_891 (by decide) (fun _ => ?_) (fun c5 => ?_)
  · exact kk S2 S4 _ _ _ h.2 ⟨hP, hP2, hS⟩ hl
  · exact absurd h.1 c5
set_option maxHeartbeats 4000000 in
set_option maxRecDepth 100000 in
theorem law_20 {p : Program} {e : Env} {s : State} {m : MethodId} {below : List Frame} {meth : Method} {c : Code} (l : Launch) {b L : Nat} {xs : Nat → Int32} (hL : L ≤ 3072) (C0 : lw_At p s m meth c b L xs) {D : va_G} {Y : Nat → ClassId} (hK : va_K D vwCl (tY Y) s) {A B : Nat → Nat} (hAB : gAB A B s.heap.size) {i : Nat} (hi : i + 6 ≤ L) {S M : gS} (hR : RS S M) {H : Heap} {locs : List Loc} {ls : Array Slot} (hT : gTwo D Y A B s S M H locs) (hl : lv_has ls 4 [(0, .ref b), (1, .ref (A 0)), (2, .ref (B 0)), (3, .int (nI i))])
    (kk : ∀ (S M : gS) (H : Heap) (locs : List Loc) (ls : Array Slot), RS S M → gTwo D Y A B s S M H locs → lv_has ls 4 [(0, .ref b), (1, .ref (A 0)), (2, .ref (B 0)), (3, .int (nI i))] → W p l e room_1 s m #[Value.ref b] below meth c H locs 600000 7302250 (lw_Z below #[Value.ref b] s) (F0 m 1348 ls [])) : W p l e room_1 s m #[Value.ref b] below meth c H locs 600000 7302250 (lw_Z below #[Value.ref b] s) (F0 m 896 ls []) := by
  obtain ⟨hx, hb, hr, hml, hown, hts, hX, hbl, hlocks, hgv⟩ := id C0
  have hts : ∀ w ∈ wsL_law, w.before #[Value.ref b] s = true := fun w h => hts w (wsL_law_in w h)
  have hbA : ¬ (fun q : Nat => s.heap.size ≤ q) b := Nat.not_le.mpr hbl
  obtain ⟨hI1, hI2, hne, hA0, hB0⟩ := id hAB
  obtain ⟨hP, hP2, hS⟩ := hT
  refine lv_aload_n hx hb dL_law_896 rfl (lv_at hl 1 rfl) ?_
  refine lv_aload_n hx hb dL_law_897 rfl (lv_at hl 0 rfl) ?_
  refine lv_iload_n hx hb dL_law_898 rfl (lv_at hl 3 rfl) ?_
  refine lv_iconst (v := (1 : Int32)) hx hb dL_law_899 (by decide) ?_
  refine lv_iadd hx hb dL_law_900 ?_
  have n1 : nI i + (1 : Int32) = nI (i + 1) := nI_add i 1
  have v1 : vp_in (nI i + (1 : Int32)) L := by rw [n1]; exact vp_in_nI (by omega) (by omega)
  obtain ⟨a1, ea1⟩ : ∃ z : Int32, z = xs (nI i + (1 : Int32)).toNatClampNeg := ⟨_, rfl⟩
  refine va_sld hx hb hX hbl hbA hS v1 dL_law_901 ?_
  rw [← ea1]
  refine hVi (As := [.int a1]) (rest := []) ⟨hx, hb, hml, hown, hts⟩ (kX9_best l D Y A hI1 H.size S a1 _ (s_best hR a1)) (cwV 1 hts gL_law_X9_best rfl rfl rfl (by decide +kernel) ⟨Nat.le_of_ble_eq_true rfl, Nat.le_of_ble_eq_true rfl⟩) hK hP hS (gF_to (z := 0) hS hA0) (aC0 Y A S) (show vwCl[9]? = some (RX9, TX9, 15) from rfl) rfl rfl hl.1 (Nat.le_of_ble_eq_true rfl) dL_law_902 ⟨Nat.le_of_ble_eq_true rfl, Nat.le_of_ble_eq_true rfl⟩ ?_
  intro r1 S2 H1 locs h hP1 hS hk
  have hP2 := gStay rfl hP2 hne hk
  have hP := hP1
  clear hP1
  generalize H1 = H at hP hP2 hS ⊢
  refine lv_aload_n hx hb dL_law_905 rfl (lv_at hl 2 rfl) ?_
  refine lv_aload_n hx hb dL_law_906 rfl (lv_at hl 0 rfl) ?_
  refine lv_iload_n hx hb dL_law_907 rfl (lv_at hl 3 rfl) ?_
  refine lv_iconst (v := (1 : Int32)) hx hb dL_law_908 (by decide) ?_
  refine lv_iadd hx hb dL_law_909 ?_
  refine va_sld hx hb hX hbl hbA hS v1 dL_law_910 ?_
  rw [← ea1]
  refine hVi (As := [.int a1]) (rest := [.int r1]) ⟨hx, hb, hml, hown, hts⟩ (kX10_best l D Y B hI2 H.size M a1 _ h) (cwV 1 hts gL_law_X10_best rfl rfl rfl (by decide +kernel) ⟨Nat.le_of_ble_eq_true rfl, Nat.le_of_ble_eq_true rfl⟩) hK hP2 hS (gF_to (z := 0) hS hB0) (aM0 Y B M) (show vwCl[10]? = some (RX10, TX10, 54) from rfl) rfl rfl hl.1 (Nat.le_of_ble_eq_true rfl) dL_law_911 ⟨Nat.le_of_ble_eq_true rfl, Nat.le_of_ble_eq_true rfl⟩ ?_
  intro r3 S4 H1 locs h hP1 hS hk
  have hP := gStay rfl hP (fun i j h1 h2 => Ne.symm (hne j i h2 h1)) hk
  have hP2 := hP1
  clear hP1
  generalize H1 = H at hP hP2 hS ⊢
  refine lv_icmp_eq (tgt := 1348) hx hb dL_law_914 (by decide) (fun _ => ?_) (fun c5 => ?_)
  · exact kk S2 S4 _ _ _ h.2 ⟨hP, hP2, hS⟩ hl
  · exact absurd h.1 c5
