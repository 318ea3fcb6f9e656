/-! the law's cases -/
set_option maxHeartbeats 4000000 in
set_option maxRecDepth 100000 in
theorem law_7 {p : Program} {e : Env} {s : State} {m : MethodId} {below : List Frame} {meth : Method} {c : Code} (l : Launch) {b L : Nat} {xs : Nat → Int32} (hL : L ≤ 3072) (C0 : lw_At p s m meth c b L xs) {D : va_G} {Y : Nat → ClassId} (hK : va_K D vwCl (tY Y) s) {A B : Nat → Nat} (hAB : gAB A B s.heap.size) {i : Nat} (hi : i + 6 ≤ L) {S M : gS} (hR : RS S M) {H : Heap} {locs : List Loc} {ls : Array Slot} (hT : gTwo D Y A B s S M H locs) (hl : lv_has ls 4 [(0, .ref b), (1, .ref (A 0)), (2, .ref (B 0)), (3, .int (nI i))])
    (kk : ∀ (S M : gS) (H : Heap) (locs : List Loc) (ls : Array Slot), RS S M → gTwo D Y A B s S M H locs → lv_has ls 4 [(0, .ref b), (1, .ref (A 0)), (2, .ref (B 0)), (3, .int (nI i))] → W p l e room_1 s m #[Value.ref b] below meth c H locs 600000 7302250 (lw_Z below #[Value.ref b] s) (F0 m 1348 ls [])) : W p l e room_1 s m #[Value.ref b] below meth c H locs 600000 7302250 (lw_Z below #[Value.ref b] s) (F0 m 441 ls []) := by
  obtain ⟨hx, hb, hr, hml, hown, hts, hX, hbl, hlocks, hgv⟩ := id C0
  have hts : ∀ w ∈ wsL_law, w.before #[Value.ref b] s = true := fun w h => hts w (wsL_law_in w h)
  have hbA : ¬ (fun q : Nat => s.heap.size ≤ q) b := Nat.not_le.mpr hbl
  obtain ⟨hI1, hI2, hne, hA0, hB0⟩ := id hAB
  obtain ⟨hP, hP2, hS⟩ := hT
  refine lv_aload_n hx hb dL_law_441 rfl (lv_at hl 1 rfl) ?_
  refine lv_aload_n hx hb dL_law_442 rfl (lv_at hl 0 rfl) ?_
  refine lv_iload_n hx hb dL_law_443 rfl (lv_at hl 3 rfl) ?_
  refine lv_iconst (v := (1 : Int32)) hx hb dL_law_444 (by decide) ?_
  refine lv_iadd hx hb dL_law_445 ?_
  have n1 : nI i + (1 : Int32) = nI (i + 1) := nI_add i 1
  have v1 : vp_in (nI i + (1 : Int32)) L := by rw [n1]; exact vp_in_nI (by omega) (by omega)
  obtain ⟨a1, ea1⟩ : ∃ z : Int32, z = xs (nI i + (1 : Int32)).toNatClampNeg := ⟨_, rfl⟩
  refine va_sld hx hb hX hbl hbA hS v1 dL_law_446 ?_
  rw [← ea1]
  refine lv_aload_n hx hb dL_law_447 rfl (lv_at hl 0 rfl) ?_
  refine lv_iload_n hx hb dL_law_448 rfl (lv_at hl 3 rfl) ?_
  refine lv_iconst (v := (2 : Int32)) hx hb dL_law_449 (by decide) ?_
  refine lv_iadd hx hb dL_law_450 ?_
  have n2 : nI i + (2 : Int32) = nI (i + 2) := nI_add i 2
  have v2 : vp_in (nI i + (2 : Int32)) L := by rw [n2]; exact vp_in_nI (by omega) (by omega)
  obtain ⟨a2, ea2⟩ : ∃ z : Int32, z = xs (nI i + (2 : Int32)).toNatClampNeg := ⟨_, rfl⟩
  refine va_sld hx hb hX hbl hbA hS v2 dL_law_451 ?_
  rw [← ea2]
  refine hVi (As := [.int a1, .int a2]) (rest := []) ⟨hx, hb, hml, hown, hts⟩ (kX9_tide l D Y A hI1 H.size S a1 a2 _ (s_tide hR a1 a2)) (cwV 2 hts gL_law_X9_tide rfl rfl rfl (by decide +kernel) ⟨Nat.le_of_ble_eq_true rfl, Nat.le_of_ble_eq_true rfl⟩) hK hP hS (gF_to (z := 0) hS hA0) (aC0 Y A S) (show vwCl[9]? = some (RX9, TX9, 15) from rfl) rfl rfl hl.1 (Nat.le_of_ble_eq_true rfl) dL_law_452 ⟨Nat.le_of_ble_eq_true rfl, Nat.le_of_ble_eq_true rfl⟩ ?_
  intro r1 S2 H1 locs h hP1 hS hk
  have hP2 := gStay rfl hP2 hne hk
  have hP := hP1
  clear hP1
  generalize H1 = H at hP hP2 hS ⊢
  refine lv_aload_n hx hb dL_law_455 rfl (lv_at hl 2 rfl) ?_
  refine lv_aload_n hx hb dL_law_456 rfl (lv_at hl 0 rfl) ?_
  refine lv_iload_n hx hb dL_law_457 rfl (lv_at hl 3 rfl) ?_
  refine lv_iconst (v := (1 : Int32)) hx hb dL_law_458 (by decide) ?_
  refine lv_iadd hx hb dL_law_459 ?_
  refine va_sld hx hb hX hbl hbA hS v1 dL_law_460 ?_
  rw [← ea1]
  refine lv_aload_n hx hb dL_law_461 rfl (lv_at hl 0 rfl) ?_
  refine lv_iload_n hx hb dL_law_462 rfl (lv_at hl 3 rfl) ?_
  refine lv_iconst (v := (2 : Int32)) hx hb dL_law_463 (by decide) ?_
  refine lv_iadd hx hb dL_law_464 ?_
  refine va_sld hx hb hX hbl hbA hS v2 dL_law_465 ?_
  rw [← ea2]
  refine hVi (As := [.int a1, .int a2]) (rest := [.int r1]) ⟨hx, hb, hml, hown, hts⟩ (kX10_tide l D Y B hI2 H.size M a1 a2 _ h) (cwV 2 hts gL_law_X10_tide rfl rfl rfl (by decide +kernel) ⟨Nat.le_of_ble_eq_true rfl, Nat.le_of_ble_eq_true rfl⟩) hK hP2 hS (gF_to (z := 0) hS hB0) (aM0 Y B M) (show vwCl[10]? = some (RX10, TX10, 54) from rfl) rfl rfl hl.1 (Nat.le_of_ble_eq_true rfl) dL_law_466 ⟨Nat.le_of_ble_eq_true rfl, Nat.le_of_ble_eq_true rfl⟩ ?_
  intro r3 S4 H1 locs h hP1 hS hk
  have hP := gStay rfl hP (fun i j h1 h2 => Ne.symm (hne j i h2 h1)) hk
  have hP2 := hP1
  clear hP1
  generalize H1 = H at hP hP2 hS ⊢
  refine lv_icmp_eq (tgt := 1348) hx hb dL_law_469 (by decide) (fun _ => ?_) (fun c5 => ?_)
  · exact kk S2 S4 _ _ _ h.2 ⟨hP, hP2, hS⟩ hl
  · exact absurd h.1 c5
set_option maxHeartbeats 4000000 in
set_option maxRecDepth 100000 in
theorem law_8 {p : Program} {e : Env} {s : State} {m : MethodId} {below : List Frame} {meth : Method} {c : Code} (l : Launch) {b L : Nat} {xs : Nat → Int32} (hL : L ≤ 3072) (C0 : lw_At p s m meth c b L xs) {D : va_G} {Y : Nat → ClassId} (hK : va_K D vwCl (tY Y) s) {A B : Nat → Nat} (hAB : gAB A B s.heap.size) {i : Nat} (hi : i + 6 ≤ L) {S M : gS} (hR : RS S M) {H : Heap} {locs : List Loc} {ls : Array Slot} (hT : gTwo D Y A B s S M H locs) (hl : lv_has ls 4 [(0, .ref b), (1, .ref (A 0)), (2, .ref (B 0)), (3, .int (nI i))])
    (kk : ∀ (S M : gS) (H : Heap) (locs : List Loc) (ls : Array Slot), RS S M → gTwo D Y A B s S M H locs → lv_has ls 4 [(0, .ref b), (1, .ref (A 0)), (2, .ref (B 0)), (3, .int (nI i))] → W p l e room_1 s m #[Value.ref b] below meth c H locs 600000 7302250 (lw_Z below #[Value.ref b] s) (F0 m 1348 ls [])) : W p l e room_1 s m #[Value.ref b] below meth c H locs 600000 7302250 (lw_Z below #[Value.ref b] s) (F0 m 474 ls []) := by
  obtain ⟨hx, hb, hr, hml, hown, hts, hX, hbl, hlocks, hgv⟩ := id C0
  have hts : ∀ w ∈ wsL_law, w.before #[Value.ref b] s = true := fun w h => hts w (wsL_law_in w h)
  have hbA : ¬ (fun q : Nat => s.heap.size ≤ q) b := Nat.not_le.mpr hbl
  obtain ⟨hI1, hI2, hne, hA0, hB0⟩ := id hAB
  obtain ⟨hP, hP2, hS⟩ := hT
  refine lv_aload_n hx hb dL_law_474 rfl (lv_at hl 1 rfl) ?_
  refine lv_aload_n hx hb dL_law_475 rfl (lv_at hl 0 rfl) ?_
  refine lv_iload_n hx hb dL_law_476 rfl (lv_at hl 3 rfl) ?_
  refine lv_iconst (v := (1 : Int32)) hx hb dL_law_477 (by decide) ?_
  refine lv_iadd hx hb dL_law_478 ?_
  have n1 : nI i + (1 : Int32) = nI (i + 1) := nI_add i 1
  have v1 : vp_in (nI i + (1 : Int32)) L := by rw [n1]; exact vp_in_nI (by omega) (by omega)
  obtain ⟨a1, ea1⟩ : ∃ z : Int32, z = xs (nI i + (1 : Int32)).toNatClampNeg := ⟨_, rfl⟩
  refine va_sld hx hb hX hbl hbA hS v1 dL_law_479 ?_
  rw [← ea1]
  refine lv_aload_n hx hb dL_law_480 rfl (lv_at hl 0 rfl) ?_
  refine lv_iload_n hx hb dL_law_481 rfl (lv_at hl 3 rfl) ?_
  refine lv_iconst (v := (2 : Int32)) hx hb dL_law_482 (by decide) ?_
  refine lv_iadd hx hb dL_law_483 ?_
  have n2 : nI i + (2 : Int32) = nI (i + 2) := nI_add i 2
  have v2 : vp_in (nI i + (2 : Int32)) L := by rw [n2]; exact vp_in_nI (by omega) (by omega)
  obtain ⟨a2, ea2⟩ : ∃ z : Int32, z = xs (nI i + (2 : Int32)).toNatClampNeg := ⟨_, rfl⟩
  refine va_sld hx hb hX hbl hbA hS v2 dL_law_484 ?_
  rw [← ea2]
  refine lv_aload_n hx hb dL_law_485 rfl (lv_at hl 0 rfl) ?_
  refine lv_iload_n hx hb dL_law_486 rfl (lv_at hl 3 rfl) ?_
  refine lv_iconst (v := (3 : Int32)) hx hb dL_law_487 (by decide) ?_
  refine lv_iadd hx hb dL_law_488 ?_
  have n3 : nI i + (3 : Int32) = nI (i + 3) := nI_add i 3
  have v3 : vp_in (nI i + (3 : Int32)) L := by rw [n3]; exact vp_in_nI (by omega) (by omega)
  obtain ⟨a3, ea3⟩ : ∃ z : Int32, z = xs (nI i + (3 : Int32)).toNatClampNeg := ⟨_, rfl⟩
  refine va_sld hx hb hX hbl hbA hS v3 dL_law_489 ?_
  rw [← ea3]
  refine lv_aload_n hx hb dL_law_490 rfl (lv_at hl 0 rfl) ?_
  refine lv_iload_n hx hb dL_law_491 rfl (lv_at hl 3 rfl) ?_
  refine lv_iconst (v := (4 : Int32)) hx hb dL_law_492 (by decide) ?_
  refine lv_iadd hx hb dL_law_493 ?_
  have n4 : nI i + (4 : Int32) = nI (i + 4) := nI_add i 4
  have v4 : vp_in (nI i + (4 : Int32)) L := by rw [n4]; exact vp_in_nI (by omega) (by omega)
  obtain ⟨a4, ea4⟩ : ∃ z : Int32, z = xs (nI i + (4 : Int32)).toNatClampNeg := ⟨_, rfl⟩
  refine va_sld hx hb hX hbl hbA hS v4 dL_law_494 ?_
  rw [← ea4]
  refine hVi (As := [.int a1, .int a2, .int a3, .int a4]) (rest := []) ⟨hx, hb, hml, hown, hts⟩ (kX9_boat l D Y A hI1 H.size S a1 a2 a3 a4 _ (s_boat hR a1 a2 a3 a4)) (cwV 4 hts gL_law_X9_boat rfl rfl rfl (by decide +kernel) ⟨Nat.le_of_ble_eq_true rfl, Nat.le_of_ble_eq_true rfl⟩) hK hP hS (gF_to (z := 0) hS hA0) (aC0 Y A S) (show vwCl[9]? = some (RX9, TX9, 15) from rfl) rfl rfl hl.1 (Nat.le_of_ble_eq_true rfl) dL_law_495 ⟨Nat.le_of_ble_eq_true rfl, Nat.le_of_ble_eq_true rfl⟩ ?_
  intro r1 S2 H1 locs h hP1 hS hk
  have hP2 := gStay rfl hP2 hne hk
  have hP := hP1
  clear hP1
  generalize H1 = H at hP hP2 hS ⊢
  refine lv_aload_n hx hb dL_law_498 rfl (lv_at hl 2 rfl) ?_
  refine lv_aload_n hx hb dL_law_499 rfl (lv_at hl 0 rfl) ?_
  refine lv_iload_n hx hb dL_law_500 rfl (lv_at hl 3 rfl) ?_
  refine lv_iconst (v := (1 : Int32)) hx hb dL_law_501 (by decide) ?_
  refine lv_iadd hx hb dL_law_502 ?_
  refine va_sld hx hb hX hbl hbA hS v1 dL_law_503 ?_
  rw [← ea1]
  refine lv_aload_n hx hb dL_law_504 rfl (lv_at hl 0 rfl) ?_
  refine lv_iload_n hx hb dL_law_505 rfl (lv_at hl 3 rfl) ?_
  refine lv_iconst (v := (2 : Int32)) hx hb dL_law_506 (by decide) ?_
  refine lv_iadd hx hb dL_law_507 ?_
  refine va_sld hx hb hX hbl hbA hS v2 dL_law_508 ?_
  rw [← ea2]
  refine lv_aload_n hx hb dL_law_509 rfl (lv_at hl 0 rfl) ?_
  refine lv_iload_n hx hb dL_law_510 rfl (lv_at hl 3 rfl) ?_
  refine lv_iconst (v := (3 : Int32)) hx hb dL_law_511 (by decide) ?_
  refine lv_iadd hx hb dL_law_512 ?_
  refine va_sld hx hb hX hbl hbA hS v3 dL_law_513 ?_
  rw [← ea3]
  refine lv_aload_n hx hb dL_law_514 rfl (lv_at hl 0 rfl) ?_
  refine lv_iload_n hx hb dL_law_515 rfl (lv_at hl 3 rfl) ?_
  refine lv_iconst (v := (4 : Int32)) hx hb dL_law_516 (by decide) ?_
  refine lv_iadd hx hb dL_law_517 ?_
  refine va_sld hx hb hX hbl hbA hS v4 dL_law_518 ?_
  rw [← ea4]
  refine hVi (As := [.int a1, .int a2, .int a3, .int a4]) (rest := [.int r1]) ⟨hx, hb, hml, hown, hts⟩ (kX10_boat l D Y B hI2 H.size M a1 a2 a3 a4 _ h) (cwV 4 hts gL_law_X10_boat rfl rfl rfl (by decide +kernel) ⟨Nat.le_of_ble_eq_true rfl, Nat.le_of_ble_eq_true rfl⟩) hK hP2 hS (gF_to (z := 0) hS hB0) (aM0 Y B M) (show vwCl[10]? = some (RX10, TX10, 54) from rfl) rfl rfl hl.1 (Nat.le_of_ble_eq_true rfl) dL_law_519 ⟨Nat.le_of_ble_eq_true rfl, Nat.le_of_ble_eq_true rfl⟩ ?_
  intro r3 S4 H1 locs h hP1 hS hk
  have hP := gStay rfl hP (fun i j h1 h2 => Ne.symm (hne j i h2 h1)) hk
  have hP2 := hP1
  clear hP1
  generalize H1 = H at hP hP2 hS ⊢
  refine lv_icmp_eq (tgt := 1348) hx hb dL_law_522 (by decide) (fun _ => ?_) (fun c5 => ?_)
  · exact kk S2 S4 _ _ _ h.2 ⟨hP, hP2, hS⟩ hl
  · exact absurd h.1 c5
set_option maxHeartbeats 4000000 in
set_option maxRecDepth 100000 in
theorem law_9 {p : Program} {e : Env} {s : State} {m : MethodId} {below : List Frame} {meth : Method} {c : Code} (l : Launch) {b L : Nat} {xs : Nat → Int32} (hL : L ≤ 3072) (C0 : lw_At p s m meth c b L xs) {D : va_G} {Y : Nat → ClassId} (hK : va_K D vwCl (tY Y) s) {A B : Nat → Nat} (hAB : gAB A B s.heap.size) {i : Nat} (hi : i + 6 ≤ L) {S M : gS} (hR : RS S M) {H : Heap} {locs : List Loc} {ls : Array Slot} (hT : gTwo D Y A B s S M H locs) (hl : lv_has ls 4 [(0, .ref b), (1, .ref (A 0)), (2, .ref (B 0)), (3, .int (nI i))])
    (kk : ∀ (S M : gS) (H : Heap) (locs : List Loc) (ls : Array Slot), RS S M → gTwo D Y A B s S M H locs → lv_has ls 4 [(0, .ref b), (1, .ref (A 0)), (2, .ref (B 0)), (3, .int (nI i))] → W p l e room_1 s m #[Value.ref b] below meth c H locs 600000 7302250 (lw_Z below #[Value.ref b] s) (F0 m 1348 ls [])) : W p l e room_1 s m #[Value.ref b] below meth c H locs 600000 7302250 (lw_Z below #[Value.ref b] s) (F0 m 527 ls []) := by
  obtain ⟨hx, hb, hr, hml, hown, hts, hX, hbl, hlocks, hgv⟩ := id C0
  have hts : ∀ w ∈ wsL_law, w.before #[Value.ref b] s = true := fun w h => hts w (wsL_law_in w h)
  have hbA : ¬ (fun q : Nat => s.heap.size ≤ q) b := Nat.not_le.mpr hbl
  obtain ⟨hI1, hI2, hne, hA0, hB0⟩ := id hAB
  obtain ⟨hP, hP2, hS⟩ := hT
  refine lv_aload_n hx hb dL_law_527 rfl (lv_at hl 1 rfl) ?_
  refine lv_aload_n hx hb dL_law_528 rfl (lv_at hl 0 rfl) ?_
  refine lv_iload_n hx hb dL_law_529 rfl (lv_at hl 3 rfl) ?_
  refine lv_iconst (v := (1 : Int32)) hx hb dL_law_530 (by decide) ?_
  refine lv_iadd hx hb dL_law_531 ?_
  have n1 : nI i + (1 : Int32) = nI (i + 1) := nI_add i 1
  have v1 : vp_in (nI i + (1 : Int32)) L := by rw [n1]; exact vp_in_nI (by omega) (by omega)
  obtain ⟨a1, ea1⟩ : ∃ z : Int32, z = xs (nI i + (1 : Int32)).toNatClampNeg := ⟨_, rfl⟩
  refine va_sld hx hb hX hbl hbA hS v1 dL_law_532 ?_
  rw [← ea1]
  refine lv_aload_n hx hb dL_law_533 rfl (lv_at hl 0 rfl) ?_
  refine lv_iload_n hx hb dL_law_534 rfl (lv_at hl 3 rfl) ?_
  refine lv_iconst (v := (2 : Int32)) hx hb dL_law_535 (by decide) ?_
  refine lv_iadd hx hb dL_law_536 ?_
  have n2 : nI i + (2 : Int32) = nI (i + 2) := nI_add i 2
  have v2 : vp_in (nI i + (2 : Int32)) L := by rw [n2]; exact vp_in_nI (by omega) (by omega)
  obtain ⟨a2, ea2⟩ : ∃ z : Int32, z = xs (nI i + (2 : Int32)).toNatClampNeg := ⟨_, rfl⟩
  refine va_sld hx hb hX hbl hbA hS v2 dL_law_537 ?_
  rw [← ea2]
  refine hVi (As := [.int a1, .int a2]) (rest := []) ⟨hx, hb, hml, hown, hts⟩ (kX9_load l D Y A hI1 H.size S a1 a2 _ (s_load hR a1 a2)) (cwV 2 hts gL_law_X9_load rfl rfl rfl (by decide +kernel) ⟨Nat.le_of_ble_eq_true rfl, Nat.le_of_ble_eq_true rfl⟩) hK hP hS (gF_to (z := 0) hS hA0) (aC0 Y A S) (show vwCl[9]? = some (RX9, TX9, 15) from rfl) rfl rfl hl.1 (Nat.le_of_ble_eq_true rfl) dL_law_538 ⟨Nat.le_of_ble_eq_true rfl, Nat.le_of_ble_eq_true rfl⟩ ?_
  intro r1 S2 H1 locs h hP1 hS hk
  have hP2 := gStay rfl hP2 hne hk
  have hP := hP1
  clear hP1
  generalize H1 = H at hP hP2 hS ⊢
  refine lv_aload_n hx hb dL_law_541 rfl (lv_at hl 2 rfl) ?_
  refine lv_aload_n hx hb dL_law_542 rfl (lv_at hl 0 rfl) ?_
  refine lv_iload_n hx hb dL_law_543 rfl (lv_at hl 3 rfl) ?_
  refine lv_iconst (v := (1 : Int32)) hx hb dL_law_544 (by decide) ?_
  refine lv_iadd hx hb dL_law_545 ?_
  refine va_sld hx hb hX hbl hbA hS v1 dL_law_546 ?_
  rw [← ea1]
  refine lv_aload_n hx hb dL_law_547 rfl (lv_at hl 0 rfl) ?_
  refine lv_iload_n hx hb dL_law_548 rfl (lv_at hl 3 rfl) ?_
  refine lv_iconst (v := (2 : Int32)) hx hb dL_law_549 (by decide) ?_
  refine lv_iadd hx hb dL_law_550 ?_
  refine va_sld hx hb hX hbl hbA hS v2 dL_law_551 ?_
  rw [← ea2]
  refine hVi (As := [.int a1, .int a2]) (rest := [.int r1]) ⟨hx, hb, hml, hown, hts⟩ (kX10_load l D Y B hI2 H.size M a1 a2 _ h) (cwV 2 hts gL_law_X10_load rfl rfl rfl (by decide +kernel) ⟨Nat.le_of_ble_eq_true rfl, Nat.le_of_ble_eq_true rfl⟩) hK hP2 hS (gF_to (z := 0) hS hB0) (aM0 Y B M) (show vwCl[10]? = some (RX10, TX10, 54) from rfl) rfl rfl hl.1 (Nat.le_of_ble_eq_true rfl) dL_law_552 ⟨Nat.le_of_ble_eq_true rfl, Nat.le_of_ble_eq_true rfl⟩ ?_
  intro r3 S4 H1 locs h hP1 hS hk
  have hP := gStay rfl hP (fun i j h1 h2 => Ne.symm (hne j i h2 h1)) hk
  have hP2 := hP1
  clear hP1
  generalize H1 = H at hP hP2 hS ⊢
  refine lv_icmp_eq (tgt := 1348) hx hb dL_law_555 (by decide) (fun _ => ?_) (fun c5 => ?_)
  · exact kk S2 S4 _ _ _ h.2 ⟨hP, hP2, hS⟩ hl
  · exact absurd h.1 c5
set_option maxHeartbeats 4000000 in
set_option maxRecDepth 100000 in
theorem law_10 {p : Program} {e : Env} {s : State} {m : MethodId} {below : List Frame} {meth : Method} {c : Code} (l : Launch) {b L : Nat} {xs : Nat → Int32} (hL : L ≤ 3072) (C0 : lw_At p s m meth c b L xs) {D : va_G} {Y : Nat → ClassId} (hK : va_K D vwCl (tY Y) s) {A B : Nat → Nat} (hAB : gAB A B s.heap.size) {i : Nat} (hi : i + 6 ≤ L) {S M : gS} (hR : RS S M) {H : Heap} {locs : List Loc} {ls : Array Slot} (hT : gTwo D Y A B s S M H locs) (hl : lv_has ls 4 [(0, .ref b), (1, .ref (A 0)), (2, .ref (B 0)), (3, .int (nI i))])
    (kk : ∀ (S M : gS) (H : Heap) (locs : List Loc) (ls : Array Slot), RS S M → gTwo D Y A B s S M H locs → lv_has ls 4 [(0, .ref b), (1, .ref (A 0)), (2, .ref (B 0)), (3, .int (nI i))] → W p l e room_1 s m #[Value.ref b] below meth c H locs 600000 7302250 (lw_Z below #[Value.ref b] s) (F0 m 1348 ls [])) : W p l e room_1 s m #[Value.ref b] below meth c H locs 600000 7302250 (lw_Z below #[Value.ref b] s) (F0 m 560 ls []) := by
  obtain ⟨hx, hb, hr, hml, hown, hts, hX, hbl, hlocks, hgv⟩ := id C0
  have hts : ∀ w ∈ wsL_law, w.before #[Value.ref b] s = true := fun w h => hts w (wsL_law_in w h)
  have hbA : ¬ (fun q : Nat => s.heap.size ≤ q) b := Nat.not_le.mpr hbl
  obtain ⟨hI1, hI2, hne, hA0, hB0⟩ := id hAB
  obtain ⟨hP, hP2, hS⟩ := hT
  refine lv_aload_n hx hb dL_law_560 rfl (lv_at hl 1 rfl) ?_
  refine lv_aload_n hx hb dL_law_561 rfl (lv_at hl 0 rfl) ?_
  refine lv_iload_n hx hb dL_law_562 rfl (lv_at hl 3 rfl) ?_
  refine lv_iconst (v := (1 : Int32)) hx hb dL_law_563 (by decide) ?_
  refine lv_iadd hx hb dL_law_564 ?_
  have n1 : nI i + (1 : Int32) = nI (i + 1) := nI_add i 1
  have v1 : vp_in (nI i + (1 : Int32)) L := by rw [n1]; exact vp_in_nI (by omega) (by omega)
  obtain ⟨a1, ea1⟩ : ∃ z : Int32, z = xs (nI i + (1 : Int32)).toNatClampNeg := ⟨_, rfl⟩
  refine va_sld hx hb hX hbl hbA hS v1 dL_law_565 ?_
  rw [← ea1]
  refine lv_aload_n hx hb dL_law_566 rfl (lv_at hl 0 rfl) ?_
  refine lv_iload_n hx hb dL_law_567 rfl (lv_at hl 3 rfl) ?_
  refine lv_iconst (v := (2 : Int32)) hx hb dL_law_568 (by decide) ?_
  refine lv_iadd hx hb dL_law_569 ?_
  have n2 : nI i + (2 : Int32) = nI (i + 2) := nI_add i 2
  have v2 : vp_in (nI i + (2 : Int32)) L := by rw [n2]; exact vp_in_nI (by omega) (by omega)
  obtain ⟨a2, ea2⟩ : ∃ z : Int32, z = xs (nI i + (2 : Int32)).toNatClampNeg := ⟨_, rfl⟩
  refine va_sld hx hb hX hbl hbA hS v2 dL_law_570 ?_
  rw [← ea2]
  refine lv_aload_n hx hb dL_law_571 rfl (lv_at hl 0 rfl) ?_
  refine lv_iload_n hx hb dL_law_572 rfl (lv_at hl 3 rfl) ?_
  refine lv_iconst (v := (3 : Int32)) hx hb dL_law_573 (by decide) ?_
  refine lv_iadd hx hb dL_law_574 ?_
  have n3 : nI i + (3 : Int32) = nI (i + 3) := nI_add i 3
  have v3 : vp_in (nI i + (3 : Int32)) L := by rw [n3]; exact vp_in_nI (by omega) (by omega)
  obtain ⟨a3, ea3⟩ : ∃ z : Int32, z = xs (nI i + (3 : Int32)).toNatClampNeg := ⟨_, rfl⟩
  refine va_sld hx hb hX hbl hbA hS v3 dL_law_575 ?_
  rw [← ea3]
  refine hVi (As := [.int a1, .int a2, .int a3]) (rest := []) ⟨hx, hb, hml, hown, hts⟩ (kX9_hide l D Y A hI1 H.size S a1 a2 a3 _ (s_hide hR a1 a2 a3)) (cwV 3 hts gL_law_X9_hide rfl rfl rfl (by decide +kernel) ⟨Nat.le_of_ble_eq_true rfl, Nat.le_of_ble_eq_true rfl⟩) hK hP hS (gF_to (z := 0) hS hA0) (aC0 Y A S) (show vwCl[9]? = some (RX9, TX9, 15) from rfl) rfl rfl hl.1 (Nat.le_of_ble_eq_true rfl) dL_law_576 ⟨Nat.le_of_ble_eq_true rfl, Nat.le_of_ble_eq_true rfl⟩ ?_
  intro r1 S2 H1 locs h hP1 hS hk
  have hP2 := gStay rfl hP2 hne hk
  have hP := hP1
  clear hP1
  generalize H1 = H at hP hP2 hS ⊢
  refine lv_aload_n hx hb dL_law_579 rfl (lv_at hl 2 rfl) ?_
  refine lv_aload_n hx hb dL_law_580 rfl (lv_at hl 0 rfl) ?_
  refine lv_iload_n hx hb dL_law_581 rfl (lv_at hl 3 rfl) ?_
  refine lv_iconst (v := (1 : Int32)) hx hb dL_law_582 (by decide) ?_
  refine lv_iadd hx hb dL_law_583 ?_
  refine va_sld hx hb hX hbl hbA hS v1 dL_law_584 ?_
  rw [← ea1]
  refine lv_aload_n hx hb dL_law_585 rfl (lv_at hl 0 rfl) ?_
  refine lv_iload_n hx hb dL_law_586 rfl (lv_at hl 3 rfl) ?_
  refine lv_iconst (v := (2 : Int32)) hx hb dL_law_587 (by decide) ?_
  refine lv_iadd hx hb dL_law_588 ?_
  refine va_sld hx hb hX hbl hbA hS v2 dL_law_589 ?_
  rw [← ea2]
  refine lv_aload_n hx hb dL_law_590 rfl (lv_at hl 0 rfl) ?_
  refine lv_iload_n hx hb dL_law_591 rfl (lv_at hl 3 rfl) ?_
  refine lv_iconst (v := (3 : Int32)) hx hb dL_law_592 (by decide) ?_
  refine lv_iadd hx hb dL_law_593 ?_
  refine va_sld hx hb hX hbl hbA hS v3 dL_law_594 ?_
  rw [← ea3]
  refine hVi (As := [.int a1, .int a2, .int a3]) (rest := [.int r1]) ⟨hx, hb, hml, hown, hts⟩ (kX10_hide l D Y B hI2 H.size M a1 a2 a3 _ h) (cwV 3 hts gL_law_X10_hide rfl rfl rfl (by decide +kernel) ⟨Nat.le_of_ble_eq_true rfl, Nat.le_of_ble_eq_true rfl⟩) hK hP2 hS (gF_to (z := 0) hS hB0) (aM0 Y B M) (show vwCl[10]? = some (RX10, TX10, 54) from rfl) rfl rfl hl.1 (Nat.le_of_ble_eq_true rfl) dL_law_595 ⟨Nat.le_of_ble_eq_true rfl, Nat.le_of_ble_eq_true rfl⟩ ?_
  intro r3 S4 H1 locs h hP1 hS hk
  have hP := gStay rfl hP (fun i j h1 h2 => Ne.symm (hne j i h2 h1)) hk
  have hP2 := hP1
  clear hP1
  generalize H1 = H at hP hP2 hS ⊢
  refine lv_icmp_eq (tgt := 1348) hx hb dL_law_598 (by decide) (fun _ => ?_) (fun c5 => ?_)
  · exact kk S2 S4 _ _ _ h.2 ⟨hP, hP2, hS⟩ hl
  · exact absurd h.1 c5
set_option maxHeartbeats 4000000 in
set_option maxRecDepth 100000 in
theorem law_11 {p : Program} {e : Env} {s : State} {m : MethodId} {below : List Frame} {meth : Method} {c : Code} (l : Launch) {b L : Nat} {xs : Nat → Int32} (hL : L ≤ 3072) (C0 : lw_At p s m meth c b L xs) {D : va_G} {Y : Nat → ClassId} (hK : va_K D vwCl (tY Y) s) {A B : Nat → Nat} (hAB : gAB A B s.heap.size) {i : Nat} (hi : i + 6 ≤ L) {S M : gS} (hR : RS S M) {H : Heap} {locs : List Loc} {ls : Array Slot} (hT : gTwo D Y A B s S M H locs) (hl : lv_has ls 4 [(0, .ref b), (1, .ref (A 0)), (2, .ref (B 0)), (3, .int (nI i))])
    (kk : ∀ (S M : gS) (H : Heap) (locs : List Loc) (ls : Array Slot), RS S M → gTwo D Y A B s S M H locs → lv_has ls 4 [(0, .ref b), (1, .ref (A 0)), (2, .ref (B 0)), (3, .int (nI i))] → W p l e room_1 s m #[Value.ref b] below meth c H locs 600000 7302250 (lw_Z below #[Value.ref b] s) (F0 m 1348 ls [])) : W p l e room_1 s m #[Value.ref b] below meth c H locs 600000 7302250 (lw_Z below #[Value.ref b] s) (F0 m 603 ls []) := by
  obtain ⟨hx, hb, hr, hml, hown, hts, hX, hbl, hlocks, hgv⟩ := id C0
  have hts : ∀ w ∈ wsL_law, w.before #[Value.ref b] s = true := fun w h => hts w (wsL_law_in w h)
  have hbA : ¬ (fun q : Nat => s.heap.size ≤ q) b := Nat.not_le.mpr hbl
  obtain ⟨hI1, hI2, hne, hA0, hB0⟩ := id hAB
  obtain ⟨hP, hP2, hS⟩ := hT
  refine lv_aload_n hx hb dL_law_603 rfl (lv_at hl 1 rfl) ?_
  refine lv_aload_n hx hb dL_law_604 rfl (lv_at hl 0 rfl) ?_
  refine lv_iload_n hx hb dL_law_605 rfl (lv_at hl 3 rfl) ?_
  refine lv_iconst (v := (1 : Int32)) hx hb dL_law_606 (by decide) ?_
  refine lv_iadd hx hb dL_law_607 ?_
  have n1 : nI i + (1 : Int32) = nI (i + 1) := nI_add i 1
  have v1 : vp_in (nI i + (1 : Int32)) L := by rw [n1]; exact vp_in_nI (by omega) (by omega)
  obtain ⟨a1, ea1⟩ : ∃ z : Int32, z = xs (nI i + (1 : Int32)).toNatClampNeg := ⟨_, rfl⟩
  refine va_sld hx hb hX hbl hbA hS v1 dL_law_608 ?_
  rw [← ea1]
  refine lv_aload_n hx hb dL_law_609 rfl (lv_at hl 0 rfl) ?_
  refine lv_iload_n hx hb dL_law_610 rfl (lv_at hl 3 rfl) ?_
  refine lv_iconst (v := (2 : Int32)) hx hb dL_law_611 (by decide) ?_
  refine lv_iadd hx hb dL_law_612 ?_
  have n2 : nI i + (2 : Int32) = nI (i + 2) := nI_add i 2
  have v2 : vp_in (nI i + (2 : Int32)) L := by rw [n2]; exact vp_in_nI (by omega) (by omega)
  obtain ⟨a2, ea2⟩ : ∃ z : Int32, z = xs (nI i + (2 : Int32)).toNatClampNeg := ⟨_, rfl⟩
  refine va_sld hx hb hX hbl hbA hS v2 dL_law_613 ?_
  rw [← ea2]
  refine hVi (As := [.int a1, .int a2]) (rest := []) ⟨hx, hb, hml, hown, hts⟩ (kX9_stand l D Y A hI1 H.size S a1 a2 _ (s_stand hR a1 a2)) (cwV 2 hts gL_law_X9_stand rfl rfl rfl (by decide +kernel) ⟨Nat.le_of_ble_eq_true rfl, Nat.le_of_ble_eq_true rfl⟩) hK hP hS (gF_to (z := 0) hS hA0) (aC0 Y A S) (show vwCl[9]? = some (RX9, TX9, 15) from rfl) rfl rfl hl.1 (Nat.le_of_ble_eq_true rfl) dL_law_614 ⟨Nat.le_of_ble_eq_true rfl, Nat.le_of_ble_eq_true rfl⟩ ?_
  intro r1 S2 H1 locs h hP1 hS hk
  have hP2 := gStay rfl hP2 hne hk
  have hP := hP1
  clear hP1
  generalize H1 = H at hP hP2 hS ⊢
  refine lv_aload_n hx hb dL_law_617 rfl (lv_at hl 2 rfl) ?_
  refine lv_aload_n hx hb dL_law_618 rfl (lv_at hl 0 rfl) ?_
  refine lv_iload_n hx hb dL_law_619 rfl (lv_at hl 3 rfl) ?_
  refine lv_iconst (v := (1 : Int32)) hx hb dL_law_620 (by decide) ?_
  refine lv_iadd hx hb dL_law_621 ?_
  refine va_sld hx hb hX hbl hbA hS v1 dL_law_622 ?_
  rw [← ea1]
  refine lv_aload_n hx hb dL_law_623 rfl (lv_at hl 0 rfl) ?_
  refine lv_iload_n hx hb dL_law_624 rfl (lv_at hl 3 rfl) ?_
  refine lv_iconst (v := (2 : Int32)) hx hb dL_law_625 (by decide) ?_
  refine lv_iadd hx hb dL_law_626 ?_
  refine va_sld hx hb hX hbl hbA hS v2 dL_law_627 ?_
  rw [← ea2]
  refine hVi (As := [.int a1, .int a2]) (rest := [.int r1]) ⟨hx, hb, hml, hown, hts⟩ (kX10_stand l D Y B hI2 H.size M a1 a2 _ h) (cwV 2 hts gL_law_X10_stand rfl rfl rfl (by decide +kernel) ⟨Nat.le_of_ble_eq_true rfl, Nat.le_of_ble_eq_true rfl⟩) hK hP2 hS (gF_to (z := 0) hS hB0) (aM0 Y B M) (show vwCl[10]? = some (RX10, TX10, 54) from rfl) rfl rfl hl.1 (Nat.le_of_ble_eq_true rfl) dL_law_628 ⟨Nat.le_of_ble_eq_true rfl, Nat.le_of_ble_eq_true rfl⟩ ?_
  intro r3 S4 H1 locs h hP1 hS hk
  have hP := gStay rfl hP (fun i j h1 h2 => Ne.symm (hne j i h2 h1)) hk
  have hP2 := hP1
  clear hP1
  generalize H1 = H at hP hP2 hS ⊢
  refine lv_icmp_eq (tgt := 1348) hx hb dL_law_631 (by decide) (fun _ => ?_) (fun c5 => ?_)
  · exact kk S2 S4 _ _ _ h.2 ⟨hP, hP2, hS⟩ hl
  · exact absurd h.1 c5
set_option maxHeartbeats 4000000 in
set_option maxRecDepth 100000 in
theorem law_12 {p : Program} {e : Env} {s : State} {m : MethodId} {below : List Frame} {meth : Method} {c : Code} (l : Launch) {b L : Nat} {xs : Nat → Int32} (hL : L ≤ 3072) (C0 : lw_At p s m meth c b L xs) {D : va_G} {Y : Nat → ClassId} (hK : va_K D vwCl (tY Y) s) {A B : Nat → Nat} (hAB : gAB A B s.heap.size) {i : Nat} (hi : i + 6 ≤ L) {S M : gS} (hR : RS S M) {H : Heap} {locs : List Loc} {ls : Array Slot} (hT : gTwo D Y A B s S M H locs) (hl : lv_has ls 4 [(0, .ref b), (1, .ref (A 0)), (2, .ref (B 0)), (3, .int (nI i))])
    (kk : ∀ (S M : gS) (H : Heap) (locs : List Loc) (ls : Array Slot), RS S M → gTwo D Y A B s S M H locs → lv_has ls 4 [(0, .ref b), (1, .ref (A 0)), (2, .ref (B 0)), (3, .int (nI i))] → W p l e room_1 s m #[Value.ref b] below meth c H locs 600000 7302250 (lw_Z below #[Value.ref b] s) (F0 m 1348 ls [])) : W p l e room_1 s m #[Value.ref b] below meth c H locs 600000 7302250 (lw_Z below #[Value.ref b] s) (F0 m 636 ls []) := by
  obtain ⟨hx, hb, hr, hml, hown, hts, hX, hbl, hlocks, hgv⟩ := id C0
  have hts : ∀ w ∈ wsL_law, w.before #[Value.ref b] s = true := fun w h => hts w (wsL_law_in w h)
  have hbA : ¬ (fun q : Nat => s.heap.size ≤ q) b := Nat.not_le.mpr hbl
  obtain ⟨hI1, hI2, hne, hA0, hB0⟩ := id hAB
  obtain ⟨hP, hP2, hS⟩ := hT
  refine lv_aload_n hx hb dL_law_636 rfl (lv_at hl 1 rfl) ?_
  refine lv_aload_n hx hb dL_law_637 rfl (lv_at hl 0 rfl) ?_
  refine lv_iload_n hx hb dL_law_638 rfl (lv_at hl 3 rfl) ?_
  refine lv_iconst (v := (1 : Int32)) hx hb dL_law_639 (by decide) ?_
  refine lv_iadd hx hb dL_law_640 ?_
  have n1 : nI i + (1 : Int32) = nI (i + 1) := nI_add i 1
  have v1 : vp_in (nI i + (1 : Int32)) L := by rw [n1]; exact vp_in_nI (by omega) (by omega)
  obtain ⟨a1, ea1⟩ : ∃ z : Int32, z = xs (nI i + (1 : Int32)).toNatClampNeg := ⟨_, rfl⟩
  refine va_sld hx hb hX hbl hbA hS v1 dL_law_641 ?_
  rw [← ea1]
  refine lv_aload_n hx hb dL_law_642 rfl (lv_at hl 0 rfl) ?_
  refine lv_iload_n hx hb dL_law_643 rfl (lv_at hl 3 rfl) ?_
  refine lv_iconst (v := (2 : Int32)) hx hb dL_law_644 (by decide) ?_
  refine lv_iadd hx hb dL_law_645 ?_
  have n2 : nI i + (2 : Int32) = nI (i + 2) := nI_add i 2
  have v2 : vp_in (nI i + (2 : Int32)) L := by rw [n2]; exact vp_in_nI (by omega) (by omega)
  obtain ⟨a2, ea2⟩ : ∃ z : Int32, z = xs (nI i + (2 : Int32)).toNatClampNeg := ⟨_, rfl⟩
  refine va_sld hx hb hX hbl hbA hS v2 dL_law_646 ?_
  rw [← ea2]
  refine lv_if_eq (tgt := 654) hx hb dL_law_647 (by decide) (fun c1 => ?_) (fun c1 => ?_)
  · skip
    refine lv_iconst (v := (0 : Int32)) hx hb dL_law_654 (by decide) ?_
    refine hVi (As := [.int a1, .int (0 : Int32)]) (rest := []) ⟨hx, hb, hml, hown, hts⟩ (kX9_bribe l D Y A hI1 H.size S a1 ((0 : Int32)) _ (s_bribe hR a1 ((0 : Int32)) (by first | exact Or.inl rfl | exact Or.inr rfl))) (cwV 2 hts gL_law_X9_bribe rfl rfl rfl (by decide +kernel) ⟨Nat.le_of_ble_eq_true rfl, Nat.le_of_ble_eq_true rfl⟩) hK hP hS (gF_to (z := 0) hS hA0) (aC0 Y A S) (show vwCl[9]? = some (RX9, TX9, 15) from rfl) rfl rfl hl.1 (Nat.le_of_ble_eq_true rfl) dL_law_655 ⟨Nat.le_of_ble_eq_true rfl, Nat.le_of_ble_eq_true rfl⟩ ?_
    intro r2 S3 H1 locs h hP1 hS hk
    have hP2 := gStay rfl hP2 hne hk
    have hP := hP1
    clear hP1
    generalize H1 = H at hP hP2 hS ⊢
    refine lv_aload_n hx hb dL_law_658 rfl (lv_at hl 2 rfl) ?_
    refine lv_aload_n hx hb dL_law_659 rfl (lv_at hl 0 rfl) ?_
    refine lv_iload_n hx hb dL_law_660 rfl (lv_at hl 3 rfl) ?_
    refine lv_iconst (v := (1 : Int32)) hx hb dL_law_661 (by decide) ?_
    refine lv_iadd hx hb dL_law_662 ?_
    refine va_sld hx hb hX hbl hbA hS v1 dL_law_663 ?_
    rw [← ea1]
    refine lv_aload_n hx hb dL_law_664 rfl (lv_at hl 0 rfl) ?_
    refine lv_iload_n hx hb dL_law_665 rfl (lv_at hl 3 rfl) ?_
    refine lv_iconst (v := (2 : Int32)) hx hb dL_law_666 (by decide) ?_
    refine lv_iadd hx hb dL_law_667 ?_
    refine va_sld hx hb hX hbl hbA hS v2 dL_law_668 ?_
    rw [← ea2]
    refine lv_if_eq (tgt := 676) hx hb dL_law_669 (by decide) (fun c4 => ?_) (fun c4 => ?_)
    · skip
      refine lv_iconst (v := (0 : Int32)) hx hb dL_law_676 (by decide) ?_
      refine hVi (As := [.int a1, .int (0 : Int32)]) (rest := [.int r2]) ⟨hx, hb, hml, hown, hts⟩ (kX10_bribe l D Y B hI2 H.size M a1 ((0 : Int32)) _ h) (cwV 2 hts gL_law_X10_bribe rfl rfl rfl (by decide +kernel) ⟨Nat.le_of_ble_eq_true rfl, Nat.le_of_ble_eq_true rfl⟩) hK hP2 hS (gF_to (z := 0) hS hB0) (aM0 Y B M) (show vwCl[10]? = some (RX10, TX10, 54) from rfl) rfl rfl hl.1 (Nat.le_of_ble_eq_true rfl) dL_law_677 ⟨Nat.le_of_ble_eq_true rfl, Nat.le_of_ble_eq_true rfl⟩ ?_
      intro r5 S6 H1 locs h hP1 hS hk
      have hP := gStay rfl hP (fun i j h1 h2 => Ne.symm (hne j i h2 h1)) hk
      have hP2 := hP1
      clear hP1
      generalize H1 = H at hP hP2 hS ⊢
      refine lv_icmp_eq (tgt := 1348) hx hb dL_law_680 (by decide) (fun _ => ?_) (fun c7 => ?_)
      · exact kk S3 S6 _ _ _ h.2 ⟨hP, hP2, hS⟩ hl
      · exact absurd h.1 c7
    · exact absurd c1 c4
  · skip
    refine lv_iconst (v := (1 : Int32)) hx hb dL_law_650 (by decide) ?_
    refine lv_goto (tgt := 655) hx hb dL_law_651 (by decide) ?_
    refine hVi (As := [.int a1, .int (1 : Int32)]) (rest := []) ⟨hx, hb, hml, hown, hts⟩ (kX9_bribe l D Y A hI1 H.size S a1 ((1 : Int32)) _ (s_bribe hR a1 ((1 : Int32)) (by first | exact Or.inl rfl | exact Or.inr rfl))) (cwV 2 hts gL_law_X9_bribe rfl rfl rfl (by decide +kernel) ⟨Nat.le_of_ble_eq_true rfl, Nat.le_of_ble_eq_true rfl⟩) hK hP hS (gF_to (z := 0) hS hA0) (aC0 Y A S) (show vwCl[9]? = some (RX9, TX9, 15) from rfl) rfl rfl hl.1 (Nat.le_of_ble_eq_true rfl) dL_law_655 ⟨Nat.le_of_ble_eq_true rfl, Nat.le_of_ble_eq_true rfl⟩ ?_
    intro r8 S9 H1 locs h hP1 hS hk
    have hP2 := gStay rfl hP2 hne hk
    have hP := hP1
    clear hP1
    generalize H1 = H at hP hP2 hS ⊢
    refine lv_aload_n hx hb dL_law_658 rfl (lv_at hl 2 rfl) ?_
    refine lv_aload_n hx hb dL_law_659 rfl (lv_at hl 0 rfl) ?_
    refine lv_iload_n hx hb dL_law_660 rfl (lv_at hl 3 rfl) ?_
    refine lv_iconst (v := (1 : Int32)) hx hb dL_law_661 (by decide) ?_
    refine lv_iadd hx hb dL_law_662 ?_
    refine va_sld hx hb hX hbl hbA hS v1 dL_law_663 ?_
    rw [← ea1]
    refine lv_aload_n hx hb dL_law_664 rfl (lv_at hl 0 rfl) ?_
    refine lv_iload_n hx hb dL_law_665 rfl (lv_at hl 3 rfl) ?_
    refine lv_iconst (v := (2 : Int32)) hx hb dL_law_666 (by decide) ?_
    refine lv_iadd hx hb dL_law_667 ?_
    refine va_sld hx hb hX hbl hbA hS v2 dL_law_668 ?_
    rw [← ea2]
    refine lv_if_eq (tgt := 676) hx hb dL_law_669 (by decide) (fun c10 => ?_) (fun c10 => ?_)
    · exact absurd c10 c1
    · skip
      refine lv_iconst (v := (1 : Int32)) hx hb dL_law_672 (by decide) ?_
      refine lv_goto (tgt := 677) hx hb dL_law_673 (by decide) ?_
      refine hVi (As := [.int a1, .int (1 : Int32)]) (rest := [.int r8]) ⟨hx, hb, hml, hown, hts⟩ (kX10_bribe l D Y B hI2 H.size M a1 ((1 : Int32)) _ h) (cwV 2 hts gL_law_X10_bribe rfl rfl rfl (by decide +kernel) ⟨Nat.le_of_ble_eq_true rfl, Nat.le_of_ble_eq_true rfl⟩) hK hP2 hS (gF_to (z := 0) hS hB0) (aM0 Y B M) (show vwCl[10]? = some (RX10, TX10, 54) from rfl) rfl rfl hl.1 (Nat.le_of_ble_eq_true rfl) dL_law_677 ⟨Nat.le_of_ble_eq_true rfl, Nat.le_of_ble_eq_true rfl⟩ ?_
      intro r11 S12 H1 locs h hP1 hS hk
      have hP := gStay rfl hP (fun i j h1 h2 => Ne.symm (hne j i h2 h1)) hk
      have hP2 := hP1
      clear hP1
      generalize H1 = H at hP hP2 hS ⊢
      refine lv_icmp_eq (tgt := 1348) hx hb dL_law_680 (by decide) (fun _ => ?_) (fun c13 => ?_)
      · exact kk S9 S12 _ _ _ h.2 ⟨hP, hP2, hS⟩ hl
      · exact absurd h.1 c13
set_option maxHeartbeats 4000000 in
set_option maxRecDepth 100000 in
theorem law_13 {p : Program} {e : Env} {s : State} {m : MethodId} {below : List Frame} {meth : Method} {c : Code} (l : Launch) {b L : Nat} {xs : Nat → Int32} (hL : L ≤ 3072) (C0 : lw_At p s m meth c b L xs) {D : va_G} {Y : Nat → ClassId} (hK : va_K D vwCl (tY Y) s) {A B : Nat → Nat} (hAB : gAB A B s.heap.size) {i : Nat} (hi : i + 6 ≤ L) {S M : gS} (hR : RS S M) {H : Heap} {locs : List Loc} {ls : Array Slot} (hT : gTwo D Y A B s S M H locs) (hl : lv_has ls 4 [(0, .ref b), (1, .ref (A 0)), (2, .ref (B 0)), (3, .int (nI i))])
    (kk : ∀ (S M : gS) (H : Heap) (locs : List Loc) (ls : Array Slot), RS S M → gTwo D Y A B s S M H locs → lv_has ls 4 [(0, .ref b), (1, .ref (A 0)), (2, .ref (B 0)), (3, .int (nI i))] → W p l e room_1 s m #[Value.ref b] below meth c H locs 600000 7302250 (lw_Z below #[Value.ref b] s) (F0 m 1348 ls [])) : W p l e room_1 s m #[Value.ref b] below meth c H locs 600000 7302250 (lw_Z below #[Value.ref b] s) (F0 m 685 ls []) := by
  obtain ⟨hx, hb, hr, hml, hown, hts, hX, hbl, hlocks, hgv⟩ := id C0
  have hts : ∀ w ∈ wsL_law, w.before #[Value.ref b] s = true := fun w h => hts w (wsL_law_in w h)
  have hbA : ¬ (fun q : Nat => s.heap.size ≤ q) b := Nat.not_le.mpr hbl
  obtain ⟨hI1, hI2, hne, hA0, hB0⟩ := id hAB
  obtain ⟨hP, hP2, hS⟩ := hT
  refine lv_aload_n hx hb dL_law_685 rfl (lv_at hl 1 rfl) ?_
  refine lv_aload_n hx hb dL_law_686 rfl (lv_at hl 0 rfl) ?_
  refine lv_iload_n hx hb dL_law_687 rfl (lv_at hl 3 rfl) ?_
  refine lv_iconst (v := (1 : Int32)) hx hb dL_law_688 (by decide) ?_
  refine lv_iadd hx hb dL_law_689 ?_
  have n1 : nI i + (1 : Int32) = nI (i + 1) := nI_add i 1
  have v1 : vp_in (nI i + (1 : Int32)) L := by rw [n1]; exact vp_in_nI (by omega) (by omega)
  obtain ⟨a1, ea1⟩ : ∃ z : Int32, z = xs (nI i + (1 : Int32)).toNatClampNeg := ⟨_, rfl⟩
  refine va_sld hx hb hX hbl hbA hS v1 dL_law_690 ?_
  rw [← ea1]
  refine lv_aload_n hx hb dL_law_691 rfl (lv_at hl 0 rfl) ?_
  refine lv_iload_n hx hb dL_law_692 rfl (lv_at hl 3 rfl) ?_
  refine lv_iconst (v := (2 : Int32)) hx hb dL_law_693 (by decide) ?_
  refine lv_iadd hx hb dL_law_694 ?_
  have n2 : nI i + (2 : Int32) = nI (i + 2) := nI_add i 2
  have v2 : vp_in (nI i + (2 : Int32)) L := by rw [n2]; exact vp_in_nI (by omega) (by omega)
  obtain ⟨a2, ea2⟩ : ∃ z : Int32, z = xs (nI i + (2 : Int32)).toNatClampNeg := ⟨_, rfl⟩
  refine va_sld hx hb hX hbl hbA hS v2 dL_law_695 ?_
  rw [← ea2]
  refine hVi (As := [.int a1, .int a2]) (rest := []) ⟨hx, hb, hml, hown, hts⟩ (kX9_share l D Y A hI1 H.size S a1 a2 _ (s_share hR a1 a2)) (cwV 2 hts gL_law_X9_share rfl rfl rfl (by decide +kernel) ⟨Nat.le_of_ble_eq_true rfl, Nat.le_of_ble_eq_true rfl⟩) hK hP hS (gF_to (z := 0) hS hA0) (aC0 Y A S) (show vwCl[9]? = some (RX9, TX9, 15) from rfl) rfl rfl hl.1 (Nat.le_of_ble_eq_true rfl) dL_law_696 ⟨Nat.le_of_ble_eq_true rfl, Nat.le_of_ble_eq_true rfl⟩ ?_
  intro r1 S2 H1 locs h hP1 hS hk
  have hP2 := gStay rfl hP2 hne hk
  have hP := hP1
  clear hP1
  generalize H1 = H at hP hP2 hS ⊢
  refine lv_aload_n hx hb dL_law_699 rfl (lv_at hl 2 rfl) ?_
  refine lv_aload_n hx hb dL_law_700 rfl (lv_at hl 0 rfl) ?_
  refine lv_iload_n hx hb dL_law_701 rfl (lv_at hl 3 rfl) ?_
  refine lv_iconst (v := (1 : Int32)) hx hb dL_law_702 (by decide) ?_
  refine lv_iadd hx hb dL_law_703 ?_
  refine va_sld hx hb hX hbl hbA hS v1 dL_law_704 ?_
  rw [← ea1]
  refine lv_aload_n hx hb dL_law_705 rfl (lv_at hl 0 rfl) ?_
  refine lv_iload_n hx hb dL_law_706 rfl (lv_at hl 3 rfl) ?_
  refine lv_iconst (v := (2 : Int32)) hx hb dL_law_707 (by decide) ?_
  refine lv_iadd hx hb dL_law_708 ?_
  refine va_sld hx hb hX hbl hbA hS v2 dL_law_709 ?_
  rw [← ea2]
  refine hVi (As := [.int a1, .int a2]) (rest := [.int r1]) ⟨hx, hb, hml, hown, hts⟩ (kX10_share l D Y B hI2 H.size M a1 a2 _ h) (cwV 2 hts gL_law_X10_share rfl rfl rfl (by decide +kernel) ⟨Nat.le_of_ble_eq_true rfl, Nat.le_of_ble_eq_true rfl⟩) hK hP2 hS (gF_to (z := 0) hS hB0) (aM0 Y B M) (show vwCl[10]? = some (RX10, TX10, 54) from rfl) rfl rfl hl.1 (Nat.le_of_ble_eq_true rfl) dL_law_710 ⟨Nat.le_of_ble_eq_true rfl, Nat.le_of_ble_eq_true rfl⟩ ?_
  intro r3 S4 H1 locs h hP1 hS hk
  have hP := gStay rfl hP (fun i j h1 h2 => Ne.symm (hne j i h2 h1)) hk
  have hP2 := hP1
  clear hP1
  generalize H1 = H at hP hP2 hS ⊢
  refine lv_icmp_eq (tgt := 1348) hx hb dL_law_713 (by decide) (fun _ => ?_) (fun c5 => ?_)
  · exact kk S2 S4 _ _ _ h.2 ⟨hP, hP2, hS⟩ hl
  · exact absurd h.1 c5
