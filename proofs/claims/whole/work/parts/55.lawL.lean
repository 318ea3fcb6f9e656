/-! the law's loop -/
set_option maxHeartbeats 4000000 in
set_option maxRecDepth 100000 in
theorem law_loop {p : Program} {e : Env} {s : State} {m : MethodId} {below : List Frame} {meth : Method} {c : Code} (l : Launch) {b L : Nat} {xs : Nat → Int32} (hL : L ≤ 3072) (C0 : lw_At p s m meth c b L xs) {D : va_G} {Y : Nat → ClassId} (hK : va_K D vwCl (tY Y) s) {A B : Nat → Nat} (hAB : gAB A B s.heap.size) : ∀ (n i : Nat) (S M : gS) (H : Heap) (locs : List Loc) (ls : Array Slot), i + 6 * n ≤ 3078 + 6 → L + 6 ≤ i + 6 * n + 5 → i ≤ L → RS S M → gTwo D Y A B s S M H locs → lv_has ls 4 [(0, .ref b), (1, .ref (A 0)), (2, .ref (B 0)), (3, .int (nI i))] → W p l e room_1 s m #[Value.ref b] below meth c H locs 600000 7302250 (lw_Z below #[Value.ref b] s) (F0 m 18 ls []) := by
  obtain ⟨hx, hb, hr, hml, hown, hts, hX, hbl, hlocks, hgv⟩ := id C0
  have hbA : ¬ (fun q : Nat => s.heap.size ≤ q) b := Nat.not_le.mpr hbl
  intro n
  induction n with
  | zero => intro i S M H locs ls h1 h2 h3; omega
  | succ n ih =>
  intro i S M H locs ls h1 h2 h3 hR hT hl
  obtain ⟨hP, hP2, hS⟩ := id hT
  refine lv_iload_n hx hb dL_law_18 rfl (lv_at hl 3 rfl) ?_
  refine lv_aload_n hx hb dL_law_19 rfl (lv_at hl 0 rfl) ?_
  refine va_slen hx hb hX hbl hbA hS dL_law_20 ?_
  refine lv_bipush (v := (6 : Int32)) hx hb dL_law_21 (by decide) ?_
  refine lv_isub hx hb dL_law_23 ?_
  have eL : (Int32.ofNat L).toInt = L := nI_ti (n := L) (by omega)
  have ei : (nI i).toInt = i := nI_ti (by omega)
  have l6 : (6 : Int32).toInt = 6 := by decide
  have e6 : (Int32.ofNat L - 6).toInt = L - 6 := by rw [ti_sub] <;> rw [eL, l6] <;> omega
  refine lv_icmp_gt (tgt := 1354) hx hb dL_law_24 (by decide) (fun c1 => ?_) (fun c1 => ?_)
  · refine lv_iconst (v := 1) hx hb dL_law_1354 (by decide) ?_
    refine va_forget hS.2.2 ?_
    exact lw_ret hx hb hr hlocks dL_law_1355
  have hi : i + 6 ≤ L := by
    have c1 : ¬ (Int32.ofNat L - 6).toInt < (nI i).toInt := fun q => c1 (Int32.lt_iff_toInt_lt.mpr q)
    omega
  have v0 : vp_in (nI i) L := vp_in_nI (by omega) (by omega)
  have step : ∀ (S M : gS) (H : Heap) (locs : List Loc) (ls : Array Slot), RS S M → gTwo D Y A B s S M H locs → lv_has ls 4 [(0, .ref b), (1, .ref (A 0)), (2, .ref (B 0)), (3, .int (nI i))] → W p l e room_1 s m #[Value.ref b] below meth c H locs 600000 7302250 (lw_Z below #[Value.ref b] s) (F0 m 1348 ls []) := by
    intro S M H locs ls hR hT hl
    obtain ⟨x, ex⟩ : ∃ z : Int32, z = nI i + (6 : Int32) := ⟨_, rfl⟩
    refine lv_iinc (v := x) (lv' := [(3, .int x), (0, .ref b), (1, .ref (A 0)), (2, .ref (B 0))]) hx hb dL_law_1348 hl (k := 3) rfl (by rw [ex]; rfl) (by decide) rfl (fun ls hl => ?_)
    refine lv_goto (tgt := 18) hx hb dL_law_1351 (by decide) ?_
    have e2 : x = nI (i + 6) := by rw [ex]; exact nI_add i 6
    rw [e2] at hl
    exact ih (i + 6) S M H locs ls (by omega) (by omega) (by omega) hR hT (lv_sub hl [1, 2, 3, 0] rfl)
  refine lv_aload_n hx hb dL_law_27 rfl (lv_at hl 0 rfl) ?_
  refine lv_iload_n hx hb dL_law_28 rfl (lv_at hl 3 rfl) ?_
  refine va_sld hx hb hX hbl hbA hS v0 dL_law_29 ?_
  refine lv_bipush (v := (63 : Int32)) hx hb dL_law_30 (by decide) ?_
  refine lv_iand hx hb dL_law_32 ?_
  refine lv_topi (fun op eop => ?_)
  by_cases c_0 : op = (0 : Int32)
  · refine lv_tableIn (tgt := 180) hx hb dL_law_33 (by rw [c_0]; decide) (by rw [c_0]; decide) (by rw [c_0]; rfl) (by decide) ?_
    exact law_0 l hL C0 hK hAB hi hR hT hl step
  by_cases c_1 : op = (1 : Int32)
  · refine lv_tableIn (tgt := 203) hx hb dL_law_33 (by rw [c_1]; decide) (by rw [c_1]; decide) (by rw [c_1]; rfl) (by decide) ?_
    exact law_1 l hL C0 hK hAB hi hR hT hl step
  by_cases c_2 : op = (2 : Int32)
  · refine lv_tableIn (tgt := 246) hx hb dL_law_33 (by rw [c_2]; decide) (by rw [c_2]; decide) (by rw [c_2]; rfl) (by decide) ?_
    exact law_2 l hL C0 hK hAB hi hR hT hl step
  by_cases c_3 : op = (3 : Int32)
  · refine lv_tableIn (tgt := 279) hx hb dL_law_33 (by rw [c_3]; decide) (by rw [c_3]; decide) (by rw [c_3]; rfl) (by decide) ?_
    exact law_3 l hL C0 hK hAB hi hR hT hl step
  by_cases c_4 : op = (4 : Int32)
  · refine lv_tableIn (tgt := 302) hx hb dL_law_33 (by rw [c_4]; decide) (by rw [c_4]; decide) (by rw [c_4]; rfl) (by decide) ?_
    exact law_4 l hL C0 hK hAB hi hR hT hl step
  by_cases c_5 : op = (5 : Int32)
  · refine lv_tableIn (tgt := 345) hx hb dL_law_33 (by rw [c_5]; decide) (by rw [c_5]; decide) (by rw [c_5]; rfl) (by decide) ?_
    exact law_5 l hL C0 hK hAB hi hR hT hl step
  by_cases c_6 : op = (6 : Int32)
  · refine lv_tableIn (tgt := 408) hx hb dL_law_33 (by rw [c_6]; decide) (by rw [c_6]; decide) (by rw [c_6]; rfl) (by decide) ?_
    exact law_6 l hL C0 hK hAB hi hR hT hl step
  by_cases c_7 : op = (7 : Int32)
  · refine lv_tableIn (tgt := 441) hx hb dL_law_33 (by rw [c_7]; decide) (by rw [c_7]; decide) (by rw [c_7]; rfl) (by decide) ?_
    exact law_7 l hL C0 hK hAB hi hR hT hl step
  by_cases c_8 : op = (8 : Int32)
  · refine lv_tableIn (tgt := 474) hx hb dL_law_33 (by rw [c_8]; decide) (by rw [c_8]; decide) (by rw [c_8]; rfl) (by decide) ?_
    exact law_8 l hL C0 hK hAB hi hR hT hl step
  by_cases c_9 : op = (9 : Int32)
  · refine lv_tableIn (tgt := 527) hx hb dL_law_33 (by rw [c_9]; decide) (by rw [c_9]; decide) (by rw [c_9]; rfl) (by decide) ?_
    exact law_9 l hL C0 hK hAB hi hR hT hl step
  by_cases c_10 : op = (10 : Int32)
  · refine lv_tableIn (tgt := 560) hx hb dL_law_33 (by rw [c_10]; decide) (by rw [c_10]; decide) (by rw [c_10]; rfl) (by decide) ?_
    exact law_10 l hL C0 hK hAB hi hR hT hl step
  by_cases c_11 : op = (11 : Int32)
  · refine lv_tableIn (tgt := 603) hx hb dL_law_33 (by rw [c_11]; decide) (by rw [c_11]; decide) (by rw [c_11]; rfl) (by decide) ?_
    exact law_11 l hL C0 hK hAB hi hR hT hl step
  by_cases c_12 : op = (12 : Int32)
  · refine lv_tableIn (tgt := 636) hx hb dL_law_33 (by rw [c_12]; decide) (by rw [c_12]; decide) (by rw [c_12]; rfl) (by decide) ?_
    exact law_12 l hL C0 hK hAB hi hR hT hl step
  by_cases c_13 : op = (13 : Int32)
  · refine lv_tableIn (tgt := 685) hx hb dL_law_33 (by rw [c_13]; decide) (by rw [c_13]; decide) (by rw [c_13]; rfl) (by decide) ?_
    exact law_13 l hL C0 hK hAB hi hR hT hl step
  by_cases c_14 : op = (14 : Int32)
  · refine lv_tableIn (tgt := 718) hx hb dL_law_33 (by rw [c_14]; decide) (by rw [c_14]; decide) (by rw [c_14]; rfl) (by decide) ?_
    exact law_14 l hL C0 hK hAB hi hR hT hl step
  by_cases c_15 : op = (15 : Int32)
  · refine lv_tableIn (tgt := 741) hx hb dL_law_33 (by rw [c_15]; decide) (by rw [c_15]; decide) (by rw [c_15]; rfl) (by decide) ?_
    exact law_15 l hL C0 hK hAB hi hR hT hl step
  by_cases c_16 : op = (16 : Int32)
  · refine lv_tableIn (tgt := 764) hx hb dL_law_33 (by rw [c_16]; decide) (by rw [c_16]; decide) (by rw [c_16]; rfl) (by decide) ?_
    exact law_16 l hL C0 hK hAB hi hR hT hl step
  by_cases c_17 : op = (17 : Int32)
  · refine lv_tableIn (tgt := 807) hx hb dL_law_33 (by rw [c_17]; decide) (by rw [c_17]; decide) (by rw [c_17]; rfl) (by decide) ?_
    exact law_17 l hL C0 hK hAB hi hR hT hl step
  by_cases c_18 : op = (18 : Int32)
  · refine lv_tableIn (tgt := 850) hx hb dL_law_33 (by rw [c_18]; decide) (by rw [c_18]; decide) (by rw [c_18]; rfl) (by decide) ?_
    exact law_18 l hL C0 hK hAB hi hR hT hl step
  by_cases c_19 : op = (19 : Int32)
  · refine lv_tableIn (tgt := 873) hx hb dL_law_33 (by rw [c_19]; decide) (by rw [c_19]; decide) (by rw [c_19]; rfl) (by decide) ?_
    exact law_19 l hL C0 hK hAB hi hR hT hl step
  by_cases c_20 : op = (20 : Int32)
  · refine lv_tableIn (tgt := 896) hx hb dL_law_33 (by rw [c_20]; decide) (by rw [c_20]; decide) (by rw [c_20]; rfl) (by decide) ?_
    exact law_20 l hL C0 hK hAB hi hR hT hl step
  by_cases c_21 : op = (21 : Int32)
  · refine lv_tableIn (tgt := 919) hx hb dL_law_33 (by rw [c_21]; decide) (by rw [c_21]; decide) (by rw [c_21]; rfl) (by decide) ?_
    exact law_21 l hL C0 hK hAB hi hR hT hl step
  by_cases c_22 : op = (22 : Int32)
  · refine lv_tableIn (tgt := 963) hx hb dL_law_33 (by rw [c_22]; decide) (by rw [c_22]; decide) (by rw [c_22]; rfl) (by decide) ?_
    exact law_22 l hL C0 hK hAB hi hR hT hl step
  by_cases c_23 : op = (23 : Int32)
  · refine lv_tableIn (tgt := 996) hx hb dL_law_33 (by rw [c_23]; decide) (by rw [c_23]; decide) (by rw [c_23]; rfl) (by decide) ?_
    exact law_23 l hL C0 hK hAB hi hR hT hl step
  by_cases c_24 : op = (24 : Int32)
  · refine lv_tableIn (tgt := 1040) hx hb dL_law_33 (by rw [c_24]; decide) (by rw [c_24]; decide) (by rw [c_24]; rfl) (by decide) ?_
    exact law_24 l hL C0 hK hAB hi hR hT hl step
  by_cases c_25 : op = (25 : Int32)
  · refine lv_tableIn (tgt := 1094) hx hb dL_law_33 (by rw [c_25]; decide) (by rw [c_25]; decide) (by rw [c_25]; rfl) (by decide) ?_
    exact law_25 l hL C0 hK hAB hi hR hT hl step
  by_cases c_26 : op = (26 : Int32)
  · refine lv_tableIn (tgt := 1147) hx hb dL_law_33 (by rw [c_26]; decide) (by rw [c_26]; decide) (by rw [c_26]; rfl) (by decide) ?_
    exact law_26 l hL C0 hK hAB hi hR hT hl step
  by_cases c_27 : op = (27 : Int32)
  · refine lv_tableIn (tgt := 1180) hx hb dL_law_33 (by rw [c_27]; decide) (by rw [c_27]; decide) (by rw [c_27]; rfl) (by decide) ?_
    exact law_27 l hL C0 hK hAB hi hR hT hl step
  by_cases c_28 : op = (28 : Int32)
  · refine lv_tableIn (tgt := 1213) hx hb dL_law_33 (by rw [c_28]; decide) (by rw [c_28]; decide) (by rw [c_28]; rfl) (by decide) ?_
    exact law_28 l hL C0 hK hAB hi hR hT hl step
  by_cases c_29 : op = (29 : Int32)
  · refine lv_tableIn (tgt := 1246) hx hb dL_law_33 (by rw [c_29]; decide) (by rw [c_29]; decide) (by rw [c_29]; rfl) (by decide) ?_
    exact law_29 l hL C0 hK hAB hi hR hT hl step
  by_cases c_30 : op = (30 : Int32)
  · refine lv_tableIn (tgt := 1279) hx hb dL_law_33 (by rw [c_30]; decide) (by rw [c_30]; decide) (by rw [c_30]; rfl) (by decide) ?_
    exact law_30 l hL C0 hK hAB hi hR hT hl step
  by_cases c_31 : op = (31 : Int32)
  · refine lv_tableIn (tgt := 1302) hx hb dL_law_33 (by rw [c_31]; decide) (by rw [c_31]; decide) (by rw [c_31]; rfl) (by decide) ?_
    exact law_31 l hL C0 hK hAB hi hR hT hl step
  by_cases c_32 : op = (32 : Int32)
  · refine lv_tableIn (tgt := 1325) hx hb dL_law_33 (by rw [c_32]; decide) (by rw [c_32]; decide) (by rw [c_32]; rfl) (by decide) ?_
    exact law_32 l hL C0 hK hAB hi hR hT hl step
  refine lv_tableOut (tgt := 1348) hx hb dL_law_33 (by
    have := ne_toInt (z := 0) c_0 (by decide)
    have := ne_toInt (z := 1) c_1 (by decide)
    have := ne_toInt (z := 2) c_2 (by decide)
    have := ne_toInt (z := 3) c_3 (by decide)
    have := ne_toInt (z := 4) c_4 (by decide)
    have := ne_toInt (z := 5) c_5 (by decide)
    have := ne_toInt (z := 6) c_6 (by decide)
    have := ne_toInt (z := 7) c_7 (by decide)
    have := ne_toInt (z := 8) c_8 (by decide)
    have := ne_toInt (z := 9) c_9 (by decide)
    have := ne_toInt (z := 10) c_10 (by decide)
    have := ne_toInt (z := 11) c_11 (by decide)
    have := ne_toInt (z := 12) c_12 (by decide)
    have := ne_toInt (z := 13) c_13 (by decide)
    have := ne_toInt (z := 14) c_14 (by decide)
    have := ne_toInt (z := 15) c_15 (by decide)
    have := ne_toInt (z := 16) c_16 (by decide)
    have := ne_toInt (z := 17) c_17 (by decide)
    have := ne_toInt (z := 18) c_18 (by decide)
    have := ne_toInt (z := 19) c_19 (by decide)
    have := ne_toInt (z := 20) c_20 (by decide)
    have := ne_toInt (z := 21) c_21 (by decide)
    have := ne_toInt (z := 22) c_22 (by decide)
    have := ne_toInt (z := 23) c_23 (by decide)
    have := ne_toInt (z := 24) c_24 (by decide)
    have := ne_toInt (z := 25) c_25 (by decide)
    have := ne_toInt (z := 26) c_26 (by decide)
    have := ne_toInt (z := 27) c_27 (by decide)
    have := ne_toInt (z := 28) c_28 (by decide)
    have := ne_toInt (z := 29) c_29 (by decide)
    have := ne_toInt (z := 30) c_30 (by decide)
    have := ne_toInt (z := 31) c_31 (by decide)
    have := ne_toInt (z := 32) c_32 (by decide)
    omega) (by decide) ?_
  exact step S M H locs ls hR hT hl
