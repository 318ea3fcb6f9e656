def qX10_in (S : gS) (a0 : Int32) (a1 : Int32) (a2 : Int32) (Q : Int32 → gS → Prop) : Prop :=
  (a0 < a1 → (Q (0 : Int32) S)) ∧ (¬ a0 < a1 → ((a2 < a0 → (Q (0 : Int32) S)) ∧ (¬ a2 < a0 → (Q (1 : Int32) S))))
abbrev rmX10_in : Room := { frames := 0, cells := 0, slots := 0, locals := 0 }
set_option maxHeartbeats 4000000 in
set_option maxRecDepth 100000 in
theorem kX10_in (l : Launch) (D : va_G) (Y : Nat → ClassId) (A : Nat → Nat) (hI : iM A) (sz : Nat) (S : gS) (a0 : Int32) (a1 : Int32) (a2 : Int32) (Q : Int32 → gS → Prop) (h : qX10_in S a0 a1 a2 Q) : Met l yX10_in wsX10_in rmX10_in (gPc [.int a0, .int a1, .int a2] sz D vwCl (tY Y) (wM Y A S)) (va_Qi Q (fun S' t => gH D vwCl (tY Y) (wM Y A S') t) (gF A 44 sz)) 0 0 (gF A 44 sz) := by
  refine gMet_z (cc := cX10_in) (maxL := 3) (by decide +kernel) rfl (Nat.le_of_ble_eq_true rfl) (fun p e s m args below meth c Z H locs hx hb hml hts hown hK hP hS hret ls hl => ?_)
  have hown : s.vm.findClass RX10 = some m.cls := hown
  have hl : lv_has ls 3 [(0, .int a0), (1, .int a1), (2, .int a2)] := hl
  have hD : ∀ S0 : gS, va_D (gF A 44 s.heap.size) (wM Y A S0) := fun S0 => dM hI S0 (fun k hk => gF_in hk)
  refine lv_iload_n hx hb dX10_in_0 rfl (lv_at hl 0 rfl) ?_
  refine lv_iload_n hx hb dX10_in_1 rfl (lv_at hl 1 rfl) ?_
  refine lv_icmp_lt (tgt := 14) hx hb dX10_in_2 (by decide) (fun c1 => ?_) (fun c1 => ?_)
  · have h := h.1 c1
    refine lv_iconst (v := (0 : Int32)) hx hb dX10_in_14 (by decide) ?_
    exact hret _ _ _ _ _ _ dX10_in_15 rfl h hP hS
  · have h := h.2 c1
    refine lv_iload_n hx hb dX10_in_5 rfl (lv_at hl 0 rfl) ?_
    refine lv_iload_n hx hb dX10_in_6 rfl (lv_at hl 2 rfl) ?_
    refine lv_icmp_gt (tgt := 14) hx hb dX10_in_7 (by decide) (fun c2 => ?_) (fun c2 => ?_)
    · have h := h.1 c2
      refine lv_iconst (v := (0 : Int32)) hx hb dX10_in_14 (by decide) ?_
      exact hret _ _ _ _ _ _ dX10_in_15 rfl h hP hS
    · have h := h.2 c2
      refine lv_iconst (v := (1 : Int32)) hx hb dX10_in_10 (by decide) ?_
      refine lv_goto (tgt := 15) hx hb dX10_in_11 (by decide) ?_
      exact hret _ _ _ _ _ _ dX10_in_15 rfl h hP hS

def qX10_refuse (S : gS) (a1 : Int32) (Q : Int32 → gS → Prop) : Prop :=
  vp_in (-a1) 8 ∧ (∀ S2 : gS, S2 = sA S 40 (upd (ga S 40) (-a1).toNatClampNeg ((ga S 40 (-a1).toNatClampNeg) + (1 : Int32))) → (Q a1 S2))
abbrev rmX10_refuse : Room := { frames := 0, cells := 0, slots := 0, locals := 0 }
set_option maxHeartbeats 4000000 in
set_option maxRecDepth 100000 in
theorem kX10_refuse (l : Launch) (D : va_G) (Y : Nat → ClassId) (A : Nat → Nat) (hI : iM A) (sz : Nat) (S : gS) (a1 : Int32) (Q : Int32 → gS → Prop) (h : qX10_refuse S a1 Q) : Met l yX10_refuse wsX10_refuse rmX10_refuse (gPc [.ref (A 0), .int a1] sz D vwCl (tY Y) (wM Y A S)) (va_Qi Q (fun S' t => gH D vwCl (tY Y) (wM Y A S') t) (gF A 44 sz)) 0 0 (gF A 44 sz) := by
  refine gMet_i (cc := cX10_refuse) (maxL := 2) (by decide +kernel) rfl (Nat.le_of_ble_eq_true rfl) (fun p e s m args below meth c Z H locs hx hb hml hts hown hK hP hS hret ls hl => ?_)
  have hown : s.vm.findClass RX10 = some m.cls := hown
  have hl : lv_has ls 2 [(0, .ref (A 0)), (1, .int a1)] := hl
  have hD : ∀ S0 : gS, va_D (gF A 44 s.heap.size) (wM Y A S0) := fun S0 => dM hI S0 (fun k hk => gF_in hk)
  have k0 : ∀ w ∈ u_ws RX10 TX10 54, w ∈ wsX10_refuse := by decide +kernel
  have k1 := hts (.fieldLink RX10 135 "CoastWatchModel" "refused" "[I") (by decide +kernel)
  refine lv_aload_n hx hb dX10_refuse_0 rfl (lv_at hl 0 rfl) ?_
  refine va_get (ci := 10) (v := .ref (A 41)) (C := RX10) (T := TX10) (N := 54) hx hb hts k0 hown hK hP 0 (aM0 Y A S) rfl 49 (by decide) k1 (fun _ h9 => h9) rfl dX10_refuse_1 ?_
  refine lv_iload_n hx hb dX10_refuse_4 rfl (lv_at hl 1 rfl) ?_
  refine lv_ineg hx hb dX10_refuse_5 ?_
  refine lv_dup2_11 hx hb dX10_refuse_6 rfl rfl ?_
  have v_1 := h.1
  have h := h.2
  refine va_iald hx hb hK hP 41 0 (aM41 Y A S) rfl v_1 dX10_refuse_7 ?_
  refine lv_iconst (v := (1 : Int32)) hx hb dX10_refuse_8 (by decide) ?_
  refine lv_iadd hx hb dX10_refuse_9 ?_
  obtain ⟨S2, eS2⟩ : ∃ z : gS, z = sA S 40 (upd (ga S 40) (-a1).toNatClampNeg ((ga S 40 (-a1).toNatClampNeg) + (1 : Int32))) := ⟨_, rfl⟩
  refine va_iast hx hb hK hP (hD S) hS 41 0 (aM41 Y A S) rfl v_1 dX10_refuse_10 (fun H locs hP _ hS => ?_)
  have hP := uM41 eS2 hP
  have h := h S2 eS2
  refine lv_iload_n hx hb dX10_refuse_11 rfl (lv_at hl 1 rfl) ?_
  exact hret _ _ _ _ _ _ dX10_refuse_12 h hP hS

def qX10_isCove (S : gS) (a0 : Int32) (Q : Int32 → gS → Prop) : Prop :=
  qX10_in S a0 (0 : Int32) (5 : Int32) (fun r2 S1 => narrow .boolean (.int r2) = .int r2 ∧ Q r2 S1)
abbrev rmX10_isCove : Room := { frames := 1, cells := 0, slots := 0, locals := 22 }
set_option maxHeartbeats 4000000 in
set_option maxRecDepth 100000 in
theorem kX10_isCove (l : Launch) (D : va_G) (Y : Nat → ClassId) (A : Nat → Nat) (hI : iM A) (sz : Nat) (S : gS) (a0 : Int32) (Q : Int32 → gS → Prop) (h : qX10_isCove S a0 Q) : Met l yX10_isCove wsX10_isCove rmX10_isCove (gPc [.int a0] sz D vwCl (tY Y) (wM Y A S)) (va_Qi Q (fun S' t => gH D vwCl (tY Y) (wM Y A S') t) (gF A 44 sz)) 0 0 (gF A 44 sz) := by
  refine gMet_z (cc := cX10_isCove) (maxL := 1) (by decide +kernel) rfl (Nat.le_of_ble_eq_true rfl) (fun p e s m args below meth c Z H locs hx hb hml hts hown hK hP hS hret ls hl => ?_)
  have hown : s.vm.findClass RX10 = some m.cls := hown
  have hl : lv_has ls 1 [(0, .int a0)] := hl
  have hD : ∀ S0 : gS, va_D (gF A 44 s.heap.size) (wM Y A S0) := fun S0 => dM hI S0 (fun k hk => gF_in hk)
  refine lv_iload_n hx hb dX10_isCove_0 rfl (lv_at hl 0 rfl) ?_
  refine lv_iconst (v := (0 : Int32)) hx hb dX10_isCove_1 (by decide) ?_
  refine lv_iconst (v := (5 : Int32)) hx hb dX10_isCove_2 (by decide) ?_
  refine gSi (As := [.int a0, .int (0 : Int32), .int (5 : Int32)]) (rest := []) ⟨hx, hb, hml, hown, hts⟩ (kX10_in l D Y A hI H.size S a0 (0 : Int32) (5 : Int32) _ h) (va_cwS 3 hts gX10_isCove_X10_in rfl rfl rfl (by decide +kernel) ⟨Nat.le_of_ble_eq_true rfl, Nat.le_of_ble_eq_true rfl⟩) hK hP hS (gF_le hS.1) rfl rfl hl.1 (Nat.le_of_ble_eq_true rfl) dX10_isCove_3 ⟨Nat.zero_le _, Nat.zero_le _⟩ ?_
  intro r2 S1 H locs h hP hS
  exact hret _ _ _ _ _ _ dX10_isCove_6 h.1 h.2 hP hS

def qX10_seed (S : gS) (a1 : Int32) (Q : Int32 → gS → Prop) : Prop :=
  ∀ x1 : Int32, x1 = (gi S 0) → (∀ S2 : gS, S2 = sI S 0 a1 → (Q x1 S2))
abbrev rmX10_seed : Room := { frames := 0, cells := 0, slots := 0, locals := 0 }
set_option maxHeartbeats 4000000 in
set_option maxRecDepth 100000 in
theorem kX10_seed (l : Launch) (D : va_G) (Y : Nat → ClassId) (A : Nat → Nat) (hI : iM A) (sz : Nat) (S : gS) (a1 : Int32) (Q : Int32 → gS → Prop) (h : qX10_seed S a1 Q) : Met l yX10_seed wsX10_seed rmX10_seed (gPc [.ref (A 0), .int a1] sz D vwCl (tY Y) (wM Y A S)) (va_Qi Q (fun S' t => gH D vwCl (tY Y) (wM Y A S') t) (gF A 44 sz)) 0 0 (gF A 44 sz) := by
  refine gMet_i (cc := cX10_seed) (maxL := 3) (by decide +kernel) rfl (Nat.le_of_ble_eq_true rfl) (fun p e s m args below meth c Z H locs hx hb hml hts hown hK hP hS hret ls hl => ?_)
  have hown : s.vm.findClass RX10 = some m.cls := hown
  have hl : lv_has ls 3 [(0, .ref (A 0)), (1, .int a1)] := hl
  have hD : ∀ S0 : gS, va_D (gF A 44 s.heap.size) (wM Y A S0) := fun S0 => dM hI S0 (fun k hk => gF_in hk)
  have k0 : ∀ w ∈ u_ws RX10 TX10 54, w ∈ wsX10_seed := by decide +kernel
  have k1 := hts (.fieldLink RX10 7 "CoastWatchModel" "seed" "I") (by decide +kernel)
  refine lv_aload_n hx hb dX10_seed_0 rfl (lv_at hl 0 rfl) ?_
  refine va_get (ci := 10) (v := .int (gi S 0)) (C := RX10) (T := TX10) (N := 54) hx hb hts k0 hown hK hP 0 (aM0 Y A S) rfl 0 (by decide) k1 (fun _ h9 => h9) rfl dX10_seed_1 ?_
  refine lv_topi (fun x1 ex1 => ?_)
  have h := h x1 ex1
  refine lv_istore_n (lv' := [(2, .int x1), (0, .ref (A 0)), (1, .int a1)]) hx hb dX10_seed_4 rfl hl (by decide) rfl (fun ls hl => ?_)
  refine lv_aload_n hx hb dX10_seed_5 rfl (lv_at hl 1 rfl) ?_
  refine lv_iload_n hx hb dX10_seed_6 rfl (lv_at hl 2 rfl) ?_
  obtain ⟨S2, eS2⟩ : ∃ z : gS, z = sI S 0 a1 := ⟨_, rfl⟩
  have h := h S2 eS2
  refine va_put (ci := 10) (v := .int a1) (ty := .int) (C := RX10) (T := TX10) (N := 54) hx hb hts k0 tyX10 tyX10_ok nmX10 hown hK hP (hD S) hS 0 (aM0 Y A S) rfl 0 (by decide) k1 (fun _ h9 => h9) rfl rfl rfl rfl (by simp) dX10_seed_7 (fun H locs hP _ hS => ?_)
  have hP := pM0_0 eS2 hP
  refine lv_iload_n hx hb dX10_seed_10 rfl (lv_at hl 0 rfl) ?_
  exact hret _ _ _ _ _ _ dX10_seed_11 h hP hS

def qX10_cove (S : gS) (a1 : Int32) (a2 : Int32) (a3 : Int32) (Q : Int32 → gS → Prop) : Prop :=
  qX10_isCove S a1 (fun r2 S1 => (r2 = 0 → (qX10_refuse S1 (-1 : Int32) (fun r20 S19 => Q r20 S19))) ∧ (¬ r2 = 0 → ((a2 < 0 → (qX10_refuse S1 (-4 : Int32) (fun r6 S5 => Q r6 S5))) ∧ (¬ a2 < 0 → (((1 : Int32) ≤ a3 → (((9 : Int32) < a2 → (qX10_refuse S1 (-6 : Int32) (fun r10 S9 => Q r10 S9))) ∧ (¬ (9 : Int32) < a2 → ((a3 ≤ (99 : Int32) → (vp_in a1 6 ∧ (∀ S12 : gS, S12 = sA S1 0 (upd (ga S1 0) a1.toNatClampNeg a2) → (∀ S14 : gS, S14 = sA S12 1 (upd (ga S12 1) a1.toNatClampNeg a3) → (Q (1 : Int32) S14))))) ∧ (¬ a3 ≤ (99 : Int32) → (qX10_refuse S1 (-6 : Int32) (fun r16 S15 => Q r16 S15))))))) ∧ (¬ (1 : Int32) ≤ a3 → (qX10_refuse S1 (-4 : Int32) (fun r18 S17 => Q r18 S17))))))))
abbrev rmX10_cove : Room := { frames := 2, cells := 0, slots := 0, locals := 42 }
set_option maxHeartbeats 4000000 in
set_option maxRecDepth 100000 in
theorem kX10_cove (l : Launch) (D : va_G) (Y : Nat → ClassId) (A : Nat → Nat) (hI : iM A) (sz : Nat) (S : gS) (a1 : Int32) (a2 : Int32) (a3 : Int32) (Q : Int32 → gS → Prop) (h : qX10_cove S a1 a2 a3 Q) : Met l yX10_cove wsX10_cove rmX10_cove (gPc [.ref (A 0), .int a1, .int a2, .int a3] sz D vwCl (tY Y) (wM Y A S)) (va_Qi Q (fun S' t => gH D vwCl (tY Y) (wM Y A S') t) (gF A 44 sz)) 0 0 (gF A 44 sz) := by
  refine gMet_i (cc := cX10_cove) (maxL := 4) (by decide +kernel) rfl (Nat.le_of_ble_eq_true rfl) (fun p e s m args below meth c Z H locs hx hb hml hts hown hK hP hS hret ls hl => ?_)
  have hown : s.vm.findClass RX10 = some m.cls := hown
  have hl : lv_has ls 4 [(0, .ref (A 0)), (1, .int a1), (2, .int a2), (3, .int a3)] := hl
  have hD : ∀ S0 : gS, va_D (gF A 44 s.heap.size) (wM Y A S0) := fun S0 => dM hI S0 (fun k hk => gF_in hk)
  have k0 : ∀ w ∈ u_ws RX10 TX10 54, w ∈ wsX10_cove := by decide +kernel
  have k1 := hts (.fieldLink RX10 13 "CoastWatchModel" "depth" "[I") (by decide +kernel)
  have k2 := hts (.fieldLink RX10 17 "CoastWatchModel" "worth" "[I") (by decide +kernel)
  refine lv_iload_n hx hb dX10_cove_0 rfl (lv_at hl 1 rfl) ?_
  refine gSi (As := [.int a1]) (rest := []) ⟨hx, hb, hml, hown, hts⟩ (kX10_isCove l D Y A hI H.size S a1 _ h) (va_cwS 1 hts gX10_cove_X10_isCove rfl rfl rfl (by decide +kernel) ⟨Nat.le_of_ble_eq_true rfl, Nat.le_of_ble_eq_true rfl⟩) hK hP hS (gF_le hS.1) rfl rfl hl.1 (Nat.le_of_ble_eq_true rfl) dX10_cove_1 ⟨Nat.zero_le _, Nat.zero_le _⟩ ?_
  intro r2 S1 H locs h hP hS
  refine lv_if_ne (tgt := 13) hx hb dX10_cove_4 (by decide) (fun c3 => ?_) (fun c3 => ?_)
  · have h := h.2 c3
    refine lv_iload_n hx hb dX10_cove_13 rfl (lv_at hl 2 rfl) ?_
    refine lv_if_lt (tgt := 22) hx hb dX10_cove_14 (by decide) (fun c4 => ?_) (fun c4 => ?_)
    · have h := h.1 c4
      refine lv_aload_n hx hb dX10_cove_22 rfl (lv_at hl 0 rfl) ?_
      refine lv_bipush (v := (-4 : Int32)) hx hb dX10_cove_23 (by decide) ?_
      refine gVi (As := [.int (-4 : Int32)]) (rest := []) ⟨hx, hb, hml, hown, hts⟩ (kX10_refuse l D Y A hI H.size S1 (-4 : Int32) _ h) (cwV 1 hts gX10_cove_X10_refuse rfl rfl rfl (by decide +kernel) ⟨Nat.le_of_ble_eq_true rfl, Nat.le_of_ble_eq_true rfl⟩) hK hP hS (gF_le hS.1) (aM0 Y A S1) (show vwCl[10]? = some (RX10, TX10, 54) from rfl) rfl rfl hl.1 (Nat.le_of_ble_eq_true rfl) dX10_cove_25 ⟨Nat.zero_le _, Nat.zero_le _⟩ ?_
      intro r6 S5 H locs h hP hS
      exact hret _ _ _ _ _ _ dX10_cove_28 h hP hS
    · have h := h.2 c4
      refine lv_iload_n hx hb dX10_cove_17 rfl (lv_at hl 3 rfl) ?_
      refine lv_iconst (v := (1 : Int32)) hx hb dX10_cove_18 (by decide) ?_
      refine lv_icmp_ge (tgt := 29) hx hb dX10_cove_19 (by decide) (fun c7 => ?_) (fun c7 => ?_)
      · have h := h.1 c7
        refine lv_iload_n hx hb dX10_cove_29 rfl (lv_at hl 2 rfl) ?_
        refine lv_bipush (v := (9 : Int32)) hx hb dX10_cove_30 (by decide) ?_
        refine lv_icmp_gt (tgt := 41) hx hb dX10_cove_32 (by decide) (fun c8 => ?_) (fun c8 => ?_)
        · have h := h.1 c8
          refine lv_aload_n hx hb dX10_cove_41 rfl (lv_at hl 0 rfl) ?_
          refine lv_bipush (v := (-6 : Int32)) hx hb dX10_cove_42 (by decide) ?_
          refine gVi (As := [.int (-6 : Int32)]) (rest := []) ⟨hx, hb, hml, hown, hts⟩ (kX10_refuse l D Y A hI H.size S1 (-6 : Int32) _ h) (cwV 1 hts gX10_cove_X10_refuse rfl rfl rfl (by decide +kernel) ⟨Nat.le_of_ble_eq_true rfl, Nat.le_of_ble_eq_true rfl⟩) hK hP hS (gF_le hS.1) (aM0 Y A S1) (show vwCl[10]? = some (RX10, TX10, 54) from rfl) rfl rfl hl.1 (Nat.le_of_ble_eq_true rfl) dX10_cove_44 ⟨Nat.zero_le _, Nat.zero_le _⟩ ?_
          intro r10 S9 H locs h hP hS
          exact hret _ _ _ _ _ _ dX10_cove_47 h hP hS
        · have h := h.2 c8
          refine lv_iload_n hx hb dX10_cove_35 rfl (lv_at hl 3 rfl) ?_
          refine lv_bipush (v := (99 : Int32)) hx hb dX10_cove_36 (by decide) ?_
          refine lv_icmp_le (tgt := 48) hx hb dX10_cove_38 (by decide) (fun c11 => ?_) (fun c11 => ?_)
          · have h := h.1 c11
            refine lv_aload_n hx hb dX10_cove_48 rfl (lv_at hl 0 rfl) ?_
            refine va_get (ci := 10) (v := .ref (A 1)) (C := RX10) (T := TX10) (N := 54) hx hb hts k0 hown hK hP 0 (aM0 Y A S1) rfl 2 (by decide) k1 (fun _ h9 => h9) rfl dX10_cove_49 ?_
            refine lv_iload_n hx hb dX10_cove_52 rfl (lv_at hl 1 rfl) ?_
            refine lv_iload_n hx hb dX10_cove_53 rfl (lv_at hl 2 rfl) ?_
            have v_13 := h.1
            have h := h.2
            obtain ⟨S12, eS12⟩ : ∃ z : gS, z = sA S1 0 (upd (ga S1 0) a1.toNatClampNeg a2) := ⟨_, rfl⟩
            refine va_iast hx hb hK hP (hD S1) hS 1 0 (aM1 Y A S1) rfl v_13 dX10_cove_54 (fun H locs hP _ hS => ?_)
            have hP := uM1 eS12 hP
            have h := h S12 eS12
            refine lv_aload_n hx hb dX10_cove_55 rfl (lv_at hl 0 rfl) ?_
            refine va_get (ci := 10) (v := .ref (A 2)) (C := RX10) (T := TX10) (N := 54) hx hb hts k0 hown hK hP 0 (aM0 Y A S12) rfl 3 (by decide) k2 (fun _ h9 => h9) rfl dX10_cove_56 ?_
            refine lv_iload_n hx hb dX10_cove_59 rfl (lv_at hl 1 rfl) ?_
            refine lv_iload_n hx hb dX10_cove_60 rfl (lv_at hl 3 rfl) ?_
            obtain ⟨S14, eS14⟩ : ∃ z : gS, z = sA S12 1 (upd (ga S12 1) a1.toNatClampNeg a3) := ⟨_, rfl⟩
            refine va_iast hx hb hK hP (hD S12) hS 2 0 (aM2 Y A S12) rfl v_13 dX10_cove_61 (fun H locs hP _ hS => ?_)
            have hP := uM2 eS14 hP
            have h := h S14 eS14
            refine lv_iconst (v := (1 : Int32)) hx hb dX10_cove_62 (by decide) ?_
            exact hret _ _ _ _ _ _ dX10_cove_63 h hP hS
          · have h := h.2 c11
            refine lv_aload_n hx hb dX10_cove_41 rfl (lv_at hl 0 rfl) ?_
            refine lv_bipush (v := (-6 : Int32)) hx hb dX10_cove_42 (by decide) ?_
            refine gVi (As := [.int (-6 : Int32)]) (rest := []) ⟨hx, hb, hml, hown, hts⟩ (kX10_refuse l D Y A hI H.size S1 (-6 : Int32) _ h) (cwV 1 hts gX10_cove_X10_refuse rfl rfl rfl (by decide +kernel) ⟨Nat.le_of_ble_eq_true rfl, Nat.le_of_ble_eq_true rfl⟩) hK hP hS (gF_le hS.1) (aM0 Y A S1) (show vwCl[10]? = some (RX10, TX10, 54) from rfl) rfl rfl hl.1 (Nat.le_of_ble_eq_true rfl) dX10_cove_44 ⟨Nat.zero_le _, Nat.zero_le _⟩ ?_
            intro r16 S15 H locs h hP hS
            exact hret _ _ _ _ _ _ dX10_cove_47 h hP hS
      · have h := h.2 c7
        refine lv_aload_n hx hb dX10_cove_22 rfl (lv_at hl 0 rfl) ?_
        refine lv_bipush (v := (-4 : Int32)) hx hb dX10_cove_23 (by decide) ?_
        refine gVi (As := [.int (-4 : Int32)]) (rest := []) ⟨hx, hb, hml, hown, hts⟩ (kX10_refuse l D Y A hI H.size S1 (-4 : Int32) _ h) (cwV 1 hts gX10_cove_X10_refuse rfl rfl rfl (by decide +kernel) ⟨Nat.le_of_ble_eq_true rfl, Nat.le_of_ble_eq_true rfl⟩) hK hP hS (gF_le hS.1) (aM0 Y A S1) (show vwCl[10]? = some (RX10, TX10, 54) from rfl) rfl rfl hl.1 (Nat.le_of_ble_eq_true rfl) dX10_cove_25 ⟨Nat.zero_le _, Nat.zero_le _⟩ ?_
        intro r18 S17 H locs h hP hS
        exact hret _ _ _ _ _ _ dX10_cove_28 h hP hS
  · have h := h.1 c3
    refine lv_aload_n hx hb dX10_cove_7 rfl (lv_at hl 0 rfl) ?_
    refine lv_iconst (v := (-1 : Int32)) hx hb dX10_cove_8 (by decide) ?_
    refine gVi (As := [.int (-1 : Int32)]) (rest := []) ⟨hx, hb, hml, hown, hts⟩ (kX10_refuse l D Y A hI H.size S1 (-1 : Int32) _ h) (cwV 1 hts gX10_cove_X10_refuse rfl rfl rfl (by decide +kernel) ⟨Nat.le_of_ble_eq_true rfl, Nat.le_of_ble_eq_true rfl⟩) hK hP hS (gF_le hS.1) (aM0 Y A S1) (show vwCl[10]? = some (RX10, TX10, 54) from rfl) rfl rfl hl.1 (Nat.le_of_ble_eq_true rfl) dX10_cove_9 ⟨Nat.zero_le _, Nat.zero_le _⟩ ?_
    intro r20 S19 H locs h hP hS
    exact hret _ _ _ _ _ _ dX10_cove_12 h hP hS

def qX10_row_L48 (a1 : Int32) (a2 : Int32) (Q : Int32 → gS → Prop) (K48 : Int32 × gS → Prop) : Int32 × gS → Prop := fun ⟨v3, S⟩ =>
  (a2 ≤ v3 → (Q a2 S)) ∧ (¬ a2 ≤ v3 → (vp_in (((30 : Int32) * a1) + v3) 120 ∧ (∀ S2 : gS, S2 = sA S 3 (upd (ga S 3) (((30 : Int32) * a1) + v3).toNatClampNeg (0 : Int32)) → (∀ x4 : Int32, x4 = v3 + (1 : Int32) → (K48 (x4, S2))))))
def qX10_row (S : gS) (a1 : Int32) (a2 : Int32) (Q : Int32 → gS → Prop) : Prop :=
  qX10_in S a1 (0 : Int32) (3 : Int32) (fun r6 S5 => (r6 = 0 → (qX10_refuse S5 (-1 : Int32) (fun r17 S16 => Q r17 S16))) ∧ (¬ r6 = 0 → ((0 ≤ a2 → ((a2 ≤ (30 : Int32) → (vp_in a1 4 ∧ (∀ S10 : gS, S10 = sA S5 2 (upd (ga S5 2) a1.toNatClampNeg a2) → (lp (qX10_row_L48 a1 a2 Q) ((0 : Int32), S10))))) ∧ (¬ a2 ≤ (30 : Int32) → (qX10_refuse S5 (-6 : Int32) (fun r13 S12 => Q r13 S12))))) ∧ (¬ 0 ≤ a2 → (qX10_refuse S5 (-4 : Int32) (fun r15 S14 => Q r15 S14))))))
abbrev rmX10_row : Room := { frames := 1, cells := 0, slots := 0, locals := 22 }
set_option maxHeartbeats 4000000 in
set_option maxRecDepth 100000 in
theorem kX10_row (l : Launch) (D : va_G) (Y : Nat → ClassId) (A : Nat → Nat) (hI : iM A) (sz : Nat) (S : gS) (a1 : Int32) (a2 : Int32) (Q : Int32 → gS → Prop) (h : qX10_row S a1 a2 Q) : Met l yX10_row wsX10_row rmX10_row (gPc [.ref (A 0), .int a1, .int a2] sz D vwCl (tY Y) (wM Y A S)) (va_Qi Q (fun S' t => gH D vwCl (tY Y) (wM Y A S') t) (gF A 44 sz)) 0 0 (gF A 44 sz) := by
  refine gMet_i (cc := cX10_row) (maxL := 4) (by decide +kernel) rfl (Nat.le_of_ble_eq_true rfl) (fun p e s m args below meth c Z H locs hx hb hml hts hown hK hP hS hret ls hl => ?_)
  have hown : s.vm.findClass RX10 = some m.cls := hown
  have hl : lv_has ls 4 [(0, .ref (A 0)), (1, .int a1), (2, .int a2)] := hl
  have hD : ∀ S0 : gS, va_D (gF A 44 s.heap.size) (wM Y A S0) := fun S0 => dM hI S0 (fun k hk => gF_in hk)
  have k0 : ∀ w ∈ u_ws RX10 TX10 54, w ∈ wsX10_row := by decide +kernel
  have k1 := hts (.fieldLink RX10 23 "CoastWatchModel" "row" "[I") (by decide +kernel)
  have k2 := hts (.fieldLink RX10 20 "CoastWatchModel" "rowSize" "[I") (by decide +kernel)
  have tL48 : ∀ (v3 : Int32) (S : gS), lp (qX10_row_L48 a1 a2 Q) (v3, S) → ∀ (H : Heap) (locs : List Loc) (ls : Array Slot), va_P D vwCl (wM Y A S) H → va_S (gF A 44 s.heap.size) s.heap H locs → lv_has ls 4 [(0, .ref (A 0)), (1, .int a1), (2, .int a2), (3, .int v3)] → W p l e rmX10_row s m args below meth c H locs 0 0 Z (F0 m 48 ls []) := by
    intro  v3 S h
    refine lp_walk (G := fun a => match a with | (v3, S) => ∀ (H : Heap) (locs : List Loc) (ls : Array Slot), va_P D vwCl (wM Y A S) H → va_S (gF A 44 s.heap.size) s.heap H locs → lv_has ls 4 [(0, .ref (A 0)), (1, .int a1), (2, .int a2), (3, .int v3)] → W p l e rmX10_row s m args below meth c H locs 0 0 Z (F0 m 48 ls [])) (fun K48 a ih48 h => ?_) (v3, S) h
    obtain ⟨v3, S⟩ := a
    have ih48 : ∀ (v3 : Int32) (S : gS), K48 (v3, S) → ∀ (H : Heap) (locs : List Loc) (ls : Array Slot), va_P D vwCl (wM Y A S) H → va_S (gF A 44 s.heap.size) s.heap H locs → lv_has ls 4 [(0, .ref (A 0)), (1, .int a1), (2, .int a2), (3, .int v3)] → W p l e rmX10_row s m args below meth c H locs 0 0 Z (F0 m 48 ls []) := fun v3 S q => ih48 (v3, S) q
    intro H locs ls hP hS hl
    refine lv_iload_n hx hb dX10_row_48 rfl (lv_at hl 3 rfl) ?_
    refine lv_iload_n hx hb dX10_row_49 rfl (lv_at hl 2 rfl) ?_
    refine lv_icmp_ge (tgt := 71) hx hb dX10_row_50 (by decide) (fun c1 => ?_) (fun c1 => ?_)
    · have h := h.1 c1
      refine lv_iload_n hx hb dX10_row_71 rfl (lv_at hl 2 rfl) ?_
      exact hret _ _ _ _ _ _ dX10_row_72 h hP hS
    · have h := h.2 c1
      refine lv_aload_n hx hb dX10_row_53 rfl (lv_at hl 0 rfl) ?_
      refine va_get (ci := 10) (v := .ref (A 4)) (C := RX10) (T := TX10) (N := 54) hx hb hts k0 hown hK hP 0 (aM0 Y A S) rfl 5 (by decide) k1 (fun _ h9 => h9) rfl dX10_row_54 ?_
      refine lv_bipush (v := (30 : Int32)) hx hb dX10_row_57 (by decide) ?_
      refine lv_iload_n hx hb dX10_row_59 rfl (lv_at hl 1 rfl) ?_
      refine lv_imul hx hb dX10_row_60 ?_
      refine lv_iload_n hx hb dX10_row_61 rfl (lv_at hl 3 rfl) ?_
      refine lv_iadd hx hb dX10_row_62 ?_
      refine lv_iconst (v := (0 : Int32)) hx hb dX10_row_63 (by decide) ?_
      have v_3 := h.1
      have h := h.2
      obtain ⟨S2, eS2⟩ : ∃ z : gS, z = sA S 3 (upd (ga S 3) (((30 : Int32) * a1) + v3).toNatClampNeg (0 : Int32)) := ⟨_, rfl⟩
      refine va_iast hx hb hK hP (hD S) hS 4 0 (aM4 Y A S) rfl v_3 dX10_row_64 (fun H locs hP _ hS => ?_)
      have hP := uM4 eS2 hP
      have h := h S2 eS2
      obtain ⟨x4, ex4⟩ : ∃ z : Int32, z = v3 + (1 : Int32) := ⟨_, rfl⟩
      have h := h x4 ex4
      refine lv_iinc (v := x4) (lv' := [(3, .int x4), (0, .ref (A 0)), (1, .int a1), (2, .int a2)]) hx hb dX10_row_65 hl (k := 3) rfl (by rw [ex4]; rfl) (by decide) rfl (fun ls hl => ?_)
      refine lv_goto (tgt := 48) hx hb dX10_row_68 (by decide) ?_
      exact ih48 x4 S2 h _ _ _ hP hS (lv_sub hl [1, 2, 3, 0] rfl)
  refine lv_iload_n hx hb dX10_row_0 rfl (lv_at hl 1 rfl) ?_
  refine lv_iconst (v := (0 : Int32)) hx hb dX10_row_1 (by decide) ?_
  refine lv_iconst (v := (3 : Int32)) hx hb dX10_row_2 (by decide) ?_
  refine gSi (As := [.int a1, .int (0 : Int32), .int (3 : Int32)]) (rest := []) ⟨hx, hb, hml, hown, hts⟩ (kX10_in l D Y A hI H.size S a1 (0 : Int32) (3 : Int32) _ h) (va_cwS 3 hts gX10_row_X10_in rfl rfl rfl (by decide +kernel) ⟨Nat.le_of_ble_eq_true rfl, Nat.le_of_ble_eq_true rfl⟩) hK hP hS (gF_le hS.1) rfl rfl hl.1 (Nat.le_of_ble_eq_true rfl) dX10_row_3 ⟨Nat.zero_le _, Nat.zero_le _⟩ ?_
  intro r6 S5 H locs h hP hS
  refine lv_if_ne (tgt := 15) hx hb dX10_row_6 (by decide) (fun c7 => ?_) (fun c7 => ?_)
  · have h := h.2 c7
    refine lv_iload_n hx hb dX10_row_15 rfl (lv_at hl 2 rfl) ?_
    refine lv_if_ge (tgt := 26) hx hb dX10_row_16 (by decide) (fun c8 => ?_) (fun c8 => ?_)
    · have h := h.1 c8
      refine lv_iload_n hx hb dX10_row_26 rfl (lv_at hl 2 rfl) ?_
      refine lv_bipush (v := (30 : Int32)) hx hb dX10_row_27 (by decide) ?_
      refine lv_icmp_le (tgt := 39) hx hb dX10_row_29 (by decide) (fun c9 => ?_) (fun c9 => ?_)
      · have h := h.1 c9
        refine lv_aload_n hx hb dX10_row_39 rfl (lv_at hl 0 rfl) ?_
        refine va_get (ci := 10) (v := .ref (A 3)) (C := RX10) (T := TX10) (N := 54) hx hb hts k0 hown hK hP 0 (aM0 Y A S5) rfl 4 (by decide) k2 (fun _ h9 => h9) rfl dX10_row_40 ?_
        refine lv_iload_n hx hb dX10_row_43 rfl (lv_at hl 1 rfl) ?_
        refine lv_iload_n hx hb dX10_row_44 rfl (lv_at hl 2 rfl) ?_
        have v_11 := h.1
        have h := h.2
        obtain ⟨S10, eS10⟩ : ∃ z : gS, z = sA S5 2 (upd (ga S5 2) a1.toNatClampNeg a2) := ⟨_, rfl⟩
        refine va_iast hx hb hK hP (hD S5) hS 3 0 (aM3 Y A S5) rfl v_11 dX10_row_45 (fun H locs hP _ hS => ?_)
        have hP := uM3 eS10 hP
        have h := h S10 eS10
        refine lv_iconst (v := (0 : Int32)) hx hb dX10_row_46 (by decide) ?_
        refine lv_istore_n (lv' := [(3, .int (0 : Int32)), (0, .ref (A 0)), (1, .int a1), (2, .int a2)]) hx hb dX10_row_47 rfl hl (by decide) rfl (fun ls hl => ?_)
        exact tL48  (0 : Int32) S10 h _ _ _ hP hS (lv_sub hl [1, 2, 3, 0] rfl)
      · have h := h.2 c9
        refine lv_aload_n hx hb dX10_row_32 rfl (lv_at hl 0 rfl) ?_
        refine lv_bipush (v := (-6 : Int32)) hx hb dX10_row_33 (by decide) ?_
        refine gVi (As := [.int (-6 : Int32)]) (rest := []) ⟨hx, hb, hml, hown, hts⟩ (kX10_refuse l D Y A hI H.size S5 (-6 : Int32) _ h) (cwV 1 hts gX10_row_X10_refuse rfl rfl rfl (by decide +kernel) ⟨Nat.le_of_ble_eq_true rfl, Nat.le_of_ble_eq_true rfl⟩) hK hP hS (gF_le hS.1) (aM0 Y A S5) (show vwCl[10]? = some (RX10, TX10, 54) from rfl) rfl rfl hl.1 (Nat.le_of_ble_eq_true rfl) dX10_row_35 ⟨Nat.zero_le _, Nat.zero_le _⟩ ?_
        intro r13 S12 H locs h hP hS
        exact hret _ _ _ _ _ _ dX10_row_38 h hP hS
    · have h := h.2 c8
      refine lv_aload_n hx hb dX10_row_19 rfl (lv_at hl 0 rfl) ?_
      refine lv_bipush (v := (-4 : Int32)) hx hb dX10_row_20 (by decide) ?_
      refine gVi (As := [.int (-4 : Int32)]) (rest := []) ⟨hx, hb, hml, hown, hts⟩ (kX10_refuse l D Y A hI H.size S5 (-4 : Int32) _ h) (cwV 1 hts gX10_row_X10_refuse rfl rfl rfl (by decide +kernel) ⟨Nat.le_of_ble_eq_true rfl, Nat.le_of_ble_eq_true rfl⟩) hK hP hS (gF_le hS.1) (aM0 Y A S5) (show vwCl[10]? = some (RX10, TX10, 54) from rfl) rfl rfl hl.1 (Nat.le_of_ble_eq_true rfl) dX10_row_22 ⟨Nat.zero_le _, Nat.zero_le _⟩ ?_
      intro r15 S14 H locs h hP hS
      exact hret _ _ _ _ _ _ dX10_row_25 h hP hS
  · have h := h.1 c7
    refine lv_aload_n hx hb dX10_row_9 rfl (lv_at hl 0 rfl) ?_
    refine lv_iconst (v := (-1 : Int32)) hx hb dX10_row_10 (by decide) ?_
    refine gVi (As := [.int (-1 : Int32)]) (rest := []) ⟨hx, hb, hml, hown, hts⟩ (kX10_refuse l D Y A hI H.size S5 (-1 : Int32) _ h) (cwV 1 hts gX10_row_X10_refuse rfl rfl rfl (by decide +kernel) ⟨Nat.le_of_ble_eq_true rfl, Nat.le_of_ble_eq_true rfl⟩) hK hP hS (gF_le hS.1) (aM0 Y A S5) (show vwCl[10]? = some (RX10, TX10, 54) from rfl) rfl rfl hl.1 (Nat.le_of_ble_eq_true rfl) dX10_row_11 ⟨Nat.zero_le _, Nat.zero_le _⟩ ?_
    intro r17 S16 H locs h hP hS
    exact hret _ _ _ _ _ _ dX10_row_14 h hP hS

def qX10_lose (S : gS) (a1 : Int32) (Q : Int32 → gS → Prop) : Prop :=
  qX10_in S a1 (0 : Int32) (3 : Int32) (fun r2 S1 => (r2 = 0 → (qX10_refuse S1 (-1 : Int32) (fun r9 S8 => Q r9 S8))) ∧ (¬ r2 = 0 → (vp_in a1 4 ∧ (∀ x5 : Int32, x5 = (ga S1 2 a1.toNatClampNeg) → (∀ S6 : gS, S6 = sA S1 2 (upd (ga S1 2) a1.toNatClampNeg (-1 : Int32)) → ((0 ≤ x5 → (Q (1 : Int32) S6)) ∧ (¬ 0 ≤ x5 → (Q (0 : Int32) S6))))))))
abbrev rmX10_lose : Room := { frames := 1, cells := 0, slots := 0, locals := 22 }
set_option maxHeartbeats 4000000 in
set_option maxRecDepth 100000 in
theorem kX10_lose (l : Launch) (D : va_G) (Y : Nat → ClassId) (A : Nat → Nat) (hI : iM A) (sz : Nat) (S : gS) (a1 : Int32) (Q : Int32 → gS → Prop) (h : qX10_lose S a1 Q) : Met l yX10_lose wsX10_lose rmX10_lose (gPc [.ref (A 0), .int a1] sz D vwCl (tY Y) (wM Y A S)) (va_Qi Q (fun S' t => gH D vwCl (tY Y) (wM Y A S') t) (gF A 44 sz)) 0 0 (gF A 44 sz) := by
  refine gMet_i (cc := cX10_lose) (maxL := 3) (by decide +kernel) rfl (Nat.le_of_ble_eq_true rfl) (fun p e s m args below meth c Z H locs hx hb hml hts hown hK hP hS hret ls hl => ?_)
  have hown : s.vm.findClass RX10 = some m.cls := hown
  have hl : lv_has ls 3 [(0, .ref (A 0)), (1, .int a1)] := hl
  have hD : ∀ S0 : gS, va_D (gF A 44 s.heap.size) (wM Y A S0) := fun S0 => dM hI S0 (fun k hk => gF_in hk)
  have k0 : ∀ w ∈ u_ws RX10 TX10 54, w ∈ wsX10_lose := by decide +kernel
  have k1 := hts (.fieldLink RX10 20 "CoastWatchModel" "rowSize" "[I") (by decide +kernel)
  refine lv_iload_n hx hb dX10_lose_0 rfl (lv_at hl 1 rfl) ?_
  refine lv_iconst (v := (0 : Int32)) hx hb dX10_lose_1 (by decide) ?_
  refine lv_iconst (v := (3 : Int32)) hx hb dX10_lose_2 (by decide) ?_
  refine gSi (As := [.int a1, .int (0 : Int32), .int (3 : Int32)]) (rest := []) ⟨hx, hb, hml, hown, hts⟩ (kX10_in l D Y A hI H.size S a1 (0 : Int32) (3 : Int32) _ h) (va_cwS 3 hts gX10_lose_X10_in rfl rfl rfl (by decide +kernel) ⟨Nat.le_of_ble_eq_true rfl, Nat.le_of_ble_eq_true rfl⟩) hK hP hS (gF_le hS.1) rfl rfl hl.1 (Nat.le_of_ble_eq_true rfl) dX10_lose_3 ⟨Nat.zero_le _, Nat.zero_le _⟩ ?_
  intro r2 S1 H locs h hP hS
  refine lv_if_ne (tgt := 15) hx hb dX10_lose_6 (by decide) (fun c3 => ?_) (fun c3 => ?_)
  · have h := h.2 c3
    refine lv_aload_n hx hb dX10_lose_15 rfl (lv_at hl 0 rfl) ?_
    refine va_get (ci := 10) (v := .ref (A 3)) (C := RX10) (T := TX10) (N := 54) hx hb hts k0 hown hK hP 0 (aM0 Y A S1) rfl 4 (by decide) k1 (fun _ h9 => h9) rfl dX10_lose_16 ?_
    refine lv_iload_n hx hb dX10_lose_19 rfl (lv_at hl 1 rfl) ?_
    have v_4 := h.1
    have h := h.2
    refine va_iald hx hb hK hP 3 0 (aM3 Y A S1) rfl v_4 dX10_lose_20 ?_
    refine lv_topi (fun x5 ex5 => ?_)
    have h := h x5 ex5
    refine lv_istore_n (lv' := [(2, .int x5), (0, .ref (A 0)), (1, .int a1)]) hx hb dX10_lose_21 rfl hl (by decide) rfl (fun ls hl => ?_)
    refine lv_aload_n hx hb dX10_lose_22 rfl (lv_at hl 1 rfl) ?_
    refine va_get (ci := 10) (v := .ref (A 3)) (C := RX10) (T := TX10) (N := 54) hx hb hts k0 hown hK hP 0 (aM0 Y A S1) rfl 4 (by decide) k1 (fun _ h9 => h9) rfl dX10_lose_23 ?_
    refine lv_iload_n hx hb dX10_lose_26 rfl (lv_at hl 2 rfl) ?_
    refine lv_iconst (v := (-1 : Int32)) hx hb dX10_lose_27 (by decide) ?_
    obtain ⟨S6, eS6⟩ : ∃ z : gS, z = sA S1 2 (upd (ga S1 2) a1.toNatClampNeg (-1 : Int32)) := ⟨_, rfl⟩
    refine va_iast hx hb hK hP (hD S1) hS 3 0 (aM3 Y A S1) rfl v_4 dX10_lose_28 (fun H locs hP _ hS => ?_)
    have hP := uM3 eS6 hP
    have h := h S6 eS6
    refine lv_iload_n hx hb dX10_lose_29 rfl (lv_at hl 0 rfl) ?_
    refine lv_if_ge (tgt := 37) hx hb dX10_lose_30 (by decide) (fun c7 => ?_) (fun c7 => ?_)
    · have h := h.1 c7
      refine lv_iconst (v := (1 : Int32)) hx hb dX10_lose_37 (by decide) ?_
      exact hret _ _ _ _ _ _ dX10_lose_38 h hP hS
    · have h := h.2 c7
      refine lv_iconst (v := (0 : Int32)) hx hb dX10_lose_33 (by decide) ?_
      refine lv_goto (tgt := 38) hx hb dX10_lose_34 (by decide) ?_
      exact hret _ _ _ _ _ _ dX10_lose_38 h hP hS
  · have h := h.1 c3
    refine lv_aload_n hx hb dX10_lose_9 rfl (lv_at hl 0 rfl) ?_
    refine lv_iconst (v := (-1 : Int32)) hx hb dX10_lose_10 (by decide) ?_
    refine gVi (As := [.int (-1 : Int32)]) (rest := []) ⟨hx, hb, hml, hown, hts⟩ (kX10_refuse l D Y A hI H.size S1 (-1 : Int32) _ h) (cwV 1 hts gX10_lose_X10_refuse rfl rfl rfl (by decide +kernel) ⟨Nat.le_of_ble_eq_true rfl, Nat.le_of_ble_eq_true rfl⟩) hK hP hS (gF_le hS.1) (aM0 Y A S1) (show vwCl[10]? = some (RX10, TX10, 54) from rfl) rfl rfl hl.1 (Nat.le_of_ble_eq_true rfl) dX10_lose_11 ⟨Nat.zero_le _, Nat.zero_le _⟩ ?_
    intro r9 S8 H locs h hP hS
    exact hret _ _ _ _ _ _ dX10_lose_14 h hP hS

def qX10_put (S : gS) (a1 : Int32) (a2 : Int32) (a3 : Int32) (Q : Int32 → gS → Prop) : Prop :=
  qX10_in S a1 (0 : Int32) (3 : Int32) (fun r2 S1 => (r2 = 0 → (qX10_refuse S1 (-1 : Int32) (fun r23 S22 => Q r23 S22))) ∧ (¬ r2 = 0 → (vp_in a1 4 ∧ ((0 ≤ (ga S1 2 a1.toNatClampNeg) → (qX10_in S1 a2 (0 : Int32) ((ga S1 2 a1.toNatClampNeg) - (1 : Int32)) (fun r7 S6 => (r7 = 0 → (qX10_refuse S6 (-7 : Int32) (fun r19 S18 => Q r19 S18))) ∧ (¬ r7 = 0 → ((0 ≤ a3 → ((a3 ≤ (20 : Int32) → (vp_in (((30 : Int32) * a1) + a2) 120 ∧ (∀ x12 : Int32, x12 = (ga S6 3 (((30 : Int32) * a1) + a2).toNatClampNeg) → (∀ S13 : gS, S13 = sA S6 3 (upd (ga S6 3) (((30 : Int32) * a1) + a2).toNatClampNeg a3) → (Q x12 S13))))) ∧ (¬ a3 ≤ (20 : Int32) → (qX10_refuse S6 (-6 : Int32) (fun r15 S14 => Q r15 S14))))) ∧ (¬ 0 ≤ a3 → (qX10_refuse S6 (-4 : Int32) (fun r17 S16 => Q r17 S16)))))))) ∧ (¬ 0 ≤ (ga S1 2 a1.toNatClampNeg) → (qX10_refuse S1 (-5 : Int32) (fun r21 S20 => Q r21 S20)))))))
abbrev rmX10_put : Room := { frames := 1, cells := 0, slots := 0, locals := 22 }
set_option maxHeartbeats 4000000 in
set_option maxRecDepth 100000 in
theorem kX10_put (l : Launch) (D : va_G) (Y : Nat → ClassId) (A : Nat → Nat) (hI : iM A) (sz : Nat) (S : gS) (a1 : Int32) (a2 : Int32) (a3 : Int32) (Q : Int32 → gS → Prop) (h : qX10_put S a1 a2 a3 Q) : Met l yX10_put wsX10_put rmX10_put (gPc [.ref (A 0), .int a1, .int a2, .int a3] sz D vwCl (tY Y) (wM Y A S)) (va_Qi Q (fun S' t => gH D vwCl (tY Y) (wM Y A S') t) (gF A 44 sz)) 0 0 (gF A 44 sz) := by
  refine gMet_i (cc := cX10_put) (maxL := 5) (by decide +kernel) rfl (Nat.le_of_ble_eq_true rfl) (fun p e s m args below meth c Z H locs hx hb hml hts hown hK hP hS hret ls hl => ?_)
  have hown : s.vm.findClass RX10 = some m.cls := hown
  have hl : lv_has ls 5 [(0, .ref (A 0)), (1, .int a1), (2, .int a2), (3, .int a3)] := hl
  have hD : ∀ S0 : gS, va_D (gF A 44 s.heap.size) (wM Y A S0) := fun S0 => dM hI S0 (fun k hk => gF_in hk)
  have k0 : ∀ w ∈ u_ws RX10 TX10 54, w ∈ wsX10_put := by decide +kernel
  have k1 := hts (.fieldLink RX10 20 "CoastWatchModel" "rowSize" "[I") (by decide +kernel)
  have k2 := hts (.fieldLink RX10 23 "CoastWatchModel" "row" "[I") (by decide +kernel)
  refine lv_iload_n hx hb dX10_put_0 rfl (lv_at hl 1 rfl) ?_
  refine lv_iconst (v := (0 : Int32)) hx hb dX10_put_1 (by decide) ?_
  refine lv_iconst (v := (3 : Int32)) hx hb dX10_put_2 (by decide) ?_
  refine gSi (As := [.int a1, .int (0 : Int32), .int (3 : Int32)]) (rest := []) ⟨hx, hb, hml, hown, hts⟩ (kX10_in l D Y A hI H.size S a1 (0 : Int32) (3 : Int32) _ h) (va_cwS 3 hts gX10_put_X10_in rfl rfl rfl (by decide +kernel) ⟨Nat.le_of_ble_eq_true rfl, Nat.le_of_ble_eq_true rfl⟩) hK hP hS (gF_le hS.1) rfl rfl hl.1 (Nat.le_of_ble_eq_true rfl) dX10_put_3 ⟨Nat.zero_le _, Nat.zero_le _⟩ ?_
  intro r2 S1 H locs h hP hS
  refine lv_if_ne (tgt := 15) hx hb dX10_put_6 (by decide) (fun c3 => ?_) (fun c3 => ?_)
  · have h := h.2 c3
    refine lv_aload_n hx hb dX10_put_15 rfl (lv_at hl 0 rfl) ?_
    refine va_get (ci := 10) (v := .ref (A 3)) (C := RX10) (T := TX10) (N := 54) hx hb hts k0 hown hK hP 0 (aM0 Y A S1) rfl 4 (by decide) k1 (fun _ h9 => h9) rfl dX10_put_16 ?_
    refine lv_iload_n hx hb dX10_put_19 rfl (lv_at hl 1 rfl) ?_
    have v_4 := h.1
    have h := h.2
    refine va_iald hx hb hK hP 3 0 (aM3 Y A S1) rfl v_4 dX10_put_20 ?_
    refine lv_if_ge (tgt := 31) hx hb dX10_put_21 (by decide) (fun c5 => ?_) (fun c5 => ?_)
    · have h := h.1 c5
      refine lv_iload_n hx hb dX10_put_31 rfl (lv_at hl 2 rfl) ?_
      refine lv_iconst (v := (0 : Int32)) hx hb dX10_put_32 (by decide) ?_
      refine lv_aload_n hx hb dX10_put_33 rfl (lv_at hl 0 rfl) ?_
      refine va_get (ci := 10) (v := .ref (A 3)) (C := RX10) (T := TX10) (N := 54) hx hb hts k0 hown hK hP 0 (aM0 Y A S1) rfl 4 (by decide) k1 (fun _ h9 => h9) rfl dX10_put_34 ?_
      refine lv_iload_n hx hb dX10_put_37 rfl (lv_at hl 1 rfl) ?_
      refine va_iald hx hb hK hP 3 0 (aM3 Y A S1) rfl v_4 dX10_put_38 ?_
      refine lv_iconst (v := (1 : Int32)) hx hb dX10_put_39 (by decide) ?_
      refine lv_isub hx hb dX10_put_40 ?_
      refine gSi (As := [.int a2, .int (0 : Int32), .int ((ga S1 2 a1.toNatClampNeg) - (1 : Int32))]) (rest := []) ⟨hx, hb, hml, hown, hts⟩ (kX10_in l D Y A hI H.size S1 a2 (0 : Int32) ((ga S1 2 a1.toNatClampNeg) - (1 : Int32)) _ h) (va_cwS 3 hts gX10_put_X10_in rfl rfl rfl (by decide +kernel) ⟨Nat.le_of_ble_eq_true rfl, Nat.le_of_ble_eq_true rfl⟩) hK hP hS (gF_le hS.1) rfl rfl hl.1 (Nat.le_of_ble_eq_true rfl) dX10_put_41 ⟨Nat.zero_le _, Nat.zero_le _⟩ ?_
      intro r7 S6 H locs h hP hS
      refine lv_if_ne (tgt := 54) hx hb dX10_put_44 (by decide) (fun c8 => ?_) (fun c8 => ?_)
      · have h := h.2 c8
        refine lv_iload_n hx hb dX10_put_54 rfl (lv_at hl 3 rfl) ?_
        refine lv_if_ge (tgt := 65) hx hb dX10_put_55 (by decide) (fun c9 => ?_) (fun c9 => ?_)
        · have h := h.1 c9
          refine lv_iload_n hx hb dX10_put_65 rfl (lv_at hl 3 rfl) ?_
          refine lv_bipush (v := (20 : Int32)) hx hb dX10_put_66 (by decide) ?_
          refine lv_icmp_le (tgt := 78) hx hb dX10_put_68 (by decide) (fun c10 => ?_) (fun c10 => ?_)
          · have h := h.1 c10
            refine lv_aload_n hx hb dX10_put_78 rfl (lv_at hl 0 rfl) ?_
            refine va_get (ci := 10) (v := .ref (A 4)) (C := RX10) (T := TX10) (N := 54) hx hb hts k0 hown hK hP 0 (aM0 Y A S6) rfl 5 (by decide) k2 (fun _ h9 => h9) rfl dX10_put_79 ?_
            refine lv_bipush (v := (30 : Int32)) hx hb dX10_put_82 (by decide) ?_
            refine lv_iload_n hx hb dX10_put_84 rfl (lv_at hl 1 rfl) ?_
            refine lv_imul hx hb dX10_put_85 ?_
            refine lv_iload_n hx hb dX10_put_86 rfl (lv_at hl 2 rfl) ?_
            refine lv_iadd hx hb dX10_put_87 ?_
            have v_11 := h.1
            have h := h.2
            refine va_iald hx hb hK hP 4 0 (aM4 Y A S6) rfl v_11 dX10_put_88 ?_
            refine lv_topi (fun x12 ex12 => ?_)
            have h := h x12 ex12
            refine lv_istore (lv' := [(4, .int x12), (0, .ref (A 0)), (1, .int a1), (2, .int a2), (3, .int a3)]) hx hb dX10_put_89 hl (by decide) rfl (fun ls hl => ?_)
            refine lv_aload_n hx hb dX10_put_91 rfl (lv_at hl 1 rfl) ?_
            refine va_get (ci := 10) (v := .ref (A 4)) (C := RX10) (T := TX10) (N := 54) hx hb hts k0 hown hK hP 0 (aM0 Y A S6) rfl 5 (by decide) k2 (fun _ h9 => h9) rfl dX10_put_92 ?_
            refine lv_bipush (v := (30 : Int32)) hx hb dX10_put_95 (by decide) ?_
            refine lv_iload_n hx hb dX10_put_97 rfl (lv_at hl 2 rfl) ?_
            refine lv_imul hx hb dX10_put_98 ?_
            refine lv_iload_n hx hb dX10_put_99 rfl (lv_at hl 3 rfl) ?_
            refine lv_iadd hx hb dX10_put_100 ?_
            refine lv_iload_n hx hb dX10_put_101 rfl (lv_at hl 4 rfl) ?_
            obtain ⟨S13, eS13⟩ : ∃ z : gS, z = sA S6 3 (upd (ga S6 3) (((30 : Int32) * a1) + a2).toNatClampNeg a3) := ⟨_, rfl⟩
            refine va_iast hx hb hK hP (hD S6) hS 4 0 (aM4 Y A S6) rfl v_11 dX10_put_102 (fun H locs hP _ hS => ?_)
            have hP := uM4 eS13 hP
            have h := h S13 eS13
            refine lv_iload hx hb dX10_put_103 (lv_at hl 0 rfl) ?_
            exact hret _ _ _ _ _ _ dX10_put_105 h hP hS
          · have h := h.2 c10
            refine lv_aload_n hx hb dX10_put_71 rfl (lv_at hl 0 rfl) ?_
            refine lv_bipush (v := (-6 : Int32)) hx hb dX10_put_72 (by decide) ?_
            refine gVi (As := [.int (-6 : Int32)]) (rest := []) ⟨hx, hb, hml, hown, hts⟩ (kX10_refuse l D Y A hI H.size S6 (-6 : Int32) _ h) (cwV 1 hts gX10_put_X10_refuse rfl rfl rfl (by decide +kernel) ⟨Nat.le_of_ble_eq_true rfl, Nat.le_of_ble_eq_true rfl⟩) hK hP hS (gF_le hS.1) (aM0 Y A S6) (show vwCl[10]? = some (RX10, TX10, 54) from rfl) rfl rfl hl.1 (Nat.le_of_ble_eq_true rfl) dX10_put_74 ⟨Nat.zero_le _, Nat.zero_le _⟩ ?_
            intro r15 S14 H locs h hP hS
            exact hret _ _ _ _ _ _ dX10_put_77 h hP hS
        · have h := h.2 c9
          refine lv_aload_n hx hb dX10_put_58 rfl (lv_at hl 0 rfl) ?_
          refine lv_bipush (v := (-4 : Int32)) hx hb dX10_put_59 (by decide) ?_
          refine gVi (As := [.int (-4 : Int32)]) (rest := []) ⟨hx, hb, hml, hown, hts⟩ (kX10_refuse l D Y A hI H.size S6 (-4 : Int32) _ h) (cwV 1 hts gX10_put_X10_refuse rfl rfl rfl (by decide +kernel) ⟨Nat.le_of_ble_eq_true rfl, Nat.le_of_ble_eq_true rfl⟩) hK hP hS (gF_le hS.1) (aM0 Y A S6) (show vwCl[10]? = some (RX10, TX10, 54) from rfl) rfl rfl hl.1 (Nat.le_of_ble_eq_true rfl) dX10_put_61 ⟨Nat.zero_le _, Nat.zero_le _⟩ ?_
          intro r17 S16 H locs h hP hS
          exact hret _ _ _ _ _ _ dX10_put_64 h hP hS
      · have h := h.1 c8
        refine lv_aload_n hx hb dX10_put_47 rfl (lv_at hl 0 rfl) ?_
        refine lv_bipush (v := (-7 : Int32)) hx hb dX10_put_48 (by decide) ?_
        refine gVi (As := [.int (-7 : Int32)]) (rest := []) ⟨hx, hb, hml, hown, hts⟩ (kX10_refuse l D Y A hI H.size S6 (-7 : Int32) _ h) (cwV 1 hts gX10_put_X10_refuse rfl rfl rfl (by decide +kernel) ⟨Nat.le_of_ble_eq_true rfl, Nat.le_of_ble_eq_true rfl⟩) hK hP hS (gF_le hS.1) (aM0 Y A S6) (show vwCl[10]? = some (RX10, TX10, 54) from rfl) rfl rfl hl.1 (Nat.le_of_ble_eq_true rfl) dX10_put_50 ⟨Nat.zero_le _, Nat.zero_le _⟩ ?_
        intro r19 S18 H locs h hP hS
        exact hret _ _ _ _ _ _ dX10_put_53 h hP hS
    · have h := h.2 c5
      refine lv_aload_n hx hb dX10_put_24 rfl (lv_at hl 0 rfl) ?_
      refine lv_bipush (v := (-5 : Int32)) hx hb dX10_put_25 (by decide) ?_
      refine gVi (As := [.int (-5 : Int32)]) (rest := []) ⟨hx, hb, hml, hown, hts⟩ (kX10_refuse l D Y A hI H.size S1 (-5 : Int32) _ h) (cwV 1 hts gX10_put_X10_refuse rfl rfl rfl (by decide +kernel) ⟨Nat.le_of_ble_eq_true rfl, Nat.le_of_ble_eq_true rfl⟩) hK hP hS (gF_le hS.1) (aM0 Y A S1) (show vwCl[10]? = some (RX10, TX10, 54) from rfl) rfl rfl hl.1 (Nat.le_of_ble_eq_true rfl) dX10_put_27 ⟨Nat.zero_le _, Nat.zero_le _⟩ ?_
      intro r21 S20 H locs h hP hS
      exact hret _ _ _ _ _ _ dX10_put_30 h hP hS
  · have h := h.1 c3
    refine lv_aload_n hx hb dX10_put_9 rfl (lv_at hl 0 rfl) ?_
    refine lv_iconst (v := (-1 : Int32)) hx hb dX10_put_10 (by decide) ?_
    refine gVi (As := [.int (-1 : Int32)]) (rest := []) ⟨hx, hb, hml, hown, hts⟩ (kX10_refuse l D Y A hI H.size S1 (-1 : Int32) _ h) (cwV 1 hts gX10_put_X10_refuse rfl rfl rfl (by decide +kernel) ⟨Nat.le_of_ble_eq_true rfl, Nat.le_of_ble_eq_true rfl⟩) hK hP hS (gF_le hS.1) (aM0 Y A S1) (show vwCl[10]? = some (RX10, TX10, 54) from rfl) rfl rfl hl.1 (Nat.le_of_ble_eq_true rfl) dX10_put_11 ⟨Nat.zero_le _, Nat.zero_le _⟩ ?_
    intro r23 S22 H locs h hP hS
    exact hret _ _ _ _ _ _ dX10_put_14 h hP hS

def qX10_copy_L144 (a1 : Int32) (a2 : Int32) (a3 : Int32) (a4 : Int32) (a5 : Int32) (Q : Int32 → gS → Prop) (K144 : Int32 × gS → Prop) : Int32 × gS → Prop := fun ⟨v6, S⟩ =>
  (a5 ≤ v6 → (Q a5 S)) ∧ (¬ a5 ≤ v6 → (vp_in v6 30 ∧ (vp_in ((((30 : Int32) * a3) + a4) + v6) 120 ∧ (∀ S3 : gS, S3 = sA S 3 (upd (ga S 3) ((((30 : Int32) * a3) + a4) + v6).toNatClampNeg (ga S 41 v6.toNatClampNeg)) → (∀ x5 : Int32, x5 = v6 + (1 : Int32) → (K144 (x5, S3)))))))
def qX10_copy_L107 (a1 : Int32) (a2 : Int32) (a3 : Int32) (a4 : Int32) (a5 : Int32) (Q : Int32 → gS → Prop) (K107 : Int32 × gS → Prop) : Int32 × gS → Prop := fun ⟨v6, S⟩ =>
  (a5 ≤ v6 → (lp (qX10_copy_L144 a1 a2 a3 a4 a5 Q) ((0 : Int32), S))) ∧ (¬ a5 ≤ v6 → (vp_in ((((30 : Int32) * a1) + a2) + v6) 120 ∧ (vp_in v6 30 ∧ (∀ S8 : gS, S8 = sA S 41 (upd (ga S 41) v6.toNatClampNeg (ga S 3 ((((30 : Int32) * a1) + a2) + v6).toNatClampNeg)) → (∀ x10 : Int32, x10 = v6 + (1 : Int32) → (K107 (x10, S8)))))))
def qX10_copy (S : gS) (a1 : Int32) (a2 : Int32) (a3 : Int32) (a4 : Int32) (a5 : Int32) (Q : Int32 → gS → Prop) : Prop :=
  qX10_in S a1 (0 : Int32) (3 : Int32) (fun r12 S11 => (r12 = 0 → (qX10_refuse S11 (-1 : Int32) (fun r15 S14 => Q r15 S14))) ∧ (¬ r12 = 0 → (qX10_in S11 a3 (0 : Int32) (3 : Int32) (fun r17 S16 => (r17 = 0 → (qX10_refuse S16 (-1 : Int32) (fun r46 S45 => Q r46 S45))) ∧ (¬ r17 = 0 → (vp_in a1 4 ∧ (((ga S16 2 a1.toNatClampNeg) < 0 → (qX10_refuse S16 (-5 : Int32) (fun r22 S21 => Q r22 S21))) ∧ (¬ (ga S16 2 a1.toNatClampNeg) < 0 → (vp_in a3 4 ∧ ((0 ≤ (ga S16 2 a3.toNatClampNeg) → ((a5 < 0 → (qX10_refuse S16 (-7 : Int32) (fun r27 S26 => Q r27 S26))) ∧ (¬ a5 < 0 → (((30 : Int32) < a5 → (qX10_refuse S16 (-7 : Int32) (fun r30 S29 => Q r30 S29))) ∧ (¬ (30 : Int32) < a5 → ((a2 < 0 → (qX10_refuse S16 (-7 : Int32) (fun r33 S32 => Q r33 S32))) ∧ (¬ a2 < 0 → ((a4 < 0 → (qX10_refuse S16 (-7 : Int32) (fun r36 S35 => Q r36 S35))) ∧ (¬ a4 < 0 → ((((ga S16 2 a1.toNatClampNeg) - a5) < a2 → (qX10_refuse S16 (-7 : Int32) (fun r39 S38 => Q r39 S38))) ∧ (¬ ((ga S16 2 a1.toNatClampNeg) - a5) < a2 → ((a4 ≤ ((ga S16 2 a3.toNatClampNeg) - a5) → (lp (qX10_copy_L107 a1 a2 a3 a4 a5 Q) ((0 : Int32), S16))) ∧ (¬ a4 ≤ ((ga S16 2 a3.toNatClampNeg) - a5) → (qX10_refuse S16 (-7 : Int32) (fun r42 S41 => Q r42 S41))))))))))))))) ∧ (¬ 0 ≤ (ga S16 2 a3.toNatClampNeg) → (qX10_refuse S16 (-5 : Int32) (fun r44 S43 => Q r44 S43)))))))))))))
abbrev rmX10_copy : Room := { frames := 1, cells := 0, slots := 0, locals := 22 }
set_option maxHeartbeats 4000000 in
set_option maxRecDepth 100000 in
theorem kX10_copy (l : Launch) (D : va_G) (Y : Nat → ClassId) (A : Nat → Nat) (hI : iM A) (sz : Nat) (S : gS) (a1 : Int32) (a2 : Int32) (a3 : Int32) (a4 : Int32) (a5 : Int32) (Q : Int32 → gS → Prop) (h : qX10_copy S a1 a2 a3 a4 a5 Q) : Met l yX10_copy wsX10_copy rmX10_copy (gPc [.ref (A 0), .int a1, .int a2, .int a3, .int a4, .int a5] sz D vwCl (tY Y) (wM Y A S)) (va_Qi Q (fun S' t => gH D vwCl (tY Y) (wM Y A S') t) (gF A 44 sz)) 0 0 (gF A 44 sz) := by
  refine gMet_i (cc := cX10_copy) (maxL := 7) (by decide +kernel) rfl (Nat.le_of_ble_eq_true rfl) (fun p e s m args below meth c Z H locs hx hb hml hts hown hK hP hS hret ls hl => ?_)
  have hown : s.vm.findClass RX10 = some m.cls := hown
  have hl : lv_has ls 7 [(0, .ref (A 0)), (1, .int a1), (2, .int a2), (3, .int a3), (4, .int a4), (5, .int a5)] := hl
  have hD : ∀ S0 : gS, va_D (gF A 44 s.heap.size) (wM Y A S0) := fun S0 => dM hI S0 (fun k hk => gF_in hk)
  have k0 : ∀ w ∈ u_ws RX10 TX10 54, w ∈ wsX10_copy := by decide +kernel
  have k1 := hts (.fieldLink RX10 23 "CoastWatchModel" "row" "[I") (by decide +kernel)
  have k2 := hts (.fieldLink RX10 138 "CoastWatchModel" "between" "[I") (by decide +kernel)
  have k3 := hts (.fieldLink RX10 20 "CoastWatchModel" "rowSize" "[I") (by decide +kernel)
  have tL144 : ∀ (v6 : Int32) (S : gS), lp (qX10_copy_L144 a1 a2 a3 a4 a5 Q) (v6, S) → ∀ (H : Heap) (locs : List Loc) (ls : Array Slot), va_P D vwCl (wM Y A S) H → va_S (gF A 44 s.heap.size) s.heap H locs → lv_has ls 7 [(0, .ref (A 0)), (3, .int a3), (4, .int a4), (5, .int a5), (6, .int v6)] → W p l e rmX10_copy s m args below meth c H locs 0 0 Z (F0 m 144 ls []) := by
    intro  v6 S h
    refine lp_walk (G := fun a => match a with | (v6, S) => ∀ (H : Heap) (locs : List Loc) (ls : Array Slot), va_P D vwCl (wM Y A S) H → va_S (gF A 44 s.heap.size) s.heap H locs → lv_has ls 7 [(0, .ref (A 0)), (3, .int a3), (4, .int a4), (5, .int a5), (6, .int v6)] → W p l e rmX10_copy s m args below meth c H locs 0 0 Z (F0 m 144 ls [])) (fun K144 a ih144 h => ?_) (v6, S) h
    obtain ⟨v6, S⟩ := a
    have ih144 : ∀ (v6 : Int32) (S : gS), K144 (v6, S) → ∀ (H : Heap) (locs : List Loc) (ls : Array Slot), va_P D vwCl (wM Y A S) H → va_S (gF A 44 s.heap.size) s.heap H locs → lv_has ls 7 [(0, .ref (A 0)), (3, .int a3), (4, .int a4), (5, .int a5), (6, .int v6)] → W p l e rmX10_copy s m args below meth c H locs 0 0 Z (F0 m 144 ls []) := fun v6 S q => ih144 (v6, S) q
    intro H locs ls hP hS hl
    refine lv_iload hx hb dX10_copy_144 (lv_at hl 4 rfl) ?_
    refine lv_iload hx hb dX10_copy_146 (lv_at hl 3 rfl) ?_
    refine lv_icmp_ge (tgt := 179) hx hb dX10_copy_148 (by decide) (fun c1 => ?_) (fun c1 => ?_)
    · have h := h.1 c1
      refine lv_iload hx hb dX10_copy_179 (lv_at hl 3 rfl) ?_
      exact hret _ _ _ _ _ _ dX10_copy_181 h hP hS
    · have h := h.2 c1
      refine lv_aload_n hx hb dX10_copy_151 rfl (lv_at hl 0 rfl) ?_
      refine va_get (ci := 10) (v := .ref (A 4)) (C := RX10) (T := TX10) (N := 54) hx hb hts k0 hown hK hP 0 (aM0 Y A S) rfl 5 (by decide) k1 (fun _ h9 => h9) rfl dX10_copy_152 ?_
      refine lv_bipush (v := (30 : Int32)) hx hb dX10_copy_155 (by decide) ?_
      refine lv_iload_n hx hb dX10_copy_157 rfl (lv_at hl 1 rfl) ?_
      refine lv_imul hx hb dX10_copy_158 ?_
      refine lv_iload hx hb dX10_copy_159 (lv_at hl 2 rfl) ?_
      refine lv_iadd hx hb dX10_copy_161 ?_
      refine lv_iload hx hb dX10_copy_162 (lv_at hl 4 rfl) ?_
      refine lv_iadd hx hb dX10_copy_164 ?_
      refine lv_aload_n hx hb dX10_copy_165 rfl (lv_at hl 0 rfl) ?_
      refine va_get (ci := 10) (v := .ref (A 42)) (C := RX10) (T := TX10) (N := 54) hx hb hts k0 hown hK hP 0 (aM0 Y A S) rfl 50 (by decide) k2 (fun _ h9 => h9) rfl dX10_copy_166 ?_
      refine lv_iload hx hb dX10_copy_169 (lv_at hl 4 rfl) ?_
      have v_2 := h.1
      have h := h.2
      refine va_iald hx hb hK hP 42 0 (aM42 Y A S) rfl v_2 dX10_copy_171 ?_
      have v_4 := h.1
      have h := h.2
      obtain ⟨S3, eS3⟩ : ∃ z : gS, z = sA S 3 (upd (ga S 3) ((((30 : Int32) * a3) + a4) + v6).toNatClampNeg (ga S 41 v6.toNatClampNeg)) := ⟨_, rfl⟩
      refine va_iast hx hb hK hP (hD S) hS 4 0 (aM4 Y A S) rfl v_4 dX10_copy_172 (fun H locs hP _ hS => ?_)
      have hP := uM4 eS3 hP
      have h := h S3 eS3
      obtain ⟨x5, ex5⟩ : ∃ z : Int32, z = v6 + (1 : Int32) := ⟨_, rfl⟩
      have h := h x5 ex5
      refine lv_iinc (v := x5) (lv' := [(6, .int x5), (0, .ref (A 0)), (3, .int a3), (4, .int a4), (5, .int a5)]) hx hb dX10_copy_173 hl (k := 4) rfl (by rw [ex5]; rfl) (by decide) rfl (fun ls hl => ?_)
      refine lv_goto (tgt := 144) hx hb dX10_copy_176 (by decide) ?_
      exact ih144 x5 S3 h _ _ _ hP hS (lv_sub hl [1, 2, 3, 4, 0] rfl)
  have tL107 : ∀ (v6 : Int32) (S : gS), lp (qX10_copy_L107 a1 a2 a3 a4 a5 Q) (v6, S) → ∀ (H : Heap) (locs : List Loc) (ls : Array Slot), va_P D vwCl (wM Y A S) H → va_S (gF A 44 s.heap.size) s.heap H locs → lv_has ls 7 [(0, .ref (A 0)), (1, .int a1), (2, .int a2), (3, .int a3), (4, .int a4), (5, .int a5), (6, .int v6)] → W p l e rmX10_copy s m args below meth c H locs 0 0 Z (F0 m 107 ls []) := by
    intro  v6 S h
    refine lp_walk (G := fun a => match a with | (v6, S) => ∀ (H : Heap) (locs : List Loc) (ls : Array Slot), va_P D vwCl (wM Y A S) H → va_S (gF A 44 s.heap.size) s.heap H locs → lv_has ls 7 [(0, .ref (A 0)), (1, .int a1), (2, .int a2), (3, .int a3), (4, .int a4), (5, .int a5), (6, .int v6)] → W p l e rmX10_copy s m args below meth c H locs 0 0 Z (F0 m 107 ls [])) (fun K107 a ih107 h => ?_) (v6, S) h
    obtain ⟨v6, S⟩ := a
    have ih107 : ∀ (v6 : Int32) (S : gS), K107 (v6, S) → ∀ (H : Heap) (locs : List Loc) (ls : Array Slot), va_P D vwCl (wM Y A S) H → va_S (gF A 44 s.heap.size) s.heap H locs → lv_has ls 7 [(0, .ref (A 0)), (1, .int a1), (2, .int a2), (3, .int a3), (4, .int a4), (5, .int a5), (6, .int v6)] → W p l e rmX10_copy s m args below meth c H locs 0 0 Z (F0 m 107 ls []) := fun v6 S q => ih107 (v6, S) q
    intro H locs ls hP hS hl
    refine lv_iload hx hb dX10_copy_107 (lv_at hl 6 rfl) ?_
    refine lv_iload hx hb dX10_copy_109 (lv_at hl 5 rfl) ?_
    refine lv_icmp_ge (tgt := 141) hx hb dX10_copy_111 (by decide) (fun c6 => ?_) (fun c6 => ?_)
    · have h := h.1 c6
      refine lv_iconst (v := (0 : Int32)) hx hb dX10_copy_141 (by decide) ?_
      refine lv_istore (lv' := [(6, .int (0 : Int32)), (0, .ref (A 0)), (1, .int a1), (2, .int a2), (3, .int a3), (4, .int a4), (5, .int a5)]) hx hb dX10_copy_142 hl (by decide) rfl (fun ls hl => ?_)
      exact tL144  (0 : Int32) S h _ _ _ hP hS (lv_sub hl [1, 4, 5, 6, 0] rfl)
    · have h := h.2 c6
      refine lv_aload_n hx hb dX10_copy_114 rfl (lv_at hl 0 rfl) ?_
      refine va_get (ci := 10) (v := .ref (A 42)) (C := RX10) (T := TX10) (N := 54) hx hb hts k0 hown hK hP 0 (aM0 Y A S) rfl 50 (by decide) k2 (fun _ h9 => h9) rfl dX10_copy_115 ?_
      refine lv_iload hx hb dX10_copy_118 (lv_at hl 6 rfl) ?_
      refine lv_aload_n hx hb dX10_copy_120 rfl (lv_at hl 0 rfl) ?_
      refine va_get (ci := 10) (v := .ref (A 4)) (C := RX10) (T := TX10) (N := 54) hx hb hts k0 hown hK hP 0 (aM0 Y A S) rfl 5 (by decide) k1 (fun _ h9 => h9) rfl dX10_copy_121 ?_
      refine lv_bipush (v := (30 : Int32)) hx hb dX10_copy_124 (by decide) ?_
      refine lv_iload_n hx hb dX10_copy_126 rfl (lv_at hl 1 rfl) ?_
      refine lv_imul hx hb dX10_copy_127 ?_
      refine lv_iload_n hx hb dX10_copy_128 rfl (lv_at hl 2 rfl) ?_
      refine lv_iadd hx hb dX10_copy_129 ?_
      refine lv_iload hx hb dX10_copy_130 (lv_at hl 6 rfl) ?_
      refine lv_iadd hx hb dX10_copy_132 ?_
      have v_7 := h.1
      have h := h.2
      refine va_iald hx hb hK hP 4 0 (aM4 Y A S) rfl v_7 dX10_copy_133 ?_
      have v_9 := h.1
      have h := h.2
      obtain ⟨S8, eS8⟩ : ∃ z : gS, z = sA S 41 (upd (ga S 41) v6.toNatClampNeg (ga S 3 ((((30 : Int32) * a1) + a2) + v6).toNatClampNeg)) := ⟨_, rfl⟩
      refine va_iast hx hb hK hP (hD S) hS 42 0 (aM42 Y A S) rfl v_9 dX10_copy_134 (fun H locs hP _ hS => ?_)
      have hP := uM42 eS8 hP
      have h := h S8 eS8
      obtain ⟨x10, ex10⟩ : ∃ z : Int32, z = v6 + (1 : Int32) := ⟨_, rfl⟩
      have h := h x10 ex10
      refine lv_iinc (v := x10) (lv' := [(6, .int x10), (0, .ref (A 0)), (1, .int a1), (2, .int a2), (3, .int a3), (4, .int a4), (5, .int a5)]) hx hb dX10_copy_135 hl (k := 6) rfl (by rw [ex10]; rfl) (by decide) rfl (fun ls hl => ?_)
      refine lv_goto (tgt := 107) hx hb dX10_copy_138 (by decide) ?_
      exact ih107 x10 S8 h _ _ _ hP hS (lv_sub hl [1, 2, 3, 4, 5, 6, 0] rfl)
  refine lv_iload_n hx hb dX10_copy_0 rfl (lv_at hl 1 rfl) ?_
  refine lv_iconst (v := (0 : Int32)) hx hb dX10_copy_1 (by decide) ?_
  refine lv_iconst (v := (3 : Int32)) hx hb dX10_copy_2 (by decide) ?_
  refine gSi (As := [.int a1, .int (0 : Int32), .int (3 : Int32)]) (rest := []) ⟨hx, hb, hml, hown, hts⟩ (kX10_in l D Y A hI H.size S a1 (0 : Int32) (3 : Int32) _ h) (va_cwS 3 hts gX10_copy_X10_in rfl rfl rfl (by decide +kernel) ⟨Nat.le_of_ble_eq_true rfl, Nat.le_of_ble_eq_true rfl⟩) hK hP hS (gF_le hS.1) rfl rfl hl.1 (Nat.le_of_ble_eq_true rfl) dX10_copy_3 ⟨Nat.zero_le _, Nat.zero_le _⟩ ?_
  intro r12 S11 H locs h hP hS
  refine lv_if_eq (tgt := 18) hx hb dX10_copy_6 (by decide) (fun c13 => ?_) (fun c13 => ?_)
  · have h := h.1 c13
    refine lv_aload_n hx hb dX10_copy_18 rfl (lv_at hl 0 rfl) ?_
    refine lv_iconst (v := (-1 : Int32)) hx hb dX10_copy_19 (by decide) ?_
    refine gVi (As := [.int (-1 : Int32)]) (rest := []) ⟨hx, hb, hml, hown, hts⟩ (kX10_refuse l D Y A hI H.size S11 (-1 : Int32) _ h) (cwV 1 hts gX10_copy_X10_refuse rfl rfl rfl (by decide +kernel) ⟨Nat.le_of_ble_eq_true rfl, Nat.le_of_ble_eq_true rfl⟩) hK hP hS (gF_le hS.1) (aM0 Y A S11) (show vwCl[10]? = some (RX10, TX10, 54) from rfl) rfl rfl hl.1 (Nat.le_of_ble_eq_true rfl) dX10_copy_20 ⟨Nat.zero_le _, Nat.zero_le _⟩ ?_
    intro r15 S14 H locs h hP hS
    exact hret _ _ _ _ _ _ dX10_copy_23 h hP hS
  · have h := h.2 c13
    refine lv_iload_n hx hb dX10_copy_9 rfl (lv_at hl 3 rfl) ?_
    refine lv_iconst (v := (0 : Int32)) hx hb dX10_copy_10 (by decide) ?_
    refine lv_iconst (v := (3 : Int32)) hx hb dX10_copy_11 (by decide) ?_
    refine gSi (As := [.int a3, .int (0 : Int32), .int (3 : Int32)]) (rest := []) ⟨hx, hb, hml, hown, hts⟩ (kX10_in l D Y A hI H.size S11 a3 (0 : Int32) (3 : Int32) _ h) (va_cwS 3 hts gX10_copy_X10_in rfl rfl rfl (by decide +kernel) ⟨Nat.le_of_ble_eq_true rfl, Nat.le_of_ble_eq_true rfl⟩) hK hP hS (gF_le hS.1) rfl rfl hl.1 (Nat.le_of_ble_eq_true rfl) dX10_copy_12 ⟨Nat.zero_le _, Nat.zero_le _⟩ ?_
    intro r17 S16 H locs h hP hS
    refine lv_if_ne (tgt := 24) hx hb dX10_copy_15 (by decide) (fun c18 => ?_) (fun c18 => ?_)
    · have h := h.2 c18
      refine lv_aload_n hx hb dX10_copy_24 rfl (lv_at hl 0 rfl) ?_
      refine va_get (ci := 10) (v := .ref (A 3)) (C := RX10) (T := TX10) (N := 54) hx hb hts k0 hown hK hP 0 (aM0 Y A S16) rfl 4 (by decide) k3 (fun _ h9 => h9) rfl dX10_copy_25 ?_
      refine lv_iload_n hx hb dX10_copy_28 rfl (lv_at hl 1 rfl) ?_
      have v_19 := h.1
      have h := h.2
      refine va_iald hx hb hK hP 3 0 (aM3 Y A S16) rfl v_19 dX10_copy_29 ?_
      refine lv_if_lt (tgt := 42) hx hb dX10_copy_30 (by decide) (fun c20 => ?_) (fun c20 => ?_)
      · have h := h.1 c20
        refine lv_aload_n hx hb dX10_copy_42 rfl (lv_at hl 0 rfl) ?_
        refine lv_bipush (v := (-5 : Int32)) hx hb dX10_copy_43 (by decide) ?_
        refine gVi (As := [.int (-5 : Int32)]) (rest := []) ⟨hx, hb, hml, hown, hts⟩ (kX10_refuse l D Y A hI H.size S16 (-5 : Int32) _ h) (cwV 1 hts gX10_copy_X10_refuse rfl rfl rfl (by decide +kernel) ⟨Nat.le_of_ble_eq_true rfl, Nat.le_of_ble_eq_true rfl⟩) hK hP hS (gF_le hS.1) (aM0 Y A S16) (show vwCl[10]? = some (RX10, TX10, 54) from rfl) rfl rfl hl.1 (Nat.le_of_ble_eq_true rfl) dX10_copy_45 ⟨Nat.zero_le _, Nat.zero_le _⟩ ?_
        intro r22 S21 H locs h hP hS
        exact hret _ _ _ _ _ _ dX10_copy_48 h hP hS
      · have h := h.2 c20
        refine lv_aload_n hx hb dX10_copy_33 rfl (lv_at hl 0 rfl) ?_
        refine va_get (ci := 10) (v := .ref (A 3)) (C := RX10) (T := TX10) (N := 54) hx hb hts k0 hown hK hP 0 (aM0 Y A S16) rfl 4 (by decide) k3 (fun _ h9 => h9) rfl dX10_copy_34 ?_
        refine lv_iload_n hx hb dX10_copy_37 rfl (lv_at hl 3 rfl) ?_
        have v_23 := h.1
        have h := h.2
        refine va_iald hx hb hK hP 3 0 (aM3 Y A S16) rfl v_23 dX10_copy_38 ?_
        refine lv_if_ge (tgt := 49) hx hb dX10_copy_39 (by decide) (fun c24 => ?_) (fun c24 => ?_)
        · have h := h.1 c24
          refine lv_iload hx hb dX10_copy_49 (lv_at hl 5 rfl) ?_
          refine lv_if_lt (tgt := 97) hx hb dX10_copy_51 (by decide) (fun c25 => ?_) (fun c25 => ?_)
          · have h := h.1 c25
            refine lv_aload_n hx hb dX10_copy_97 rfl (lv_at hl 0 rfl) ?_
            refine lv_bipush (v := (-7 : Int32)) hx hb dX10_copy_98 (by decide) ?_
            refine gVi (As := [.int (-7 : Int32)]) (rest := []) ⟨hx, hb, hml, hown, hts⟩ (kX10_refuse l D Y A hI H.size S16 (-7 : Int32) _ h) (cwV 1 hts gX10_copy_X10_refuse rfl rfl rfl (by decide +kernel) ⟨Nat.le_of_ble_eq_true rfl, Nat.le_of_ble_eq_true rfl⟩) hK hP hS (gF_le hS.1) (aM0 Y A S16) (show vwCl[10]? = some (RX10, TX10, 54) from rfl) rfl rfl hl.1 (Nat.le_of_ble_eq_true rfl) dX10_copy_100 ⟨Nat.zero_le _, Nat.zero_le _⟩ ?_
            intro r27 S26 H locs h hP hS
            exact hret _ _ _ _ _ _ dX10_copy_103 h hP hS
          · have h := h.2 c25
            refine lv_iload hx hb dX10_copy_54 (lv_at hl 5 rfl) ?_
            refine lv_bipush (v := (30 : Int32)) hx hb dX10_copy_56 (by decide) ?_
            refine lv_icmp_gt (tgt := 97) hx hb dX10_copy_58 (by decide) (fun c28 => ?_) (fun c28 => ?_)
            · have h := h.1 c28
              refine lv_aload_n hx hb dX10_copy_97 rfl (lv_at hl 0 rfl) ?_
              refine lv_bipush (v := (-7 : Int32)) hx hb dX10_copy_98 (by decide) ?_
              refine gVi (As := [.int (-7 : Int32)]) (rest := []) ⟨hx, hb, hml, hown, hts⟩ (kX10_refuse l D Y A hI H.size S16 (-7 : Int32) _ h) (cwV 1 hts gX10_copy_X10_refuse rfl rfl rfl (by decide +kernel) ⟨Nat.le_of_ble_eq_true rfl, Nat.le_of_ble_eq_true rfl⟩) hK hP hS (gF_le hS.1) (aM0 Y A S16) (show vwCl[10]? = some (RX10, TX10, 54) from rfl) rfl rfl hl.1 (Nat.le_of_ble_eq_true rfl) dX10_copy_100 ⟨Nat.zero_le _, Nat.zero_le _⟩ ?_
              intro r30 S29 H locs h hP hS
              exact hret _ _ _ _ _ _ dX10_copy_103 h hP hS
            · have h := h.2 c28
              refine lv_iload_n hx hb dX10_copy_61 rfl (lv_at hl 2 rfl) ?_
              refine lv_if_lt (tgt := 97) hx hb dX10_copy_62 (by decide) (fun c31 => ?_) (fun c31 => ?_)
              · have h := h.1 c31
                refine lv_aload_n hx hb dX10_copy_97 rfl (lv_at hl 0 rfl) ?_
                refine lv_bipush (v := (-7 : Int32)) hx hb dX10_copy_98 (by decide) ?_
                refine gVi (As := [.int (-7 : Int32)]) (rest := []) ⟨hx, hb, hml, hown, hts⟩ (kX10_refuse l D Y A hI H.size S16 (-7 : Int32) _ h) (cwV 1 hts gX10_copy_X10_refuse rfl rfl rfl (by decide +kernel) ⟨Nat.le_of_ble_eq_true rfl, Nat.le_of_ble_eq_true rfl⟩) hK hP hS (gF_le hS.1) (aM0 Y A S16) (show vwCl[10]? = some (RX10, TX10, 54) from rfl) rfl rfl hl.1 (Nat.le_of_ble_eq_true rfl) dX10_copy_100 ⟨Nat.zero_le _, Nat.zero_le _⟩ ?_
                intro r33 S32 H locs h hP hS
                exact hret _ _ _ _ _ _ dX10_copy_103 h hP hS
              · have h := h.2 c31
                refine lv_iload hx hb dX10_copy_65 (lv_at hl 4 rfl) ?_
                refine lv_if_lt (tgt := 97) hx hb dX10_copy_67 (by decide) (fun c34 => ?_) (fun c34 => ?_)
                · have h := h.1 c34
                  refine lv_aload_n hx hb dX10_copy_97 rfl (lv_at hl 0 rfl) ?_
                  refine lv_bipush (v := (-7 : Int32)) hx hb dX10_copy_98 (by decide) ?_
                  refine gVi (As := [.int (-7 : Int32)]) (rest := []) ⟨hx, hb, hml, hown, hts⟩ (kX10_refuse l D Y A hI H.size S16 (-7 : Int32) _ h) (cwV 1 hts gX10_copy_X10_refuse rfl rfl rfl (by decide +kernel) ⟨Nat.le_of_ble_eq_true rfl, Nat.le_of_ble_eq_true rfl⟩) hK hP hS (gF_le hS.1) (aM0 Y A S16) (show vwCl[10]? = some (RX10, TX10, 54) from rfl) rfl rfl hl.1 (Nat.le_of_ble_eq_true rfl) dX10_copy_100 ⟨Nat.zero_le _, Nat.zero_le _⟩ ?_
                  intro r36 S35 H locs h hP hS
                  exact hret _ _ _ _ _ _ dX10_copy_103 h hP hS
                · have h := h.2 c34
                  refine lv_iload_n hx hb dX10_copy_70 rfl (lv_at hl 2 rfl) ?_
                  refine lv_aload_n hx hb dX10_copy_71 rfl (lv_at hl 0 rfl) ?_
                  refine va_get (ci := 10) (v := .ref (A 3)) (C := RX10) (T := TX10) (N := 54) hx hb hts k0 hown hK hP 0 (aM0 Y A S16) rfl 4 (by decide) k3 (fun _ h9 => h9) rfl dX10_copy_72 ?_
                  refine lv_iload_n hx hb dX10_copy_75 rfl (lv_at hl 1 rfl) ?_
                  refine va_iald hx hb hK hP 3 0 (aM3 Y A S16) rfl v_19 dX10_copy_76 ?_
                  refine lv_iload hx hb dX10_copy_77 (lv_at hl 5 rfl) ?_
                  refine lv_isub hx hb dX10_copy_79 ?_
                  refine lv_icmp_gt (tgt := 97) hx hb dX10_copy_80 (by decide) (fun c37 => ?_) (fun c37 => ?_)
                  · have h := h.1 c37
                    refine lv_aload_n hx hb dX10_copy_97 rfl (lv_at hl 0 rfl) ?_
                    refine lv_bipush (v := (-7 : Int32)) hx hb dX10_copy_98 (by decide) ?_
                    refine gVi (As := [.int (-7 : Int32)]) (rest := []) ⟨hx, hb, hml, hown, hts⟩ (kX10_refuse l D Y A hI H.size S16 (-7 : Int32) _ h) (cwV 1 hts gX10_copy_X10_refuse rfl rfl rfl (by decide +kernel) ⟨Nat.le_of_ble_eq_true rfl, Nat.le_of_ble_eq_true rfl⟩) hK hP hS (gF_le hS.1) (aM0 Y A S16) (show vwCl[10]? = some (RX10, TX10, 54) from rfl) rfl rfl hl.1 (Nat.le_of_ble_eq_true rfl) dX10_copy_100 ⟨Nat.zero_le _, Nat.zero_le _⟩ ?_
                    intro r39 S38 H locs h hP hS
                    exact hret _ _ _ _ _ _ dX10_copy_103 h hP hS
                  · have h := h.2 c37
                    refine lv_iload hx hb dX10_copy_83 (lv_at hl 4 rfl) ?_
                    refine lv_aload_n hx hb dX10_copy_85 rfl (lv_at hl 0 rfl) ?_
                    refine va_get (ci := 10) (v := .ref (A 3)) (C := RX10) (T := TX10) (N := 54) hx hb hts k0 hown hK hP 0 (aM0 Y A S16) rfl 4 (by decide) k3 (fun _ h9 => h9) rfl dX10_copy_86 ?_
                    refine lv_iload_n hx hb dX10_copy_89 rfl (lv_at hl 3 rfl) ?_
                    refine va_iald hx hb hK hP 3 0 (aM3 Y A S16) rfl v_23 dX10_copy_90 ?_
                    refine lv_iload hx hb dX10_copy_91 (lv_at hl 5 rfl) ?_
                    refine lv_isub hx hb dX10_copy_93 ?_
                    refine lv_icmp_le (tgt := 104) hx hb dX10_copy_94 (by decide) (fun c40 => ?_) (fun c40 => ?_)
                    · have h := h.1 c40
                      refine lv_iconst (v := (0 : Int32)) hx hb dX10_copy_104 (by decide) ?_
                      refine lv_istore (lv' := [(6, .int (0 : Int32)), (0, .ref (A 0)), (1, .int a1), (2, .int a2), (3, .int a3), (4, .int a4), (5, .int a5)]) hx hb dX10_copy_105 hl (by decide) rfl (fun ls hl => ?_)
                      exact tL107  (0 : Int32) S16 h _ _ _ hP hS (lv_sub hl [1, 2, 3, 4, 5, 6, 0] rfl)
                    · have h := h.2 c40
                      refine lv_aload_n hx hb dX10_copy_97 rfl (lv_at hl 0 rfl) ?_
                      refine lv_bipush (v := (-7 : Int32)) hx hb dX10_copy_98 (by decide) ?_
                      refine gVi (As := [.int (-7 : Int32)]) (rest := []) ⟨hx, hb, hml, hown, hts⟩ (kX10_refuse l D Y A hI H.size S16 (-7 : Int32) _ h) (cwV 1 hts gX10_copy_X10_refuse rfl rfl rfl (by decide +kernel) ⟨Nat.le_of_ble_eq_true rfl, Nat.le_of_ble_eq_true rfl⟩) hK hP hS (gF_le hS.1) (aM0 Y A S16) (show vwCl[10]? = some (RX10, TX10, 54) from rfl) rfl rfl hl.1 (Nat.le_of_ble_eq_true rfl) dX10_copy_100 ⟨Nat.zero_le _, Nat.zero_le _⟩ ?_
                      intro r42 S41 H locs h hP hS
                      exact hret _ _ _ _ _ _ dX10_copy_103 h hP hS
        · have h := h.2 c24
          refine lv_aload_n hx hb dX10_copy_42 rfl (lv_at hl 0 rfl) ?_
          refine lv_bipush (v := (-5 : Int32)) hx hb dX10_copy_43 (by decide) ?_
          refine gVi (As := [.int (-5 : Int32)]) (rest := []) ⟨hx, hb, hml, hown, hts⟩ (kX10_refuse l D Y A hI H.size S16 (-5 : Int32) _ h) (cwV 1 hts gX10_copy_X10_refuse rfl rfl rfl (by decide +kernel) ⟨Nat.le_of_ble_eq_true rfl, Nat.le_of_ble_eq_true rfl⟩) hK hP hS (gF_le hS.1) (aM0 Y A S16) (show vwCl[10]? = some (RX10, TX10, 54) from rfl) rfl rfl hl.1 (Nat.le_of_ble_eq_true rfl) dX10_copy_45 ⟨Nat.zero_le _, Nat.zero_le _⟩ ?_
          intro r44 S43 H locs h hP hS
          exact hret _ _ _ _ _ _ dX10_copy_48 h hP hS
    · have h := h.1 c18
      refine lv_aload_n hx hb dX10_copy_18 rfl (lv_at hl 0 rfl) ?_
      refine lv_iconst (v := (-1 : Int32)) hx hb dX10_copy_19 (by decide) ?_
      refine gVi (As := [.int (-1 : Int32)]) (rest := []) ⟨hx, hb, hml, hown, hts⟩ (kX10_refuse l D Y A hI H.size S16 (-1 : Int32) _ h) (cwV 1 hts gX10_copy_X10_refuse rfl rfl rfl (by decide +kernel) ⟨Nat.le_of_ble_eq_true rfl, Nat.le_of_ble_eq_true rfl⟩) hK hP hS (gF_le hS.1) (aM0 Y A S16) (show vwCl[10]? = some (RX10, TX10, 54) from rfl) rfl rfl hl.1 (Nat.le_of_ble_eq_true rfl) dX10_copy_20 ⟨Nat.zero_le _, Nat.zero_le _⟩ ?_
      intro r46 S45 H locs h hP hS
      exact hret _ _ _ _ _ _ dX10_copy_23 h hP hS

def qX10_lead_J16 (a1 : Int32) (a2 : Int32) (Q : Int32 → gS → Prop) : gS → Prop := fun S =>
  vp_in (1 : Int32) 8 ∧ (∀ S2 : gS, S2 = sA S 40 (upd (ga S 40) (1 : Int32).toNatClampNeg ((ga S 40 (1 : Int32).toNatClampNeg) + (1 : Int32))) → (Q (2000000001 : Int32) S2))
def qX10_lead (S : gS) (a1 : Int32) (a2 : Int32) (Q : Int32 → gS → Prop) : Prop :=
  qX10_isCove S a1 (fun r4 S3 => (r4 = 0 → (qX10_lead_J16 a1 a2 Q S3)) ∧ (¬ r4 = 0 → (qX10_in S3 a2 (-1 : Int32) (3 : Int32) (fun r7 S6 => (r7 = 0 → (qX10_lead_J16 a1 a2 Q S6)) ∧ (¬ r7 = 0 → (vp_in a1 6 ∧ (∀ x10 : Int32, x10 = (ga S6 4 a1.toNatClampNeg) → (∀ S11 : gS, S11 = sA S6 4 (upd (ga S6 4) a1.toNatClampNeg a2) → (Q x10 S11)))))))))
abbrev rmX10_lead : Room := { frames := 2, cells := 0, slots := 0, locals := 42 }
set_option maxHeartbeats 4000000 in
set_option maxRecDepth 100000 in
theorem kX10_lead (l : Launch) (D : va_G) (Y : Nat → ClassId) (A : Nat → Nat) (hI : iM A) (sz : Nat) (S : gS) (a1 : Int32) (a2 : Int32) (Q : Int32 → gS → Prop) (h : qX10_lead S a1 a2 Q) : Met l yX10_lead wsX10_lead rmX10_lead (gPc [.ref (A 0), .int a1, .int a2] sz D vwCl (tY Y) (wM Y A S)) (va_Qi Q (fun S' t => gH D vwCl (tY Y) (wM Y A S') t) (gF A 44 sz)) 0 0 (gF A 44 sz) := by
  refine gMet_i (cc := cX10_lead) (maxL := 4) (by decide +kernel) rfl (Nat.le_of_ble_eq_true rfl) (fun p e s m args below meth c Z H locs hx hb hml hts hown hK hP hS hret ls hl => ?_)
  have hown : s.vm.findClass RX10 = some m.cls := hown
  have hl : lv_has ls 4 [(0, .ref (A 0)), (1, .int a1), (2, .int a2)] := hl
  have hD : ∀ S0 : gS, va_D (gF A 44 s.heap.size) (wM Y A S0) := fun S0 => dM hI S0 (fun k hk => gF_in hk)
  have k0 : ∀ w ∈ u_ws RX10 TX10 54, w ∈ wsX10_lead := by decide +kernel
  have k1 := hts (.fieldLink RX10 135 "CoastWatchModel" "refused" "[I") (by decide +kernel)
  have k2 := hts (.constant RX10 156 2000000001) (by decide +kernel)
  have k3 := hts (.fieldLink RX10 26 "CoastWatchModel" "led" "[I") (by decide +kernel)
  have tJ16 : ∀ (S : gS), qX10_lead_J16 a1 a2 Q S → ∀ (H : Heap) (locs : List Loc) (ls : Array Slot), va_P D vwCl (wM Y A S) H → va_S (gF A 44 s.heap.size) s.heap H locs → lv_has ls 4 [(0, .ref (A 0))] → W p l e rmX10_lead s m args below meth c H locs 0 0 Z (F0 m 16 ls []) := by
    intro  S h
    intro H locs ls hP hS hl
    refine lv_aload_n hx hb dX10_lead_16 rfl (lv_at hl 0 rfl) ?_
    refine va_get (ci := 10) (v := .ref (A 41)) (C := RX10) (T := TX10) (N := 54) hx hb hts k0 hown hK hP 0 (aM0 Y A S) rfl 49 (by decide) k1 (fun _ h9 => h9) rfl dX10_lead_17 ?_
    refine lv_iconst (v := (1 : Int32)) hx hb dX10_lead_20 (by decide) ?_
    refine lv_dup2_11 hx hb dX10_lead_21 rfl rfl ?_
    have v_1 := h.1
    have h := h.2
    refine va_iald hx hb hK hP 41 0 (aM41 Y A S) rfl v_1 dX10_lead_22 ?_
    refine lv_iconst (v := (1 : Int32)) hx hb dX10_lead_23 (by decide) ?_
    refine lv_iadd hx hb dX10_lead_24 ?_
    obtain ⟨S2, eS2⟩ : ∃ z : gS, z = sA S 40 (upd (ga S 40) (1 : Int32).toNatClampNeg ((ga S 40 (1 : Int32).toNatClampNeg) + (1 : Int32))) := ⟨_, rfl⟩
    refine va_iast hx hb hK hP (hD S) hS 41 0 (aM41 Y A S) rfl v_1 dX10_lead_25 (fun H locs hP _ hS => ?_)
    have hP := uM41 eS2 hP
    have h := h S2 eS2
    refine lv_ldc (v := (2000000001 : Int32)) hx hb hown k2 dX10_lead_26 ?_
    exact hret _ _ _ _ _ _ dX10_lead_28 h hP hS
  refine lv_iload_n hx hb dX10_lead_0 rfl (lv_at hl 1 rfl) ?_
  refine gSi (As := [.int a1]) (rest := []) ⟨hx, hb, hml, hown, hts⟩ (kX10_isCove l D Y A hI H.size S a1 _ h) (va_cwS 1 hts gX10_lead_X10_isCove rfl rfl rfl (by decide +kernel) ⟨Nat.le_of_ble_eq_true rfl, Nat.le_of_ble_eq_true rfl⟩) hK hP hS (gF_le hS.1) rfl rfl hl.1 (Nat.le_of_ble_eq_true rfl) dX10_lead_1 ⟨Nat.zero_le _, Nat.zero_le _⟩ ?_
  intro r4 S3 H locs h hP hS
  refine lv_if_eq (tgt := 16) hx hb dX10_lead_4 (by decide) (fun c5 => ?_) (fun c5 => ?_)
  · have h := h.1 c5
    exact tJ16  S3 h _ _ _ hP hS (lv_sub hl [0] rfl)
  · have h := h.2 c5
    refine lv_iload_n hx hb dX10_lead_7 rfl (lv_at hl 2 rfl) ?_
    refine lv_iconst (v := (-1 : Int32)) hx hb dX10_lead_8 (by decide) ?_
    refine lv_iconst (v := (3 : Int32)) hx hb dX10_lead_9 (by decide) ?_
    refine gSi (As := [.int a2, .int (-1 : Int32), .int (3 : Int32)]) (rest := []) ⟨hx, hb, hml, hown, hts⟩ (kX10_in l D Y A hI H.size S3 a2 (-1 : Int32) (3 : Int32) _ h) (va_cwS 3 hts gX10_lead_X10_in rfl rfl rfl (by decide +kernel) ⟨Nat.le_of_ble_eq_true rfl, Nat.le_of_ble_eq_true rfl⟩) hK hP hS (gF_le hS.1) rfl rfl hl.1 (Nat.le_of_ble_eq_true rfl) dX10_lead_10 ⟨Nat.zero_le _, Nat.zero_le _⟩ ?_
    intro r7 S6 H locs h hP hS
    refine lv_if_ne (tgt := 29) hx hb dX10_lead_13 (by decide) (fun c8 => ?_) (fun c8 => ?_)
    · have h := h.2 c8
      refine lv_aload_n hx hb dX10_lead_29 rfl (lv_at hl 0 rfl) ?_
      refine va_get (ci := 10) (v := .ref (A 5)) (C := RX10) (T := TX10) (N := 54) hx hb hts k0 hown hK hP 0 (aM0 Y A S6) rfl 6 (by decide) k3 (fun _ h9 => h9) rfl dX10_lead_30 ?_
      refine lv_iload_n hx hb dX10_lead_33 rfl (lv_at hl 1 rfl) ?_
      have v_9 := h.1
      have h := h.2
      refine va_iald hx hb hK hP 5 0 (aM5 Y A S6) rfl v_9 dX10_lead_34 ?_
      refine lv_topi (fun x10 ex10 => ?_)
      have h := h x10 ex10
      refine lv_istore_n (lv' := [(3, .int x10), (0, .ref (A 0)), (1, .int a1), (2, .int a2)]) hx hb dX10_lead_35 rfl hl (by decide) rfl (fun ls hl => ?_)
      refine lv_aload_n hx hb dX10_lead_36 rfl (lv_at hl 1 rfl) ?_
      refine va_get (ci := 10) (v := .ref (A 5)) (C := RX10) (T := TX10) (N := 54) hx hb hts k0 hown hK hP 0 (aM0 Y A S6) rfl 6 (by decide) k3 (fun _ h9 => h9) rfl dX10_lead_37 ?_
      refine lv_iload_n hx hb dX10_lead_40 rfl (lv_at hl 2 rfl) ?_
      refine lv_iload_n hx hb dX10_lead_41 rfl (lv_at hl 3 rfl) ?_
      obtain ⟨S11, eS11⟩ : ∃ z : gS, z = sA S6 4 (upd (ga S6 4) a1.toNatClampNeg a2) := ⟨_, rfl⟩
      refine va_iast hx hb hK hP (hD S6) hS 5 0 (aM5 Y A S6) rfl v_9 dX10_lead_42 (fun H locs hP _ hS => ?_)
      have hP := uM5 eS11 hP
      have h := h S11 eS11
      refine lv_iload_n hx hb dX10_lead_43 rfl (lv_at hl 0 rfl) ?_
      exact hret _ _ _ _ _ _ dX10_lead_44 h hP hS
    · have h := h.1 c8
      exact tJ16  S6 h _ _ _ hP hS (lv_sub hl [0] rfl)

def qX10_tideAt_J39 (a1 : Int32) (a2 : Int32) (Q : Int32 → gS → Prop) : gS → Prop := fun S =>
  ∀ x1 : Int32, x1 = ((((7 : Int32) * a2) + ((5 : Int32) * a1)) - (((7 : Int32) * a2) + ((5 : Int32) * a1)) / (24 : Int32) * (24 : Int32)) → (((12 : Int32) < x1 → (Q ((24 : Int32) - x1) S)) ∧ (¬ (12 : Int32) < x1 → (Q x1 S)))
def qX10_tideAt (S : gS) (a1 : Int32) (a2 : Int32) (Q : Int32 → gS → Prop) : Prop :=
  vp_in a1 6 ∧ (∀ x4 : Int32, x4 = (ga S 4 a1.toNatClampNeg) → ((x4 < 0 → (qX10_tideAt_J39 a1 a2 Q S)) ∧ (¬ x4 < 0 → (vp_in x4 4 ∧ (((ga S 2 x4.toNatClampNeg) ≤ 0 → (qX10_tideAt_J39 a1 a2 Q S)) ∧ (¬ (ga S 2 x4.toNatClampNeg) ≤ 0 → (¬ (ga S 2 x4.toNatClampNeg) = 0 ∧ (vp_in (((30 : Int32) * x4) + (a2 - a2 / (ga S 2 x4.toNatClampNeg) * (ga S 2 x4.toNatClampNeg))) 120 ∧ (Q (ga S 3 (((30 : Int32) * x4) + (a2 - a2 / (ga S 2 x4.toNatClampNeg) * (ga S 2 x4.toNatClampNeg))).toNatClampNeg) S)))))))))
abbrev rmX10_tideAt : Room := { frames := 0, cells := 0, slots := 0, locals := 0 }
set_option maxHeartbeats 4000000 in
set_option maxRecDepth 100000 in
theorem kX10_tideAt (l : Launch) (D : va_G) (Y : Nat → ClassId) (A : Nat → Nat) (hI : iM A) (sz : Nat) (S : gS) (a1 : Int32) (a2 : Int32) (Q : Int32 → gS → Prop) (h : qX10_tideAt S a1 a2 Q) : Met l yX10_tideAt wsX10_tideAt rmX10_tideAt (gPc [.ref (A 0), .int a1, .int a2] sz D vwCl (tY Y) (wM Y A S)) (va_Qi Q (fun S' t => gH D vwCl (tY Y) (wM Y A S') t) (gF A 44 sz)) 0 0 (gF A 44 sz) := by
  refine gMet_i (cc := cX10_tideAt) (maxL := 5) (by decide +kernel) rfl (Nat.le_of_ble_eq_true rfl) (fun p e s m args below meth c Z H locs hx hb hml hts hown hK hP hS hret ls hl => ?_)
  have hown : s.vm.findClass RX10 = some m.cls := hown
  have hl : lv_has ls 5 [(0, .ref (A 0)), (1, .int a1), (2, .int a2)] := hl
  have hD : ∀ S0 : gS, va_D (gF A 44 s.heap.size) (wM Y A S0) := fun S0 => dM hI S0 (fun k hk => gF_in hk)
  have k0 : ∀ w ∈ u_ws RX10 TX10 54, w ∈ wsX10_tideAt := by decide +kernel
  have k1 := hts (.fieldLink RX10 26 "CoastWatchModel" "led" "[I") (by decide +kernel)
  have k2 := hts (.fieldLink RX10 20 "CoastWatchModel" "rowSize" "[I") (by decide +kernel)
  have k3 := hts (.fieldLink RX10 23 "CoastWatchModel" "row" "[I") (by decide +kernel)
  have tJ39 : ∀ (S : gS), qX10_tideAt_J39 a1 a2 Q S → ∀ (H : Heap) (locs : List Loc) (ls : Array Slot), va_P D vwCl (wM Y A S) H → va_S (gF A 44 s.heap.size) s.heap H locs → lv_has ls 5 [(1, .int a1), (2, .int a2)] → W p l e rmX10_tideAt s m args below meth c H locs 0 0 Z (F0 m 39 ls []) := by
    intro  S h
    intro H locs ls hP hS hl
    refine lv_bipush (v := (7 : Int32)) hx hb dX10_tideAt_39 (by decide) ?_
    refine lv_iload_n hx hb dX10_tideAt_41 rfl (lv_at hl 1 rfl) ?_
    refine lv_imul hx hb dX10_tideAt_42 ?_
    refine lv_iconst (v := (5 : Int32)) hx hb dX10_tideAt_43 (by decide) ?_
    refine lv_iload_n hx hb dX10_tideAt_44 rfl (lv_at hl 0 rfl) ?_
    refine lv_imul hx hb dX10_tideAt_45 ?_
    refine lv_iadd hx hb dX10_tideAt_46 ?_
    refine lv_bipush (v := (24 : Int32)) hx hb dX10_tideAt_47 (by decide) ?_
    refine lv_irem hx hb dX10_tideAt_49 (by decide) ?_
    refine lv_topi (fun x1 ex1 => ?_)
    have h := h x1 ex1
    refine lv_istore (lv' := [(4, .int x1), (1, .int a1), (2, .int a2)]) hx hb dX10_tideAt_50 hl (by decide) rfl (fun ls hl => ?_)
    refine lv_iload hx hb dX10_tideAt_52 (lv_at hl 0 rfl) ?_
    refine lv_bipush (v := (12 : Int32)) hx hb dX10_tideAt_54 (by decide) ?_
    refine lv_icmp_gt (tgt := 64) hx hb dX10_tideAt_56 (by decide) (fun c2 => ?_) (fun c2 => ?_)
    · have h := h.1 c2
      refine lv_bipush (v := (24 : Int32)) hx hb dX10_tideAt_64 (by decide) ?_
      refine lv_iload hx hb dX10_tideAt_66 (lv_at hl 0 rfl) ?_
      refine lv_isub hx hb dX10_tideAt_68 ?_
      exact hret _ _ _ _ _ _ dX10_tideAt_69 h hP hS
    · have h := h.2 c2
      refine lv_iload hx hb dX10_tideAt_59 (lv_at hl 0 rfl) ?_
      refine lv_goto (tgt := 69) hx hb dX10_tideAt_61 (by decide) ?_
      exact hret _ _ _ _ _ _ dX10_tideAt_69 h hP hS
  refine lv_aload_n hx hb dX10_tideAt_0 rfl (lv_at hl 0 rfl) ?_
  refine va_get (ci := 10) (v := .ref (A 5)) (C := RX10) (T := TX10) (N := 54) hx hb hts k0 hown hK hP 0 (aM0 Y A S) rfl 6 (by decide) k1 (fun _ h9 => h9) rfl dX10_tideAt_1 ?_
  refine lv_iload_n hx hb dX10_tideAt_4 rfl (lv_at hl 1 rfl) ?_
  have v_3 := h.1
  have h := h.2
  refine va_iald hx hb hK hP 5 0 (aM5 Y A S) rfl v_3 dX10_tideAt_5 ?_
  refine lv_topi (fun x4 ex4 => ?_)
  have h := h x4 ex4
  refine lv_istore_n (lv' := [(3, .int x4), (0, .ref (A 0)), (1, .int a1), (2, .int a2)]) hx hb dX10_tideAt_6 rfl hl (by decide) rfl (fun ls hl => ?_)
  refine lv_iload_n hx hb dX10_tideAt_7 rfl (lv_at hl 0 rfl) ?_
  refine lv_if_lt (tgt := 39) hx hb dX10_tideAt_8 (by decide) (fun c5 => ?_) (fun c5 => ?_)
  · have h := h.1 c5
    exact tJ39  S h _ _ _ hP hS (lv_sub hl [2, 3] rfl)
  · have h := h.2 c5
    refine lv_aload_n hx hb dX10_tideAt_11 rfl (lv_at hl 1 rfl) ?_
    refine va_get (ci := 10) (v := .ref (A 3)) (C := RX10) (T := TX10) (N := 54) hx hb hts k0 hown hK hP 0 (aM0 Y A S) rfl 4 (by decide) k2 (fun _ h9 => h9) rfl dX10_tideAt_12 ?_
    refine lv_iload_n hx hb dX10_tideAt_15 rfl (lv_at hl 0 rfl) ?_
    have v_6 := h.1
    have h := h.2
    refine va_iald hx hb hK hP 3 0 (aM3 Y A S) rfl v_6 dX10_tideAt_16 ?_
    refine lv_if_le (tgt := 39) hx hb dX10_tideAt_17 (by decide) (fun c7 => ?_) (fun c7 => ?_)
    · have h := h.1 c7
      exact tJ39  S h _ _ _ hP hS (lv_sub hl [2, 3] rfl)
    · have h := h.2 c7
      refine lv_aload_n hx hb dX10_tideAt_20 rfl (lv_at hl 1 rfl) ?_
      refine va_get (ci := 10) (v := .ref (A 4)) (C := RX10) (T := TX10) (N := 54) hx hb hts k0 hown hK hP 0 (aM0 Y A S) rfl 5 (by decide) k3 (fun _ h9 => h9) rfl dX10_tideAt_21 ?_
      refine lv_bipush (v := (30 : Int32)) hx hb dX10_tideAt_24 (by decide) ?_
      refine lv_iload_n hx hb dX10_tideAt_26 rfl (lv_at hl 0 rfl) ?_
      refine lv_imul hx hb dX10_tideAt_27 ?_
      refine lv_iload_n hx hb dX10_tideAt_28 rfl (lv_at hl 3 rfl) ?_
      refine lv_aload_n hx hb dX10_tideAt_29 rfl (lv_at hl 1 rfl) ?_
      refine va_get (ci := 10) (v := .ref (A 3)) (C := RX10) (T := TX10) (N := 54) hx hb hts k0 hown hK hP 0 (aM0 Y A S) rfl 4 (by decide) k2 (fun _ h9 => h9) rfl dX10_tideAt_30 ?_
      refine lv_iload_n hx hb dX10_tideAt_33 rfl (lv_at hl 0 rfl) ?_
      refine va_iald hx hb hK hP 3 0 (aM3 Y A S) rfl v_6 dX10_tideAt_34 ?_
      have n_8 := h.1
      have h := h.2
      refine lv_irem hx hb dX10_tideAt_35 n_8 ?_
      refine lv_iadd hx hb dX10_tideAt_36 ?_
      have v_9 := h.1
      have h := h.2
      refine va_iald hx hb hK hP 4 0 (aM4 Y A S) rfl v_9 dX10_tideAt_37 ?_
      exact hret _ _ _ _ _ _ dX10_tideAt_38 h hP hS

def qX10_tide (S : gS) (a1 : Int32) (a2 : Int32) (Q : Int32 → gS → Prop) : Prop :=
  qX10_isCove S a1 (fun r2 S1 => (r2 = 0 → (qX10_refuse S1 (-1 : Int32) (fun r13 S12 => Q r13 S12))) ∧ (¬ r2 = 0 → ((0 ≤ a2 → ((a2 ≤ (1000 : Int32) → (qX10_tideAt S1 a1 a2 (fun r7 S6 => Q r7 S6))) ∧ (¬ a2 ≤ (1000 : Int32) → (qX10_refuse S1 (-6 : Int32) (fun r9 S8 => Q r9 S8))))) ∧ (¬ 0 ≤ a2 → (qX10_refuse S1 (-4 : Int32) (fun r11 S10 => Q r11 S10))))))
abbrev rmX10_tide : Room := { frames := 2, cells := 0, slots := 0, locals := 42 }
set_option maxHeartbeats 4000000 in
set_option maxRecDepth 100000 in
theorem kX10_tide (l : Launch) (D : va_G) (Y : Nat → ClassId) (A : Nat → Nat) (hI : iM A) (sz : Nat) (S : gS) (a1 : Int32) (a2 : Int32) (Q : Int32 → gS → Prop) (h : qX10_tide S a1 a2 Q) : Met l yX10_tide wsX10_tide rmX10_tide (gPc [.ref (A 0), .int a1, .int a2] sz D vwCl (tY Y) (wM Y A S)) (va_Qi Q (fun S' t => gH D vwCl (tY Y) (wM Y A S') t) (gF A 44 sz)) 0 0 (gF A 44 sz) := by
  refine gMet_i (cc := cX10_tide) (maxL := 3) (by decide +kernel) rfl (Nat.le_of_ble_eq_true rfl) (fun p e s m args below meth c Z H locs hx hb hml hts hown hK hP hS hret ls hl => ?_)
  have hown : s.vm.findClass RX10 = some m.cls := hown
  have hl : lv_has ls 3 [(0, .ref (A 0)), (1, .int a1), (2, .int a2)] := hl
  have hD : ∀ S0 : gS, va_D (gF A 44 s.heap.size) (wM Y A S0) := fun S0 => dM hI S0 (fun k hk => gF_in hk)
  refine lv_iload_n hx hb dX10_tide_0 rfl (lv_at hl 1 rfl) ?_
  refine gSi (As := [.int a1]) (rest := []) ⟨hx, hb, hml, hown, hts⟩ (kX10_isCove l D Y A hI H.size S a1 _ h) (va_cwS 1 hts gX10_tide_X10_isCove rfl rfl rfl (by decide +kernel) ⟨Nat.le_of_ble_eq_true rfl, Nat.le_of_ble_eq_true rfl⟩) hK hP hS (gF_le hS.1) rfl rfl hl.1 (Nat.le_of_ble_eq_true rfl) dX10_tide_1 ⟨Nat.zero_le _, Nat.zero_le _⟩ ?_
  intro r2 S1 H locs h hP hS
  refine lv_if_ne (tgt := 13) hx hb dX10_tide_4 (by decide) (fun c3 => ?_) (fun c3 => ?_)
  · have h := h.2 c3
    refine lv_iload_n hx hb dX10_tide_13 rfl (lv_at hl 2 rfl) ?_
    refine lv_if_ge (tgt := 24) hx hb dX10_tide_14 (by decide) (fun c4 => ?_) (fun c4 => ?_)
    · have h := h.1 c4
      refine lv_iload_n hx hb dX10_tide_24 rfl (lv_at hl 2 rfl) ?_
      refine lv_sipush (v := (1000 : Int32)) hx hb dX10_tide_25 (by decide) ?_
      refine lv_icmp_le (tgt := 40) hx hb dX10_tide_28 (by decide) (fun c5 => ?_) (fun c5 => ?_)
      · have h := h.1 c5
        refine lv_aload_n hx hb dX10_tide_40 rfl (lv_at hl 0 rfl) ?_
        refine lv_iload_n hx hb dX10_tide_41 rfl (lv_at hl 1 rfl) ?_
        refine lv_iload_n hx hb dX10_tide_42 rfl (lv_at hl 2 rfl) ?_
        refine gVi (As := [.int a1, .int a2]) (rest := []) ⟨hx, hb, hml, hown, hts⟩ (kX10_tideAt l D Y A hI H.size S1 a1 a2 _ h) (cwV 2 hts gX10_tide_X10_tideAt rfl rfl rfl (by decide +kernel) ⟨Nat.le_of_ble_eq_true rfl, Nat.le_of_ble_eq_true rfl⟩) hK hP hS (gF_le hS.1) (aM0 Y A S1) (show vwCl[10]? = some (RX10, TX10, 54) from rfl) rfl rfl hl.1 (Nat.le_of_ble_eq_true rfl) dX10_tide_43 ⟨Nat.zero_le _, Nat.zero_le _⟩ ?_
        intro r7 S6 H locs h hP hS
        exact hret _ _ _ _ _ _ dX10_tide_46 h hP hS
      · have h := h.2 c5
        refine lv_aload_n hx hb dX10_tide_31 rfl (lv_at hl 0 rfl) ?_
        refine lv_bipush (v := (-6 : Int32)) hx hb dX10_tide_32 (by decide) ?_
        refine gVi (As := [.int (-6 : Int32)]) (rest := []) ⟨hx, hb, hml, hown, hts⟩ (kX10_refuse l D Y A hI H.size S1 (-6 : Int32) _ h) (cwV 1 hts gX10_tide_X10_refuse rfl rfl rfl (by decide +kernel) ⟨Nat.le_of_ble_eq_true rfl, Nat.le_of_ble_eq_true rfl⟩) hK hP hS (gF_le hS.1) (aM0 Y A S1) (show vwCl[10]? = some (RX10, TX10, 54) from rfl) rfl rfl hl.1 (Nat.le_of_ble_eq_true rfl) dX10_tide_34 ⟨Nat.zero_le _, Nat.zero_le _⟩ ?_
        intro r9 S8 H locs h hP hS
        refine lv_goto (tgt := 46) hx hb dX10_tide_37 (by decide) ?_
        exact hret _ _ _ _ _ _ dX10_tide_46 h hP hS
    · have h := h.2 c4
      refine lv_aload_n hx hb dX10_tide_17 rfl (lv_at hl 0 rfl) ?_
      refine lv_bipush (v := (-4 : Int32)) hx hb dX10_tide_18 (by decide) ?_
      refine gVi (As := [.int (-4 : Int32)]) (rest := []) ⟨hx, hb, hml, hown, hts⟩ (kX10_refuse l D Y A hI H.size S1 (-4 : Int32) _ h) (cwV 1 hts gX10_tide_X10_refuse rfl rfl rfl (by decide +kernel) ⟨Nat.le_of_ble_eq_true rfl, Nat.le_of_ble_eq_true rfl⟩) hK hP hS (gF_le hS.1) (aM0 Y A S1) (show vwCl[10]? = some (RX10, TX10, 54) from rfl) rfl rfl hl.1 (Nat.le_of_ble_eq_true rfl) dX10_tide_20 ⟨Nat.zero_le _, Nat.zero_le _⟩ ?_
      intro r11 S10 H locs h hP hS
      exact hret _ _ _ _ _ _ dX10_tide_23 h hP hS
  · have h := h.1 c3
    refine lv_aload_n hx hb dX10_tide_7 rfl (lv_at hl 0 rfl) ?_
    refine lv_iconst (v := (-1 : Int32)) hx hb dX10_tide_8 (by decide) ?_
    refine gVi (As := [.int (-1 : Int32)]) (rest := []) ⟨hx, hb, hml, hown, hts⟩ (kX10_refuse l D Y A hI H.size S1 (-1 : Int32) _ h) (cwV 1 hts gX10_tide_X10_refuse rfl rfl rfl (by decide +kernel) ⟨Nat.le_of_ble_eq_true rfl, Nat.le_of_ble_eq_true rfl⟩) hK hP hS (gF_le hS.1) (aM0 Y A S1) (show vwCl[10]? = some (RX10, TX10, 54) from rfl) rfl rfl hl.1 (Nat.le_of_ble_eq_true rfl) dX10_tide_9 ⟨Nat.zero_le _, Nat.zero_le _⟩ ?_
    intro r13 S12 H locs h hP hS
    exact hret _ _ _ _ _ _ dX10_tide_12 h hP hS

def qX10_lightAt (S : gS) (a0 : Int32) (Q : Int32 → gS → Prop) : Prop :=
  ∀ x1 : Int32, x1 = (a0 - a0 / (30 : Int32) * (30 : Int32)) → (((15 : Int32) ≤ x1 → (Q (x1 - (15 : Int32)) S)) ∧ (¬ (15 : Int32) ≤ x1 → (Q ((15 : Int32) - x1) S)))
abbrev rmX10_lightAt : Room := { frames := 0, cells := 0, slots := 0, locals := 0 }
set_option maxHeartbeats 4000000 in
set_option maxRecDepth 100000 in
theorem kX10_lightAt (l : Launch) (D : va_G) (Y : Nat → ClassId) (A : Nat → Nat) (hI : iM A) (sz : Nat) (S : gS) (a0 : Int32) (Q : Int32 → gS → Prop) (h : qX10_lightAt S a0 Q) : Met l yX10_lightAt wsX10_lightAt rmX10_lightAt (gPc [.int a0] sz D vwCl (tY Y) (wM Y A S)) (va_Qi Q (fun S' t => gH D vwCl (tY Y) (wM Y A S') t) (gF A 44 sz)) 0 0 (gF A 44 sz) := by
  refine gMet_i (cc := cX10_lightAt) (maxL := 2) (by decide +kernel) rfl (Nat.le_of_ble_eq_true rfl) (fun p e s m args below meth c Z H locs hx hb hml hts hown hK hP hS hret ls hl => ?_)
  have hown : s.vm.findClass RX10 = some m.cls := hown
  have hl : lv_has ls 2 [(0, .int a0)] := hl
  have hD : ∀ S0 : gS, va_D (gF A 44 s.heap.size) (wM Y A S0) := fun S0 => dM hI S0 (fun k hk => gF_in hk)
  refine lv_iload_n hx hb dX10_lightAt_0 rfl (lv_at hl 0 rfl) ?_
  refine lv_bipush (v := (30 : Int32)) hx hb dX10_lightAt_1 (by decide) ?_
  refine lv_irem hx hb dX10_lightAt_3 (by decide) ?_
  refine lv_topi (fun x1 ex1 => ?_)
  have h := h x1 ex1
  refine lv_istore_n (lv' := [(1, .int x1), (0, .int a0)]) hx hb dX10_lightAt_4 rfl hl (by decide) rfl (fun ls hl => ?_)
  refine lv_iload_n hx hb dX10_lightAt_5 rfl (lv_at hl 0 rfl) ?_
  refine lv_bipush (v := (15 : Int32)) hx hb dX10_lightAt_6 (by decide) ?_
  refine lv_icmp_ge (tgt := 18) hx hb dX10_lightAt_8 (by decide) (fun c2 => ?_) (fun c2 => ?_)
  · have h := h.1 c2
    refine lv_iload_n hx hb dX10_lightAt_18 rfl (lv_at hl 0 rfl) ?_
    refine lv_bipush (v := (15 : Int32)) hx hb dX10_lightAt_19 (by decide) ?_
    refine lv_isub hx hb dX10_lightAt_21 ?_
    exact hret _ _ _ _ _ _ dX10_lightAt_22 h hP hS
  · have h := h.2 c2
    refine lv_bipush (v := (15 : Int32)) hx hb dX10_lightAt_11 (by decide) ?_
    refine lv_iload_n hx hb dX10_lightAt_13 rfl (lv_at hl 0 rfl) ?_
    refine lv_isub hx hb dX10_lightAt_14 ?_
    refine lv_goto (tgt := 22) hx hb dX10_lightAt_15 (by decide) ?_
    exact hret _ _ _ _ _ _ dX10_lightAt_22 h hP hS

def qX10_boat (S : gS) (a1 : Int32) (a2 : Int32) (a3 : Int32) (a4 : Int32) (Q : Int32 → gS → Prop) : Prop :=
  (a1 < 0 → (qX10_refuse S (-4 : Int32) (fun r3 S2 => Q r3 S2))) ∧ (¬ a1 < 0 → ((a2 < (1 : Int32) → (qX10_refuse S (-4 : Int32) (fun r6 S5 => Q r6 S5))) ∧ (¬ a2 < (1 : Int32) → ((a3 < 0 → (qX10_refuse S (-4 : Int32) (fun r9 S8 => Q r9 S8))) ∧ (¬ a3 < 0 → ((0 ≤ a4 → (((20 : Int32) < a1 → (qX10_refuse S (-6 : Int32) (fun r13 S12 => Q r13 S12))) ∧ (¬ (20 : Int32) < a1 → (((60 : Int32) < a2 → (qX10_refuse S (-6 : Int32) (fun r16 S15 => Q r16 S15))) ∧ (¬ (60 : Int32) < a2 → (((99 : Int32) < a3 → (qX10_refuse S (-6 : Int32) (fun r19 S18 => Q r19 S18))) ∧ (¬ (99 : Int32) < a3 → (((15 : Int32) < a4 → (qX10_refuse S (-6 : Int32) (fun r22 S21 => Q r22 S21))) ∧ (¬ (15 : Int32) < a4 → (((gi S 2) = (8 : Int32) → (qX10_refuse S (-6 : Int32) (fun r34 S33 => Q r34 S33))) ∧ (¬ (gi S 2) = (8 : Int32) → (vp_in (gi S 2) 8 ∧ (∀ S24 : gS, S24 = sA S 5 (upd (ga S 5) (gi S 2).toNatClampNeg a1) → (vp_in (gi S24 2) 8 ∧ (∀ S26 : gS, S26 = sA S24 6 (upd (ga S24 6) (gi S24 2).toNatClampNeg a2) → (vp_in (gi S26 2) 8 ∧ (∀ S28 : gS, S28 = sA S26 7 (upd (ga S26 7) (gi S26 2).toNatClampNeg a3) → (vp_in (gi S28 2) 8 ∧ (∀ S30 : gS, S30 = sA S28 8 (upd (ga S28 8) (gi S28 2).toNatClampNeg a4) → (∀ S32 : gS, S32 = sI S30 2 ((gi S30 2) + (1 : Int32)) → (Q ((gi S32 2) - (1 : Int32)) S32))))))))))))))))))))) ∧ (¬ 0 ≤ a4 → (qX10_refuse S (-4 : Int32) (fun r36 S35 => Q r36 S35)))))))))
abbrev rmX10_boat : Room := { frames := 1, cells := 0, slots := 0, locals := 21 }
set_option maxHeartbeats 4000000 in
set_option maxRecDepth 100000 in
theorem kX10_boat (l : Launch) (D : va_G) (Y : Nat → ClassId) (A : Nat → Nat) (hI : iM A) (sz : Nat) (S : gS) (a1 : Int32) (a2 : Int32) (a3 : Int32) (a4 : Int32) (Q : Int32 → gS → Prop) (h : qX10_boat S a1 a2 a3 a4 Q) : Met l yX10_boat wsX10_boat rmX10_boat (gPc [.ref (A 0), .int a1, .int a2, .int a3, .int a4] sz D vwCl (tY Y) (wM Y A S)) (va_Qi Q (fun S' t => gH D vwCl (tY Y) (wM Y A S') t) (gF A 44 sz)) 0 0 (gF A 44 sz) := by
  refine gMet_i (cc := cX10_boat) (maxL := 5) (by decide +kernel) rfl (Nat.le_of_ble_eq_true rfl) (fun p e s m args below meth c Z H locs hx hb hml hts hown hK hP hS hret ls hl => ?_)
  have hown : s.vm.findClass RX10 = some m.cls := hown
  have hl : lv_has ls 5 [(0, .ref (A 0)), (1, .int a1), (2, .int a2), (3, .int a3), (4, .int a4)] := hl
  have hD : ∀ S0 : gS, va_D (gF A 44 s.heap.size) (wM Y A S0) := fun S0 => dM hI S0 (fun k hk => gF_in hk)
  have k0 : ∀ w ∈ u_ws RX10 TX10 54, w ∈ wsX10_boat := by decide +kernel
  have k1 := hts (.fieldLink RX10 161 "CoastWatchModel" "boats" "I") (by decide +kernel)
  have k2 := hts (.fieldLink RX10 29 "CoastWatchModel" "draught" "[I") (by decide +kernel)
  have k3 := hts (.fieldLink RX10 32 "CoastWatchModel" "hold" "[I") (by decide +kernel)
  have k4 := hts (.fieldLink RX10 35 "CoastWatchModel" "strength" "[I") (by decide +kernel)
  have k5 := hts (.fieldLink RX10 38 "CoastWatchModel" "bold" "[I") (by decide +kernel)
  refine lv_iload_n hx hb dX10_boat_0 rfl (lv_at hl 1 rfl) ?_
  refine lv_if_lt (tgt := 18) hx hb dX10_boat_1 (by decide) (fun c1 => ?_) (fun c1 => ?_)
  · have h := h.1 c1
    refine lv_aload_n hx hb dX10_boat_18 rfl (lv_at hl 0 rfl) ?_
    refine lv_bipush (v := (-4 : Int32)) hx hb dX10_boat_19 (by decide) ?_
    refine gVi (As := [.int (-4 : Int32)]) (rest := []) ⟨hx, hb, hml, hown, hts⟩ (kX10_refuse l D Y A hI H.size S (-4 : Int32) _ h) (cwV 1 hts gX10_boat_X10_refuse rfl rfl rfl (by decide +kernel) ⟨Nat.le_of_ble_eq_true rfl, Nat.le_of_ble_eq_true rfl⟩) hK hP hS (gF_le hS.1) (aM0 Y A S) (show vwCl[10]? = some (RX10, TX10, 54) from rfl) rfl rfl hl.1 (Nat.le_of_ble_eq_true rfl) dX10_boat_21 ⟨Nat.zero_le _, Nat.zero_le _⟩ ?_
    intro r3 S2 H locs h hP hS
    exact hret _ _ _ _ _ _ dX10_boat_24 h hP hS
  · have h := h.2 c1
    refine lv_iload_n hx hb dX10_boat_4 rfl (lv_at hl 2 rfl) ?_
    refine lv_iconst (v := (1 : Int32)) hx hb dX10_boat_5 (by decide) ?_
    refine lv_icmp_lt (tgt := 18) hx hb dX10_boat_6 (by decide) (fun c4 => ?_) (fun c4 => ?_)
    · have h := h.1 c4
      refine lv_aload_n hx hb dX10_boat_18 rfl (lv_at hl 0 rfl) ?_
      refine lv_bipush (v := (-4 : Int32)) hx hb dX10_boat_19 (by decide) ?_
      refine gVi (As := [.int (-4 : Int32)]) (rest := []) ⟨hx, hb, hml, hown, hts⟩ (kX10_refuse l D Y A hI H.size S (-4 : Int32) _ h) (cwV 1 hts gX10_boat_X10_refuse rfl rfl rfl (by decide +kernel) ⟨Nat.le_of_ble_eq_true rfl, Nat.le_of_ble_eq_true rfl⟩) hK hP hS (gF_le hS.1) (aM0 Y A S) (show vwCl[10]? = some (RX10, TX10, 54) from rfl) rfl rfl hl.1 (Nat.le_of_ble_eq_true rfl) dX10_boat_21 ⟨Nat.zero_le _, Nat.zero_le _⟩ ?_
      intro r6 S5 H locs h hP hS
      exact hret _ _ _ _ _ _ dX10_boat_24 h hP hS
    · have h := h.2 c4
      refine lv_iload_n hx hb dX10_boat_9 rfl (lv_at hl 3 rfl) ?_
      refine lv_if_lt (tgt := 18) hx hb dX10_boat_10 (by decide) (fun c7 => ?_) (fun c7 => ?_)
      · have h := h.1 c7
        refine lv_aload_n hx hb dX10_boat_18 rfl (lv_at hl 0 rfl) ?_
        refine lv_bipush (v := (-4 : Int32)) hx hb dX10_boat_19 (by decide) ?_
        refine gVi (As := [.int (-4 : Int32)]) (rest := []) ⟨hx, hb, hml, hown, hts⟩ (kX10_refuse l D Y A hI H.size S (-4 : Int32) _ h) (cwV 1 hts gX10_boat_X10_refuse rfl rfl rfl (by decide +kernel) ⟨Nat.le_of_ble_eq_true rfl, Nat.le_of_ble_eq_true rfl⟩) hK hP hS (gF_le hS.1) (aM0 Y A S) (show vwCl[10]? = some (RX10, TX10, 54) from rfl) rfl rfl hl.1 (Nat.le_of_ble_eq_true rfl) dX10_boat_21 ⟨Nat.zero_le _, Nat.zero_le _⟩ ?_
        intro r9 S8 H locs h hP hS
        exact hret _ _ _ _ _ _ dX10_boat_24 h hP hS
      · have h := h.2 c7
        refine lv_iload hx hb dX10_boat_13 (lv_at hl 4 rfl) ?_
        refine lv_if_ge (tgt := 25) hx hb dX10_boat_15 (by decide) (fun c10 => ?_) (fun c10 => ?_)
        · have h := h.1 c10
          refine lv_iload_n hx hb dX10_boat_25 rfl (lv_at hl 1 rfl) ?_
          refine lv_bipush (v := (20 : Int32)) hx hb dX10_boat_26 (by decide) ?_
          refine lv_icmp_gt (tgt := 59) hx hb dX10_boat_28 (by decide) (fun c11 => ?_) (fun c11 => ?_)
          · have h := h.1 c11
            refine lv_aload_n hx hb dX10_boat_59 rfl (lv_at hl 0 rfl) ?_
            refine lv_bipush (v := (-6 : Int32)) hx hb dX10_boat_60 (by decide) ?_
            refine gVi (As := [.int (-6 : Int32)]) (rest := []) ⟨hx, hb, hml, hown, hts⟩ (kX10_refuse l D Y A hI H.size S (-6 : Int32) _ h) (cwV 1 hts gX10_boat_X10_refuse rfl rfl rfl (by decide +kernel) ⟨Nat.le_of_ble_eq_true rfl, Nat.le_of_ble_eq_true rfl⟩) hK hP hS (gF_le hS.1) (aM0 Y A S) (show vwCl[10]? = some (RX10, TX10, 54) from rfl) rfl rfl hl.1 (Nat.le_of_ble_eq_true rfl) dX10_boat_62 ⟨Nat.zero_le _, Nat.zero_le _⟩ ?_
            intro r13 S12 H locs h hP hS
            exact hret _ _ _ _ _ _ dX10_boat_65 h hP hS
          · have h := h.2 c11
            refine lv_iload_n hx hb dX10_boat_31 rfl (lv_at hl 2 rfl) ?_
            refine lv_bipush (v := (60 : Int32)) hx hb dX10_boat_32 (by decide) ?_
            refine lv_icmp_gt (tgt := 59) hx hb dX10_boat_34 (by decide) (fun c14 => ?_) (fun c14 => ?_)
            · have h := h.1 c14
              refine lv_aload_n hx hb dX10_boat_59 rfl (lv_at hl 0 rfl) ?_
              refine lv_bipush (v := (-6 : Int32)) hx hb dX10_boat_60 (by decide) ?_
              refine gVi (As := [.int (-6 : Int32)]) (rest := []) ⟨hx, hb, hml, hown, hts⟩ (kX10_refuse l D Y A hI H.size S (-6 : Int32) _ h) (cwV 1 hts gX10_boat_X10_refuse rfl rfl rfl (by decide +kernel) ⟨Nat.le_of_ble_eq_true rfl, Nat.le_of_ble_eq_true rfl⟩) hK hP hS (gF_le hS.1) (aM0 Y A S) (show vwCl[10]? = some (RX10, TX10, 54) from rfl) rfl rfl hl.1 (Nat.le_of_ble_eq_true rfl) dX10_boat_62 ⟨Nat.zero_le _, Nat.zero_le _⟩ ?_
              intro r16 S15 H locs h hP hS
              exact hret _ _ _ _ _ _ dX10_boat_65 h hP hS
            · have h := h.2 c14
              refine lv_iload_n hx hb dX10_boat_37 rfl (lv_at hl 3 rfl) ?_
              refine lv_bipush (v := (99 : Int32)) hx hb dX10_boat_38 (by decide) ?_
              refine lv_icmp_gt (tgt := 59) hx hb dX10_boat_40 (by decide) (fun c17 => ?_) (fun c17 => ?_)
              · have h := h.1 c17
                refine lv_aload_n hx hb dX10_boat_59 rfl (lv_at hl 0 rfl) ?_
                refine lv_bipush (v := (-6 : Int32)) hx hb dX10_boat_60 (by decide) ?_
                refine gVi (As := [.int (-6 : Int32)]) (rest := []) ⟨hx, hb, hml, hown, hts⟩ (kX10_refuse l D Y A hI H.size S (-6 : Int32) _ h) (cwV 1 hts gX10_boat_X10_refuse rfl rfl rfl (by decide +kernel) ⟨Nat.le_of_ble_eq_true rfl, Nat.le_of_ble_eq_true rfl⟩) hK hP hS (gF_le hS.1) (aM0 Y A S) (show vwCl[10]? = some (RX10, TX10, 54) from rfl) rfl rfl hl.1 (Nat.le_of_ble_eq_true rfl) dX10_boat_62 ⟨Nat.zero_le _, Nat.zero_le _⟩ ?_
                intro r19 S18 H locs h hP hS
                exact hret _ _ _ _ _ _ dX10_boat_65 h hP hS
              · have h := h.2 c17
                refine lv_iload hx hb dX10_boat_43 (lv_at hl 4 rfl) ?_
                refine lv_bipush (v := (15 : Int32)) hx hb dX10_boat_45 (by decide) ?_
                refine lv_icmp_gt (tgt := 59) hx hb dX10_boat_47 (by decide) (fun c20 => ?_) (fun c20 => ?_)
                · have h := h.1 c20
                  refine lv_aload_n hx hb dX10_boat_59 rfl (lv_at hl 0 rfl) ?_
                  refine lv_bipush (v := (-6 : Int32)) hx hb dX10_boat_60 (by decide) ?_
                  refine gVi (As := [.int (-6 : Int32)]) (rest := []) ⟨hx, hb, hml, hown, hts⟩ (kX10_refuse l D Y A hI H.size S (-6 : Int32) _ h) (cwV 1 hts gX10_boat_X10_refuse rfl rfl rfl (by decide +kernel) ⟨Nat.le_of_ble_eq_true rfl, Nat.le_of_ble_eq_true rfl⟩) hK hP hS (gF_le hS.1) (aM0 Y A S) (show vwCl[10]? = some (RX10, TX10, 54) from rfl) rfl rfl hl.1 (Nat.le_of_ble_eq_true rfl) dX10_boat_62 ⟨Nat.zero_le _, Nat.zero_le _⟩ ?_
                  intro r22 S21 H locs h hP hS
                  exact hret _ _ _ _ _ _ dX10_boat_65 h hP hS
                · have h := h.2 c20
                  refine lv_aload_n hx hb dX10_boat_50 rfl (lv_at hl 0 rfl) ?_
                  refine va_get (ci := 10) (v := .int (gi S 2)) (C := RX10) (T := TX10) (N := 54) hx hb hts k0 hown hK hP 0 (aM0 Y A S) rfl 7 (by decide) k1 (fun _ h9 => h9) rfl dX10_boat_51 ?_
                  refine lv_bipush (v := (8 : Int32)) hx hb dX10_boat_54 (by decide) ?_
                  refine lv_icmp_ne (tgt := 66) hx hb dX10_boat_56 (by decide) (fun c23 => ?_) (fun c23 => ?_)
                  · have h := h.2 c23
                    refine lv_aload_n hx hb dX10_boat_66 rfl (lv_at hl 0 rfl) ?_
                    refine va_get (ci := 10) (v := .ref (A 6)) (C := RX10) (T := TX10) (N := 54) hx hb hts k0 hown hK hP 0 (aM0 Y A S) rfl 8 (by decide) k2 (fun _ h9 => h9) rfl dX10_boat_67 ?_
                    refine lv_aload_n hx hb dX10_boat_70 rfl (lv_at hl 0 rfl) ?_
                    refine va_get (ci := 10) (v := .int (gi S 2)) (C := RX10) (T := TX10) (N := 54) hx hb hts k0 hown hK hP 0 (aM0 Y A S) rfl 7 (by decide) k1 (fun _ h9 => h9) rfl dX10_boat_71 ?_
                    refine lv_iload_n hx hb dX10_boat_74 rfl (lv_at hl 1 rfl) ?_
                    have v_25 := h.1
                    have h := h.2
                    obtain ⟨S24, eS24⟩ : ∃ z : gS, z = sA S 5 (upd (ga S 5) (gi S 2).toNatClampNeg a1) := ⟨_, rfl⟩
                    refine va_iast hx hb hK hP (hD S) hS 6 0 (aM6 Y A S) rfl v_25 dX10_boat_75 (fun H locs hP _ hS => ?_)
                    have hP := uM6 eS24 hP
                    have h := h S24 eS24
                    refine lv_aload_n hx hb dX10_boat_76 rfl (lv_at hl 0 rfl) ?_
                    refine va_get (ci := 10) (v := .ref (A 7)) (C := RX10) (T := TX10) (N := 54) hx hb hts k0 hown hK hP 0 (aM0 Y A S24) rfl 9 (by decide) k3 (fun _ h9 => h9) rfl dX10_boat_77 ?_
                    refine lv_aload_n hx hb dX10_boat_80 rfl (lv_at hl 0 rfl) ?_
                    refine va_get (ci := 10) (v := .int (gi S24 2)) (C := RX10) (T := TX10) (N := 54) hx hb hts k0 hown hK hP 0 (aM0 Y A S24) rfl 7 (by decide) k1 (fun _ h9 => h9) rfl dX10_boat_81 ?_
                    refine lv_iload_n hx hb dX10_boat_84 rfl (lv_at hl 2 rfl) ?_
                    have v_27 := h.1
                    have h := h.2
                    obtain ⟨S26, eS26⟩ : ∃ z : gS, z = sA S24 6 (upd (ga S24 6) (gi S24 2).toNatClampNeg a2) := ⟨_, rfl⟩
                    refine va_iast hx hb hK hP (hD S24) hS 7 0 (aM7 Y A S24) rfl v_27 dX10_boat_85 (fun H locs hP _ hS => ?_)
                    have hP := uM7 eS26 hP
                    have h := h S26 eS26
                    refine lv_aload_n hx hb dX10_boat_86 rfl (lv_at hl 0 rfl) ?_
                    refine va_get (ci := 10) (v := .ref (A 8)) (C := RX10) (T := TX10) (N := 54) hx hb hts k0 hown hK hP 0 (aM0 Y A S26) rfl 10 (by decide) k4 (fun _ h9 => h9) rfl dX10_boat_87 ?_
                    refine lv_aload_n hx hb dX10_boat_90 rfl (lv_at hl 0 rfl) ?_
                    refine va_get (ci := 10) (v := .int (gi S26 2)) (C := RX10) (T := TX10) (N := 54) hx hb hts k0 hown hK hP 0 (aM0 Y A S26) rfl 7 (by decide) k1 (fun _ h9 => h9) rfl dX10_boat_91 ?_
                    refine lv_iload_n hx hb dX10_boat_94 rfl (lv_at hl 3 rfl) ?_
                    have v_29 := h.1
                    have h := h.2
                    obtain ⟨S28, eS28⟩ : ∃ z : gS, z = sA S26 7 (upd (ga S26 7) (gi S26 2).toNatClampNeg a3) := ⟨_, rfl⟩
                    refine va_iast hx hb hK hP (hD S26) hS 8 0 (aM8 Y A S26) rfl v_29 dX10_boat_95 (fun H locs hP _ hS => ?_)
                    have hP := uM8 eS28 hP
                    have h := h S28 eS28
                    refine lv_aload_n hx hb dX10_boat_96 rfl (lv_at hl 0 rfl) ?_
                    refine va_get (ci := 10) (v := .ref (A 9)) (C := RX10) (T := TX10) (N := 54) hx hb hts k0 hown hK hP 0 (aM0 Y A S28) rfl 11 (by decide) k5 (fun _ h9 => h9) rfl dX10_boat_97 ?_
                    refine lv_aload_n hx hb dX10_boat_100 rfl (lv_at hl 0 rfl) ?_
                    refine va_get (ci := 10) (v := .int (gi S28 2)) (C := RX10) (T := TX10) (N := 54) hx hb hts k0 hown hK hP 0 (aM0 Y A S28) rfl 7 (by decide) k1 (fun _ h9 => h9) rfl dX10_boat_101 ?_
                    refine lv_iload hx hb dX10_boat_104 (lv_at hl 4 rfl) ?_
                    have v_31 := h.1
                    have h := h.2
                    obtain ⟨S30, eS30⟩ : ∃ z : gS, z = sA S28 8 (upd (ga S28 8) (gi S28 2).toNatClampNeg a4) := ⟨_, rfl⟩
                    refine va_iast hx hb hK hP (hD S28) hS 9 0 (aM9 Y A S28) rfl v_31 dX10_boat_106 (fun H locs hP _ hS => ?_)
                    have hP := uM9 eS30 hP
                    have h := h S30 eS30
                    refine lv_aload_n hx hb dX10_boat_107 rfl (lv_at hl 0 rfl) ?_
                    refine lv_dup hx hb dX10_boat_108 rfl ?_
                    refine va_get (ci := 10) (v := .int (gi S30 2)) (C := RX10) (T := TX10) (N := 54) hx hb hts k0 hown hK hP 0 (aM0 Y A S30) rfl 7 (by decide) k1 (fun _ h9 => h9) rfl dX10_boat_109 ?_
                    refine lv_iconst (v := (1 : Int32)) hx hb dX10_boat_112 (by decide) ?_
                    refine lv_iadd hx hb dX10_boat_113 ?_
                    obtain ⟨S32, eS32⟩ : ∃ z : gS, z = sI S30 2 ((gi S30 2) + (1 : Int32)) := ⟨_, rfl⟩
                    have h := h S32 eS32
                    refine va_put (ci := 10) (v := .int ((gi S30 2) + (1 : Int32))) (ty := .int) (C := RX10) (T := TX10) (N := 54) hx hb hts k0 tyX10 tyX10_ok nmX10 hown hK hP (hD S30) hS 0 (aM0 Y A S30) rfl 7 (by decide) k1 (fun _ h9 => h9) rfl rfl rfl rfl (by simp) dX10_boat_114 (fun H locs hP _ hS => ?_)
                    have hP := pM0_7 eS32 hP
                    refine lv_aload_n hx hb dX10_boat_117 rfl (lv_at hl 0 rfl) ?_
                    refine va_get (ci := 10) (v := .int (gi S32 2)) (C := RX10) (T := TX10) (N := 54) hx hb hts k0 hown hK hP 0 (aM0 Y A S32) rfl 7 (by decide) k1 (fun _ h9 => h9) rfl dX10_boat_118 ?_
                    refine lv_iconst (v := (1 : Int32)) hx hb dX10_boat_121 (by decide) ?_
                    refine lv_isub hx hb dX10_boat_122 ?_
                    exact hret _ _ _ _ _ _ dX10_boat_123 h hP hS
                  · have h := h.1 c23
                    refine lv_aload_n hx hb dX10_boat_59 rfl (lv_at hl 0 rfl) ?_
                    refine lv_bipush (v := (-6 : Int32)) hx hb dX10_boat_60 (by decide) ?_
                    refine gVi (As := [.int (-6 : Int32)]) (rest := []) ⟨hx, hb, hml, hown, hts⟩ (kX10_refuse l D Y A hI H.size S (-6 : Int32) _ h) (cwV 1 hts gX10_boat_X10_refuse rfl rfl rfl (by decide +kernel) ⟨Nat.le_of_ble_eq_true rfl, Nat.le_of_ble_eq_true rfl⟩) hK hP hS (gF_le hS.1) (aM0 Y A S) (show vwCl[10]? = some (RX10, TX10, 54) from rfl) rfl rfl hl.1 (Nat.le_of_ble_eq_true rfl) dX10_boat_62 ⟨Nat.zero_le _, Nat.zero_le _⟩ ?_
                    intro r34 S33 H locs h hP hS
                    exact hret _ _ _ _ _ _ dX10_boat_65 h hP hS
        · have h := h.2 c10
          refine lv_aload_n hx hb dX10_boat_18 rfl (lv_at hl 0 rfl) ?_
          refine lv_bipush (v := (-4 : Int32)) hx hb dX10_boat_19 (by decide) ?_
          refine gVi (As := [.int (-4 : Int32)]) (rest := []) ⟨hx, hb, hml, hown, hts⟩ (kX10_refuse l D Y A hI H.size S (-4 : Int32) _ h) (cwV 1 hts gX10_boat_X10_refuse rfl rfl rfl (by decide +kernel) ⟨Nat.le_of_ble_eq_true rfl, Nat.le_of_ble_eq_true rfl⟩) hK hP hS (gF_le hS.1) (aM0 Y A S) (show vwCl[10]? = some (RX10, TX10, 54) from rfl) rfl rfl hl.1 (Nat.le_of_ble_eq_true rfl) dX10_boat_21 ⟨Nat.zero_le _, Nat.zero_le _⟩ ?_
          intro r36 S35 H locs h hP hS
          exact hret _ _ _ _ _ _ dX10_boat_24 h hP hS

def qX10_load (S : gS) (a1 : Int32) (a2 : Int32) (Q : Int32 → gS → Prop) : Prop :=
  qX10_in S a1 (0 : Int32) ((gi S 2) - (1 : Int32)) (fun r2 S1 => (r2 = 0 → (qX10_refuse S1 (-1 : Int32) (fun r13 S12 => Q r13 S12))) ∧ (¬ r2 = 0 → ((0 ≤ a2 → (vp_in a1 8 ∧ ((a2 ≤ ((ga S1 6 a1.toNatClampNeg) - (ga S1 9 a1.toNatClampNeg)) → (∀ S7 : gS, S7 = sA S1 9 (upd (ga S1 9) a1.toNatClampNeg ((ga S1 9 a1.toNatClampNeg) + a2)) → (Q (ga S7 9 a1.toNatClampNeg) S7))) ∧ (¬ a2 ≤ ((ga S1 6 a1.toNatClampNeg) - (ga S1 9 a1.toNatClampNeg)) → (qX10_refuse S1 (-6 : Int32) (fun r9 S8 => Q r9 S8)))))) ∧ (¬ 0 ≤ a2 → (qX10_refuse S1 (-4 : Int32) (fun r11 S10 => Q r11 S10))))))
abbrev rmX10_load : Room := { frames := 1, cells := 0, slots := 0, locals := 22 }
set_option maxHeartbeats 4000000 in
set_option maxRecDepth 100000 in
theorem kX10_load (l : Launch) (D : va_G) (Y : Nat → ClassId) (A : Nat → Nat) (hI : iM A) (sz : Nat) (S : gS) (a1 : Int32) (a2 : Int32) (Q : Int32 → gS → Prop) (h : qX10_load S a1 a2 Q) : Met l yX10_load wsX10_load rmX10_load (gPc [.ref (A 0), .int a1, .int a2] sz D vwCl (tY Y) (wM Y A S)) (va_Qi Q (fun S' t => gH D vwCl (tY Y) (wM Y A S') t) (gF A 44 sz)) 0 0 (gF A 44 sz) := by
  refine gMet_i (cc := cX10_load) (maxL := 3) (by decide +kernel) rfl (Nat.le_of_ble_eq_true rfl) (fun p e s m args below meth c Z H locs hx hb hml hts hown hK hP hS hret ls hl => ?_)
  have hown : s.vm.findClass RX10 = some m.cls := hown
  have hl : lv_has ls 3 [(0, .ref (A 0)), (1, .int a1), (2, .int a2)] := hl
  have hD : ∀ S0 : gS, va_D (gF A 44 s.heap.size) (wM Y A S0) := fun S0 => dM hI S0 (fun k hk => gF_in hk)
  have k0 : ∀ w ∈ u_ws RX10 TX10 54, w ∈ wsX10_load := by decide +kernel
  have k1 := hts (.fieldLink RX10 161 "CoastWatchModel" "boats" "I") (by decide +kernel)
  have k2 := hts (.fieldLink RX10 32 "CoastWatchModel" "hold" "[I") (by decide +kernel)
  have k3 := hts (.fieldLink RX10 41 "CoastWatchModel" "aboard" "[I") (by decide +kernel)
  refine lv_iload_n hx hb dX10_load_0 rfl (lv_at hl 1 rfl) ?_
  refine lv_iconst (v := (0 : Int32)) hx hb dX10_load_1 (by decide) ?_
  refine lv_aload_n hx hb dX10_load_2 rfl (lv_at hl 0 rfl) ?_
  refine va_get (ci := 10) (v := .int (gi S 2)) (C := RX10) (T := TX10) (N := 54) hx hb hts k0 hown hK hP 0 (aM0 Y A S) rfl 7 (by decide) k1 (fun _ h9 => h9) rfl dX10_load_3 ?_
  refine lv_iconst (v := (1 : Int32)) hx hb dX10_load_6 (by decide) ?_
  refine lv_isub hx hb dX10_load_7 ?_
  refine gSi (As := [.int a1, .int (0 : Int32), .int ((gi S 2) - (1 : Int32))]) (rest := []) ⟨hx, hb, hml, hown, hts⟩ (kX10_in l D Y A hI H.size S a1 (0 : Int32) ((gi S 2) - (1 : Int32)) _ h) (va_cwS 3 hts gX10_load_X10_in rfl rfl rfl (by decide +kernel) ⟨Nat.le_of_ble_eq_true rfl, Nat.le_of_ble_eq_true rfl⟩) hK hP hS (gF_le hS.1) rfl rfl hl.1 (Nat.le_of_ble_eq_true rfl) dX10_load_8 ⟨Nat.zero_le _, Nat.zero_le _⟩ ?_
  intro r2 S1 H locs h hP hS
  refine lv_if_ne (tgt := 20) hx hb dX10_load_11 (by decide) (fun c3 => ?_) (fun c3 => ?_)
  · have h := h.2 c3
    refine lv_iload_n hx hb dX10_load_20 rfl (lv_at hl 2 rfl) ?_
    refine lv_if_ge (tgt := 31) hx hb dX10_load_21 (by decide) (fun c4 => ?_) (fun c4 => ?_)
    · have h := h.1 c4
      refine lv_iload_n hx hb dX10_load_31 rfl (lv_at hl 2 rfl) ?_
      refine lv_aload_n hx hb dX10_load_32 rfl (lv_at hl 0 rfl) ?_
      refine va_get (ci := 10) (v := .ref (A 7)) (C := RX10) (T := TX10) (N := 54) hx hb hts k0 hown hK hP 0 (aM0 Y A S1) rfl 9 (by decide) k2 (fun _ h9 => h9) rfl dX10_load_33 ?_
      refine lv_iload_n hx hb dX10_load_36 rfl (lv_at hl 1 rfl) ?_
      have v_5 := h.1
      have h := h.2
      refine va_iald hx hb hK hP 7 0 (aM7 Y A S1) rfl v_5 dX10_load_37 ?_
      refine lv_aload_n hx hb dX10_load_38 rfl (lv_at hl 0 rfl) ?_
      refine va_get (ci := 10) (v := .ref (A 10)) (C := RX10) (T := TX10) (N := 54) hx hb hts k0 hown hK hP 0 (aM0 Y A S1) rfl 12 (by decide) k3 (fun _ h9 => h9) rfl dX10_load_39 ?_
      refine lv_iload_n hx hb dX10_load_42 rfl (lv_at hl 1 rfl) ?_
      refine va_iald hx hb hK hP 10 0 (aM10 Y A S1) rfl v_5 dX10_load_43 ?_
      refine lv_isub hx hb dX10_load_44 ?_
      refine lv_icmp_le (tgt := 55) hx hb dX10_load_45 (by decide) (fun c6 => ?_) (fun c6 => ?_)
      · have h := h.1 c6
        refine lv_aload_n hx hb dX10_load_55 rfl (lv_at hl 0 rfl) ?_
        refine va_get (ci := 10) (v := .ref (A 10)) (C := RX10) (T := TX10) (N := 54) hx hb hts k0 hown hK hP 0 (aM0 Y A S1) rfl 12 (by decide) k3 (fun _ h9 => h9) rfl dX10_load_56 ?_
        refine lv_iload_n hx hb dX10_load_59 rfl (lv_at hl 1 rfl) ?_
        refine lv_dup2_11 hx hb dX10_load_60 rfl rfl ?_
        refine va_iald hx hb hK hP 10 0 (aM10 Y A S1) rfl v_5 dX10_load_61 ?_
        refine lv_iload_n hx hb dX10_load_62 rfl (lv_at hl 2 rfl) ?_
        refine lv_iadd hx hb dX10_load_63 ?_
        obtain ⟨S7, eS7⟩ : ∃ z : gS, z = sA S1 9 (upd (ga S1 9) a1.toNatClampNeg ((ga S1 9 a1.toNatClampNeg) + a2)) := ⟨_, rfl⟩
        refine va_iast hx hb hK hP (hD S1) hS 10 0 (aM10 Y A S1) rfl v_5 dX10_load_64 (fun H locs hP _ hS => ?_)
        have hP := uM10 eS7 hP
        have h := h S7 eS7
        refine lv_aload_n hx hb dX10_load_65 rfl (lv_at hl 0 rfl) ?_
        refine va_get (ci := 10) (v := .ref (A 10)) (C := RX10) (T := TX10) (N := 54) hx hb hts k0 hown hK hP 0 (aM0 Y A S7) rfl 12 (by decide) k3 (fun _ h9 => h9) rfl dX10_load_66 ?_
        refine lv_iload_n hx hb dX10_load_69 rfl (lv_at hl 1 rfl) ?_
        refine va_iald hx hb hK hP 10 0 (aM10 Y A S7) rfl v_5 dX10_load_70 ?_
        exact hret _ _ _ _ _ _ dX10_load_71 h hP hS
      · have h := h.2 c6
        refine lv_aload_n hx hb dX10_load_48 rfl (lv_at hl 0 rfl) ?_
        refine lv_bipush (v := (-6 : Int32)) hx hb dX10_load_49 (by decide) ?_
        refine gVi (As := [.int (-6 : Int32)]) (rest := []) ⟨hx, hb, hml, hown, hts⟩ (kX10_refuse l D Y A hI H.size S1 (-6 : Int32) _ h) (cwV 1 hts gX10_load_X10_refuse rfl rfl rfl (by decide +kernel) ⟨Nat.le_of_ble_eq_true rfl, Nat.le_of_ble_eq_true rfl⟩) hK hP hS (gF_le hS.1) (aM0 Y A S1) (show vwCl[10]? = some (RX10, TX10, 54) from rfl) rfl rfl hl.1 (Nat.le_of_ble_eq_true rfl) dX10_load_51 ⟨Nat.zero_le _, Nat.zero_le _⟩ ?_
        intro r9 S8 H locs h hP hS
        exact hret _ _ _ _ _ _ dX10_load_54 h hP hS
    · have h := h.2 c4
      refine lv_aload_n hx hb dX10_load_24 rfl (lv_at hl 0 rfl) ?_
      refine lv_bipush (v := (-4 : Int32)) hx hb dX10_load_25 (by decide) ?_
      refine gVi (As := [.int (-4 : Int32)]) (rest := []) ⟨hx, hb, hml, hown, hts⟩ (kX10_refuse l D Y A hI H.size S1 (-4 : Int32) _ h) (cwV 1 hts gX10_load_X10_refuse rfl rfl rfl (by decide +kernel) ⟨Nat.le_of_ble_eq_true rfl, Nat.le_of_ble_eq_true rfl⟩) hK hP hS (gF_le hS.1) (aM0 Y A S1) (show vwCl[10]? = some (RX10, TX10, 54) from rfl) rfl rfl hl.1 (Nat.le_of_ble_eq_true rfl) dX10_load_27 ⟨Nat.zero_le _, Nat.zero_le _⟩ ?_
      intro r11 S10 H locs h hP hS
      exact hret _ _ _ _ _ _ dX10_load_30 h hP hS
  · have h := h.1 c3
    refine lv_aload_n hx hb dX10_load_14 rfl (lv_at hl 0 rfl) ?_
    refine lv_iconst (v := (-1 : Int32)) hx hb dX10_load_15 (by decide) ?_
    refine gVi (As := [.int (-1 : Int32)]) (rest := []) ⟨hx, hb, hml, hown, hts⟩ (kX10_refuse l D Y A hI H.size S1 (-1 : Int32) _ h) (cwV 1 hts gX10_load_X10_refuse rfl rfl rfl (by decide +kernel) ⟨Nat.le_of_ble_eq_true rfl, Nat.le_of_ble_eq_true rfl⟩) hK hP hS (gF_le hS.1) (aM0 Y A S1) (show vwCl[10]? = some (RX10, TX10, 54) from rfl) rfl rfl hl.1 (Nat.le_of_ble_eq_true rfl) dX10_load_16 ⟨Nat.zero_le _, Nat.zero_le _⟩ ?_
    intro r13 S12 H locs h hP hS
    exact hret _ _ _ _ _ _ dX10_load_19 h hP hS

def qX10_hide (S : gS) (a1 : Int32) (a2 : Int32) (a3 : Int32) (Q : Int32 → gS → Prop) : Prop :=
  qX10_isCove S a1 (fun r2 S1 => (r2 = 0 → (qX10_refuse S1 (-1 : Int32) (fun r27 S26 => Q r27 S26))) ∧ (¬ r2 = 0 → ((a2 < (1 : Int32) → (qX10_refuse S1 (-4 : Int32) (fun r6 S5 => Q r6 S5))) ∧ (¬ a2 < (1 : Int32) → (((1 : Int32) ≤ a3 → (((200 : Int32) < a2 → (qX10_refuse S1 (-6 : Int32) (fun r10 S9 => Q r10 S9))) ∧ (¬ (200 : Int32) < a2 → (((20 : Int32) < a3 → (qX10_refuse S1 (-6 : Int32) (fun r13 S12 => Q r13 S12))) ∧ (¬ (20 : Int32) < a3 → (((gi S1 3) = (12 : Int32) → (qX10_refuse S1 (-6 : Int32) (fun r23 S22 => Q r23 S22))) ∧ (¬ (gi S1 3) = (12 : Int32) → (vp_in (gi S1 3) 12 ∧ (∀ S15 : gS, S15 = sA S1 13 (upd (ga S1 13) (gi S1 3).toNatClampNeg a1) → (vp_in (gi S15 3) 12 ∧ (∀ S17 : gS, S17 = sA S15 14 (upd (ga S15 14) (gi S15 3).toNatClampNeg a2) → (vp_in (gi S17 3) 12 ∧ (∀ S19 : gS, S19 = sA S17 15 (upd (ga S17 15) (gi S17 3).toNatClampNeg a3) → (∀ S21 : gS, S21 = sI S19 3 ((gi S19 3) + (1 : Int32)) → (Q ((gi S21 3) - (1 : Int32)) S21))))))))))))))) ∧ (¬ (1 : Int32) ≤ a3 → (qX10_refuse S1 (-4 : Int32) (fun r25 S24 => Q r25 S24))))))))
abbrev rmX10_hide : Room := { frames := 2, cells := 0, slots := 0, locals := 42 }
set_option maxHeartbeats 4000000 in
set_option maxRecDepth 100000 in
theorem kX10_hide (l : Launch) (D : va_G) (Y : Nat → ClassId) (A : Nat → Nat) (hI : iM A) (sz : Nat) (S : gS) (a1 : Int32) (a2 : Int32) (a3 : Int32) (Q : Int32 → gS → Prop) (h : qX10_hide S a1 a2 a3 Q) : Met l yX10_hide wsX10_hide rmX10_hide (gPc [.ref (A 0), .int a1, .int a2, .int a3] sz D vwCl (tY Y) (wM Y A S)) (va_Qi Q (fun S' t => gH D vwCl (tY Y) (wM Y A S') t) (gF A 44 sz)) 0 0 (gF A 44 sz) := by
  refine gMet_i (cc := cX10_hide) (maxL := 4) (by decide +kernel) rfl (Nat.le_of_ble_eq_true rfl) (fun p e s m args below meth c Z H locs hx hb hml hts hown hK hP hS hret ls hl => ?_)
  have hown : s.vm.findClass RX10 = some m.cls := hown
  have hl : lv_has ls 4 [(0, .ref (A 0)), (1, .int a1), (2, .int a2), (3, .int a3)] := hl
  have hD : ∀ S0 : gS, va_D (gF A 44 s.heap.size) (wM Y A S0) := fun S0 => dM hI S0 (fun k hk => gF_in hk)
  have k0 : ∀ w ∈ u_ws RX10 TX10 54, w ∈ wsX10_hide := by decide +kernel
  have k1 := hts (.fieldLink RX10 164 "CoastWatchModel" "hides" "I") (by decide +kernel)
  have k2 := hts (.fieldLink RX10 53 "CoastWatchModel" "hideCove" "[I") (by decide +kernel)
  have k3 := hts (.fieldLink RX10 56 "CoastWatchModel" "hideRoom" "[I") (by decide +kernel)
  have k4 := hts (.fieldLink RX10 59 "CoastWatchModel" "hideCost" "[I") (by decide +kernel)
  refine lv_iload_n hx hb dX10_hide_0 rfl (lv_at hl 1 rfl) ?_
  refine gSi (As := [.int a1]) (rest := []) ⟨hx, hb, hml, hown, hts⟩ (kX10_isCove l D Y A hI H.size S a1 _ h) (va_cwS 1 hts gX10_hide_X10_isCove rfl rfl rfl (by decide +kernel) ⟨Nat.le_of_ble_eq_true rfl, Nat.le_of_ble_eq_true rfl⟩) hK hP hS (gF_le hS.1) rfl rfl hl.1 (Nat.le_of_ble_eq_true rfl) dX10_hide_1 ⟨Nat.zero_le _, Nat.zero_le _⟩ ?_
  intro r2 S1 H locs h hP hS
  refine lv_if_ne (tgt := 13) hx hb dX10_hide_4 (by decide) (fun c3 => ?_) (fun c3 => ?_)
  · have h := h.2 c3
    refine lv_iload_n hx hb dX10_hide_13 rfl (lv_at hl 2 rfl) ?_
    refine lv_iconst (v := (1 : Int32)) hx hb dX10_hide_14 (by decide) ?_
    refine lv_icmp_lt (tgt := 23) hx hb dX10_hide_15 (by decide) (fun c4 => ?_) (fun c4 => ?_)
    · have h := h.1 c4
      refine lv_aload_n hx hb dX10_hide_23 rfl (lv_at hl 0 rfl) ?_
      refine lv_bipush (v := (-4 : Int32)) hx hb dX10_hide_24 (by decide) ?_
      refine gVi (As := [.int (-4 : Int32)]) (rest := []) ⟨hx, hb, hml, hown, hts⟩ (kX10_refuse l D Y A hI H.size S1 (-4 : Int32) _ h) (cwV 1 hts gX10_hide_X10_refuse rfl rfl rfl (by decide +kernel) ⟨Nat.le_of_ble_eq_true rfl, Nat.le_of_ble_eq_true rfl⟩) hK hP hS (gF_le hS.1) (aM0 Y A S1) (show vwCl[10]? = some (RX10, TX10, 54) from rfl) rfl rfl hl.1 (Nat.le_of_ble_eq_true rfl) dX10_hide_26 ⟨Nat.zero_le _, Nat.zero_le _⟩ ?_
      intro r6 S5 H locs h hP hS
      exact hret _ _ _ _ _ _ dX10_hide_29 h hP hS
    · have h := h.2 c4
      refine lv_iload_n hx hb dX10_hide_18 rfl (lv_at hl 3 rfl) ?_
      refine lv_iconst (v := (1 : Int32)) hx hb dX10_hide_19 (by decide) ?_
      refine lv_icmp_ge (tgt := 30) hx hb dX10_hide_20 (by decide) (fun c7 => ?_) (fun c7 => ?_)
      · have h := h.1 c7
        refine lv_iload_n hx hb dX10_hide_30 rfl (lv_at hl 2 rfl) ?_
        refine lv_sipush (v := (200 : Int32)) hx hb dX10_hide_31 (by decide) ?_
        refine lv_icmp_gt (tgt := 52) hx hb dX10_hide_34 (by decide) (fun c8 => ?_) (fun c8 => ?_)
        · have h := h.1 c8
          refine lv_aload_n hx hb dX10_hide_52 rfl (lv_at hl 0 rfl) ?_
          refine lv_bipush (v := (-6 : Int32)) hx hb dX10_hide_53 (by decide) ?_
          refine gVi (As := [.int (-6 : Int32)]) (rest := []) ⟨hx, hb, hml, hown, hts⟩ (kX10_refuse l D Y A hI H.size S1 (-6 : Int32) _ h) (cwV 1 hts gX10_hide_X10_refuse rfl rfl rfl (by decide +kernel) ⟨Nat.le_of_ble_eq_true rfl, Nat.le_of_ble_eq_true rfl⟩) hK hP hS (gF_le hS.1) (aM0 Y A S1) (show vwCl[10]? = some (RX10, TX10, 54) from rfl) rfl rfl hl.1 (Nat.le_of_ble_eq_true rfl) dX10_hide_55 ⟨Nat.zero_le _, Nat.zero_le _⟩ ?_
          intro r10 S9 H locs h hP hS
          exact hret _ _ _ _ _ _ dX10_hide_58 h hP hS
        · have h := h.2 c8
          refine lv_iload_n hx hb dX10_hide_37 rfl (lv_at hl 3 rfl) ?_
          refine lv_bipush (v := (20 : Int32)) hx hb dX10_hide_38 (by decide) ?_
          refine lv_icmp_gt (tgt := 52) hx hb dX10_hide_40 (by decide) (fun c11 => ?_) (fun c11 => ?_)
          · have h := h.1 c11
            refine lv_aload_n hx hb dX10_hide_52 rfl (lv_at hl 0 rfl) ?_
            refine lv_bipush (v := (-6 : Int32)) hx hb dX10_hide_53 (by decide) ?_
            refine gVi (As := [.int (-6 : Int32)]) (rest := []) ⟨hx, hb, hml, hown, hts⟩ (kX10_refuse l D Y A hI H.size S1 (-6 : Int32) _ h) (cwV 1 hts gX10_hide_X10_refuse rfl rfl rfl (by decide +kernel) ⟨Nat.le_of_ble_eq_true rfl, Nat.le_of_ble_eq_true rfl⟩) hK hP hS (gF_le hS.1) (aM0 Y A S1) (show vwCl[10]? = some (RX10, TX10, 54) from rfl) rfl rfl hl.1 (Nat.le_of_ble_eq_true rfl) dX10_hide_55 ⟨Nat.zero_le _, Nat.zero_le _⟩ ?_
            intro r13 S12 H locs h hP hS
            exact hret _ _ _ _ _ _ dX10_hide_58 h hP hS
          · have h := h.2 c11
            refine lv_aload_n hx hb dX10_hide_43 rfl (lv_at hl 0 rfl) ?_
            refine va_get (ci := 10) (v := .int (gi S1 3)) (C := RX10) (T := TX10) (N := 54) hx hb hts k0 hown hK hP 0 (aM0 Y A S1) rfl 16 (by decide) k1 (fun _ h9 => h9) rfl dX10_hide_44 ?_
            refine lv_bipush (v := (12 : Int32)) hx hb dX10_hide_47 (by decide) ?_
            refine lv_icmp_ne (tgt := 59) hx hb dX10_hide_49 (by decide) (fun c14 => ?_) (fun c14 => ?_)
            · have h := h.2 c14
              refine lv_aload_n hx hb dX10_hide_59 rfl (lv_at hl 0 rfl) ?_
              refine va_get (ci := 10) (v := .ref (A 14)) (C := RX10) (T := TX10) (N := 54) hx hb hts k0 hown hK hP 0 (aM0 Y A S1) rfl 17 (by decide) k2 (fun _ h9 => h9) rfl dX10_hide_60 ?_
              refine lv_aload_n hx hb dX10_hide_63 rfl (lv_at hl 0 rfl) ?_
              refine va_get (ci := 10) (v := .int (gi S1 3)) (C := RX10) (T := TX10) (N := 54) hx hb hts k0 hown hK hP 0 (aM0 Y A S1) rfl 16 (by decide) k1 (fun _ h9 => h9) rfl dX10_hide_64 ?_
              refine lv_iload_n hx hb dX10_hide_67 rfl (lv_at hl 1 rfl) ?_
              have v_16 := h.1
              have h := h.2
              obtain ⟨S15, eS15⟩ : ∃ z : gS, z = sA S1 13 (upd (ga S1 13) (gi S1 3).toNatClampNeg a1) := ⟨_, rfl⟩
              refine va_iast hx hb hK hP (hD S1) hS 14 0 (aM14 Y A S1) rfl v_16 dX10_hide_68 (fun H locs hP _ hS => ?_)
              have hP := uM14 eS15 hP
              have h := h S15 eS15
              refine lv_aload_n hx hb dX10_hide_69 rfl (lv_at hl 0 rfl) ?_
              refine va_get (ci := 10) (v := .ref (A 15)) (C := RX10) (T := TX10) (N := 54) hx hb hts k0 hown hK hP 0 (aM0 Y A S15) rfl 18 (by decide) k3 (fun _ h9 => h9) rfl dX10_hide_70 ?_
              refine lv_aload_n hx hb dX10_hide_73 rfl (lv_at hl 0 rfl) ?_
              refine va_get (ci := 10) (v := .int (gi S15 3)) (C := RX10) (T := TX10) (N := 54) hx hb hts k0 hown hK hP 0 (aM0 Y A S15) rfl 16 (by decide) k1 (fun _ h9 => h9) rfl dX10_hide_74 ?_
              refine lv_iload_n hx hb dX10_hide_77 rfl (lv_at hl 2 rfl) ?_
              have v_18 := h.1
              have h := h.2
              obtain ⟨S17, eS17⟩ : ∃ z : gS, z = sA S15 14 (upd (ga S15 14) (gi S15 3).toNatClampNeg a2) := ⟨_, rfl⟩
              refine va_iast hx hb hK hP (hD S15) hS 15 0 (aM15 Y A S15) rfl v_18 dX10_hide_78 (fun H locs hP _ hS => ?_)
              have hP := uM15 eS17 hP
              have h := h S17 eS17
              refine lv_aload_n hx hb dX10_hide_79 rfl (lv_at hl 0 rfl) ?_
              refine va_get (ci := 10) (v := .ref (A 16)) (C := RX10) (T := TX10) (N := 54) hx hb hts k0 hown hK hP 0 (aM0 Y A S17) rfl 19 (by decide) k4 (fun _ h9 => h9) rfl dX10_hide_80 ?_
              refine lv_aload_n hx hb dX10_hide_83 rfl (lv_at hl 0 rfl) ?_
              refine va_get (ci := 10) (v := .int (gi S17 3)) (C := RX10) (T := TX10) (N := 54) hx hb hts k0 hown hK hP 0 (aM0 Y A S17) rfl 16 (by decide) k1 (fun _ h9 => h9) rfl dX10_hide_84 ?_
              refine lv_iload_n hx hb dX10_hide_87 rfl (lv_at hl 3 rfl) ?_
              have v_20 := h.1
              have h := h.2
              obtain ⟨S19, eS19⟩ : ∃ z : gS, z = sA S17 15 (upd (ga S17 15) (gi S17 3).toNatClampNeg a3) := ⟨_, rfl⟩
              refine va_iast hx hb hK hP (hD S17) hS 16 0 (aM16 Y A S17) rfl v_20 dX10_hide_88 (fun H locs hP _ hS => ?_)
              have hP := uM16 eS19 hP
              have h := h S19 eS19
              refine lv_aload_n hx hb dX10_hide_89 rfl (lv_at hl 0 rfl) ?_
              refine lv_dup hx hb dX10_hide_90 rfl ?_
              refine va_get (ci := 10) (v := .int (gi S19 3)) (C := RX10) (T := TX10) (N := 54) hx hb hts k0 hown hK hP 0 (aM0 Y A S19) rfl 16 (by decide) k1 (fun _ h9 => h9) rfl dX10_hide_91 ?_
              refine lv_iconst (v := (1 : Int32)) hx hb dX10_hide_94 (by decide) ?_
              refine lv_iadd hx hb dX10_hide_95 ?_
              obtain ⟨S21, eS21⟩ : ∃ z : gS, z = sI S19 3 ((gi S19 3) + (1 : Int32)) := ⟨_, rfl⟩
              have h := h S21 eS21
              refine va_put (ci := 10) (v := .int ((gi S19 3) + (1 : Int32))) (ty := .int) (C := RX10) (T := TX10) (N := 54) hx hb hts k0 tyX10 tyX10_ok nmX10 hown hK hP (hD S19) hS 0 (aM0 Y A S19) rfl 16 (by decide) k1 (fun _ h9 => h9) rfl rfl rfl rfl (by simp) dX10_hide_96 (fun H locs hP _ hS => ?_)
              have hP := pM0_16 eS21 hP
              refine lv_aload_n hx hb dX10_hide_99 rfl (lv_at hl 0 rfl) ?_
              refine va_get (ci := 10) (v := .int (gi S21 3)) (C := RX10) (T := TX10) (N := 54) hx hb hts k0 hown hK hP 0 (aM0 Y A S21) rfl 16 (by decide) k1 (fun _ h9 => h9) rfl dX10_hide_100 ?_
              refine lv_iconst (v := (1 : Int32)) hx hb dX10_hide_103 (by decide) ?_
              refine lv_isub hx hb dX10_hide_104 ?_
              exact hret _ _ _ _ _ _ dX10_hide_105 h hP hS
            · have h := h.1 c14
              refine lv_aload_n hx hb dX10_hide_52 rfl (lv_at hl 0 rfl) ?_
              refine lv_bipush (v := (-6 : Int32)) hx hb dX10_hide_53 (by decide) ?_
              refine gVi (As := [.int (-6 : Int32)]) (rest := []) ⟨hx, hb, hml, hown, hts⟩ (kX10_refuse l D Y A hI H.size S1 (-6 : Int32) _ h) (cwV 1 hts gX10_hide_X10_refuse rfl rfl rfl (by decide +kernel) ⟨Nat.le_of_ble_eq_true rfl, Nat.le_of_ble_eq_true rfl⟩) hK hP hS (gF_le hS.1) (aM0 Y A S1) (show vwCl[10]? = some (RX10, TX10, 54) from rfl) rfl rfl hl.1 (Nat.le_of_ble_eq_true rfl) dX10_hide_55 ⟨Nat.zero_le _, Nat.zero_le _⟩ ?_
              intro r23 S22 H locs h hP hS
              exact hret _ _ _ _ _ _ dX10_hide_58 h hP hS
      · have h := h.2 c7
        refine lv_aload_n hx hb dX10_hide_23 rfl (lv_at hl 0 rfl) ?_
        refine lv_bipush (v := (-4 : Int32)) hx hb dX10_hide_24 (by decide) ?_
        refine gVi (As := [.int (-4 : Int32)]) (rest := []) ⟨hx, hb, hml, hown, hts⟩ (kX10_refuse l D Y A hI H.size S1 (-4 : Int32) _ h) (cwV 1 hts gX10_hide_X10_refuse rfl rfl rfl (by decide +kernel) ⟨Nat.le_of_ble_eq_true rfl, Nat.le_of_ble_eq_true rfl⟩) hK hP hS (gF_le hS.1) (aM0 Y A S1) (show vwCl[10]? = some (RX10, TX10, 54) from rfl) rfl rfl hl.1 (Nat.le_of_ble_eq_true rfl) dX10_hide_26 ⟨Nat.zero_le _, Nat.zero_le _⟩ ?_
        intro r25 S24 H locs h hP hS
        exact hret _ _ _ _ _ _ dX10_hide_29 h hP hS
  · have h := h.1 c3
    refine lv_aload_n hx hb dX10_hide_7 rfl (lv_at hl 0 rfl) ?_
    refine lv_iconst (v := (-1 : Int32)) hx hb dX10_hide_8 (by decide) ?_
    refine gVi (As := [.int (-1 : Int32)]) (rest := []) ⟨hx, hb, hml, hown, hts⟩ (kX10_refuse l D Y A hI H.size S1 (-1 : Int32) _ h) (cwV 1 hts gX10_hide_X10_refuse rfl rfl rfl (by decide +kernel) ⟨Nat.le_of_ble_eq_true rfl, Nat.le_of_ble_eq_true rfl⟩) hK hP hS (gF_le hS.1) (aM0 Y A S1) (show vwCl[10]? = some (RX10, TX10, 54) from rfl) rfl rfl hl.1 (Nat.le_of_ble_eq_true rfl) dX10_hide_9 ⟨Nat.zero_le _, Nat.zero_le _⟩ ?_
    intro r27 S26 H locs h hP hS
    exact hret _ _ _ _ _ _ dX10_hide_12 h hP hS

def qX10_stand (S : gS) (a1 : Int32) (a2 : Int32) (Q : Int32 → gS → Prop) : Prop :=
  qX10_isCove S a1 (fun r2 S1 => (r2 = 0 → (qX10_refuse S1 (-1 : Int32) (fun r14 S13 => Q r14 S13))) ∧ (¬ r2 = 0 → ((0 ≤ a2 → ((a2 ≤ (9 : Int32) → (vp_in a1 6 ∧ (∀ x7 : Int32, x7 = (ga S1 23 a1.toNatClampNeg) → (∀ S8 : gS, S8 = sA S1 23 (upd (ga S1 23) a1.toNatClampNeg a2) → (Q x7 S8))))) ∧ (¬ a2 ≤ (9 : Int32) → (qX10_refuse S1 (-6 : Int32) (fun r10 S9 => Q r10 S9))))) ∧ (¬ 0 ≤ a2 → (qX10_refuse S1 (-4 : Int32) (fun r12 S11 => Q r12 S11))))))
abbrev rmX10_stand : Room := { frames := 2, cells := 0, slots := 0, locals := 42 }
set_option maxHeartbeats 4000000 in
set_option maxRecDepth 100000 in
theorem kX10_stand (l : Launch) (D : va_G) (Y : Nat → ClassId) (A : Nat → Nat) (hI : iM A) (sz : Nat) (S : gS) (a1 : Int32) (a2 : Int32) (Q : Int32 → gS → Prop) (h : qX10_stand S a1 a2 Q) : Met l yX10_stand wsX10_stand rmX10_stand (gPc [.ref (A 0), .int a1, .int a2] sz D vwCl (tY Y) (wM Y A S)) (va_Qi Q (fun S' t => gH D vwCl (tY Y) (wM Y A S') t) (gF A 44 sz)) 0 0 (gF A 44 sz) := by
  refine gMet_i (cc := cX10_stand) (maxL := 4) (by decide +kernel) rfl (Nat.le_of_ble_eq_true rfl) (fun p e s m args below meth c Z H locs hx hb hml hts hown hK hP hS hret ls hl => ?_)
  have hown : s.vm.findClass RX10 = some m.cls := hown
  have hl : lv_has ls 4 [(0, .ref (A 0)), (1, .int a1), (2, .int a2)] := hl
  have hD : ∀ S0 : gS, va_D (gF A 44 s.heap.size) (wM Y A S0) := fun S0 => dM hI S0 (fun k hk => gF_in hk)
  have k0 : ∀ w ∈ u_ws RX10 TX10 54, w ∈ wsX10_stand := by decide +kernel
  have k1 := hts (.fieldLink RX10 83 "CoastWatchModel" "standing" "[I") (by decide +kernel)
  refine lv_iload_n hx hb dX10_stand_0 rfl (lv_at hl 1 rfl) ?_
  refine gSi (As := [.int a1]) (rest := []) ⟨hx, hb, hml, hown, hts⟩ (kX10_isCove l D Y A hI H.size S a1 _ h) (va_cwS 1 hts gX10_stand_X10_isCove rfl rfl rfl (by decide +kernel) ⟨Nat.le_of_ble_eq_true rfl, Nat.le_of_ble_eq_true rfl⟩) hK hP hS (gF_le hS.1) rfl rfl hl.1 (Nat.le_of_ble_eq_true rfl) dX10_stand_1 ⟨Nat.zero_le _, Nat.zero_le _⟩ ?_
  intro r2 S1 H locs h hP hS
  refine lv_if_ne (tgt := 13) hx hb dX10_stand_4 (by decide) (fun c3 => ?_) (fun c3 => ?_)
  · have h := h.2 c3
    refine lv_iload_n hx hb dX10_stand_13 rfl (lv_at hl 2 rfl) ?_
    refine lv_if_ge (tgt := 24) hx hb dX10_stand_14 (by decide) (fun c4 => ?_) (fun c4 => ?_)
    · have h := h.1 c4
      refine lv_iload_n hx hb dX10_stand_24 rfl (lv_at hl 2 rfl) ?_
      refine lv_bipush (v := (9 : Int32)) hx hb dX10_stand_25 (by decide) ?_
      refine lv_icmp_le (tgt := 37) hx hb dX10_stand_27 (by decide) (fun c5 => ?_) (fun c5 => ?_)
      · have h := h.1 c5
        refine lv_aload_n hx hb dX10_stand_37 rfl (lv_at hl 0 rfl) ?_
        refine va_get (ci := 10) (v := .ref (A 24)) (C := RX10) (T := TX10) (N := 54) hx hb hts k0 hown hK hP 0 (aM0 Y A S1) rfl 28 (by decide) k1 (fun _ h9 => h9) rfl dX10_stand_38 ?_
        refine lv_iload_n hx hb dX10_stand_41 rfl (lv_at hl 1 rfl) ?_
        have v_6 := h.1
        have h := h.2
        refine va_iald hx hb hK hP 24 0 (aM24 Y A S1) rfl v_6 dX10_stand_42 ?_
        refine lv_topi (fun x7 ex7 => ?_)
        have h := h x7 ex7
        refine lv_istore_n (lv' := [(3, .int x7), (0, .ref (A 0)), (1, .int a1), (2, .int a2)]) hx hb dX10_stand_43 rfl hl (by decide) rfl (fun ls hl => ?_)
        refine lv_aload_n hx hb dX10_stand_44 rfl (lv_at hl 1 rfl) ?_
        refine va_get (ci := 10) (v := .ref (A 24)) (C := RX10) (T := TX10) (N := 54) hx hb hts k0 hown hK hP 0 (aM0 Y A S1) rfl 28 (by decide) k1 (fun _ h9 => h9) rfl dX10_stand_45 ?_
        refine lv_iload_n hx hb dX10_stand_48 rfl (lv_at hl 2 rfl) ?_
        refine lv_iload_n hx hb dX10_stand_49 rfl (lv_at hl 3 rfl) ?_
        obtain ⟨S8, eS8⟩ : ∃ z : gS, z = sA S1 23 (upd (ga S1 23) a1.toNatClampNeg a2) := ⟨_, rfl⟩
        refine va_iast hx hb hK hP (hD S1) hS 24 0 (aM24 Y A S1) rfl v_6 dX10_stand_50 (fun H locs hP _ hS => ?_)
        have hP := uM24 eS8 hP
        have h := h S8 eS8
        refine lv_iload_n hx hb dX10_stand_51 rfl (lv_at hl 0 rfl) ?_
        exact hret _ _ _ _ _ _ dX10_stand_52 h hP hS
      · have h := h.2 c5
        refine lv_aload_n hx hb dX10_stand_30 rfl (lv_at hl 0 rfl) ?_
        refine lv_bipush (v := (-6 : Int32)) hx hb dX10_stand_31 (by decide) ?_
        refine gVi (As := [.int (-6 : Int32)]) (rest := []) ⟨hx, hb, hml, hown, hts⟩ (kX10_refuse l D Y A hI H.size S1 (-6 : Int32) _ h) (cwV 1 hts gX10_stand_X10_refuse rfl rfl rfl (by decide +kernel) ⟨Nat.le_of_ble_eq_true rfl, Nat.le_of_ble_eq_true rfl⟩) hK hP hS (gF_le hS.1) (aM0 Y A S1) (show vwCl[10]? = some (RX10, TX10, 54) from rfl) rfl rfl hl.1 (Nat.le_of_ble_eq_true rfl) dX10_stand_33 ⟨Nat.zero_le _, Nat.zero_le _⟩ ?_
        intro r10 S9 H locs h hP hS
        exact hret _ _ _ _ _ _ dX10_stand_36 h hP hS
    · have h := h.2 c4
      refine lv_aload_n hx hb dX10_stand_17 rfl (lv_at hl 0 rfl) ?_
      refine lv_bipush (v := (-4 : Int32)) hx hb dX10_stand_18 (by decide) ?_
      refine gVi (As := [.int (-4 : Int32)]) (rest := []) ⟨hx, hb, hml, hown, hts⟩ (kX10_refuse l D Y A hI H.size S1 (-4 : Int32) _ h) (cwV 1 hts gX10_stand_X10_refuse rfl rfl rfl (by decide +kernel) ⟨Nat.le_of_ble_eq_true rfl, Nat.le_of_ble_eq_true rfl⟩) hK hP hS (gF_le hS.1) (aM0 Y A S1) (show vwCl[10]? = some (RX10, TX10, 54) from rfl) rfl rfl hl.1 (Nat.le_of_ble_eq_true rfl) dX10_stand_20 ⟨Nat.zero_le _, Nat.zero_le _⟩ ?_
      intro r12 S11 H locs h hP hS
      exact hret _ _ _ _ _ _ dX10_stand_23 h hP hS
  · have h := h.1 c3
    refine lv_aload_n hx hb dX10_stand_7 rfl (lv_at hl 0 rfl) ?_
    refine lv_iconst (v := (-1 : Int32)) hx hb dX10_stand_8 (by decide) ?_
    refine gVi (As := [.int (-1 : Int32)]) (rest := []) ⟨hx, hb, hml, hown, hts⟩ (kX10_refuse l D Y A hI H.size S1 (-1 : Int32) _ h) (cwV 1 hts gX10_stand_X10_refuse rfl rfl rfl (by decide +kernel) ⟨Nat.le_of_ble_eq_true rfl, Nat.le_of_ble_eq_true rfl⟩) hK hP hS (gF_le hS.1) (aM0 Y A S1) (show vwCl[10]? = some (RX10, TX10, 54) from rfl) rfl rfl hl.1 (Nat.le_of_ble_eq_true rfl) dX10_stand_9 ⟨Nat.zero_le _, Nat.zero_le _⟩ ?_
    intro r14 S13 H locs h hP hS
    exact hret _ _ _ _ _ _ dX10_stand_12 h hP hS

def qX10_bribe (S : gS) (a1 : Int32) (a2 : Int32) (Q : Int32 → gS → Prop) : Prop :=
  qX10_isCove S a1 (fun r2 S1 => (r2 = 0 → (qX10_refuse S1 (-1 : Int32) (fun r9 S8 => Q r9 S8))) ∧ (¬ r2 = 0 → (vp_in a1 6 ∧ (∀ x5 : Int32, x5 = (ga S1 25 a1.toNatClampNeg) → (∀ S6 : gS, S6 = sA S1 25 (upd (ga S1 25) a1.toNatClampNeg (vp_nar .boolean a2)) → ((x5 = a2 → (Q (0 : Int32) S6)) ∧ (¬ x5 = a2 → (Q (1 : Int32) S6))))))))
abbrev rmX10_bribe : Room := { frames := 2, cells := 0, slots := 0, locals := 42 }
set_option maxHeartbeats 4000000 in
set_option maxRecDepth 100000 in
theorem kX10_bribe (l : Launch) (D : va_G) (Y : Nat → ClassId) (A : Nat → Nat) (hI : iM A) (sz : Nat) (S : gS) (a1 : Int32) (a2 : Int32) (Q : Int32 → gS → Prop) (h : qX10_bribe S a1 a2 Q) : Met l yX10_bribe wsX10_bribe rmX10_bribe (gPc [.ref (A 0), .int a1, .int a2] sz D vwCl (tY Y) (wM Y A S)) (va_Qi Q (fun S' t => gH D vwCl (tY Y) (wM Y A S') t) (gF A 44 sz)) 0 0 (gF A 44 sz) := by
  refine gMet_i (cc := cX10_bribe) (maxL := 4) (by decide +kernel) rfl (Nat.le_of_ble_eq_true rfl) (fun p e s m args below meth c Z H locs hx hb hml hts hown hK hP hS hret ls hl => ?_)
  have hown : s.vm.findClass RX10 = some m.cls := hown
  have hl : lv_has ls 4 [(0, .ref (A 0)), (1, .int a1), (2, .int a2)] := hl
  have hD : ∀ S0 : gS, va_D (gF A 44 s.heap.size) (wM Y A S0) := fun S0 => dM hI S0 (fun k hk => gF_in hk)
  have k0 : ∀ w ∈ u_ws RX10 TX10 54, w ∈ wsX10_bribe := by decide +kernel
  have k1 := hts (.fieldLink RX10 89 "CoastWatchModel" "bribed" "[Z") (by decide +kernel)
  refine lv_iload_n hx hb dX10_bribe_0 rfl (lv_at hl 1 rfl) ?_
  refine gSi (As := [.int a1]) (rest := []) ⟨hx, hb, hml, hown, hts⟩ (kX10_isCove l D Y A hI H.size S a1 _ h) (va_cwS 1 hts gX10_bribe_X10_isCove rfl rfl rfl (by decide +kernel) ⟨Nat.le_of_ble_eq_true rfl, Nat.le_of_ble_eq_true rfl⟩) hK hP hS (gF_le hS.1) rfl rfl hl.1 (Nat.le_of_ble_eq_true rfl) dX10_bribe_1 ⟨Nat.zero_le _, Nat.zero_le _⟩ ?_
  intro r2 S1 H locs h hP hS
  refine lv_if_ne (tgt := 13) hx hb dX10_bribe_4 (by decide) (fun c3 => ?_) (fun c3 => ?_)
  · have h := h.2 c3
    refine lv_aload_n hx hb dX10_bribe_13 rfl (lv_at hl 0 rfl) ?_
    refine va_get (ci := 10) (v := .ref (A 26)) (C := RX10) (T := TX10) (N := 54) hx hb hts k0 hown hK hP 0 (aM0 Y A S1) rfl 30 (by decide) k1 (fun _ h9 => h9) rfl dX10_bribe_14 ?_
    refine lv_iload_n hx hb dX10_bribe_17 rfl (lv_at hl 1 rfl) ?_
    have v_4 := h.1
    have h := h.2
    refine va_zald hx hb hK hP 26 1 (aM26 Y A S1) rfl v_4 dX10_bribe_18 ?_
    refine lv_topi (fun x5 ex5 => ?_)
    have h := h x5 ex5
    refine lv_istore_n (lv' := [(3, .int x5), (0, .ref (A 0)), (1, .int a1), (2, .int a2)]) hx hb dX10_bribe_19 rfl hl (by decide) rfl (fun ls hl => ?_)
    refine lv_aload_n hx hb dX10_bribe_20 rfl (lv_at hl 1 rfl) ?_
    refine va_get (ci := 10) (v := .ref (A 26)) (C := RX10) (T := TX10) (N := 54) hx hb hts k0 hown hK hP 0 (aM0 Y A S1) rfl 30 (by decide) k1 (fun _ h9 => h9) rfl dX10_bribe_21 ?_
    refine lv_iload_n hx hb dX10_bribe_24 rfl (lv_at hl 2 rfl) ?_
    refine lv_iload_n hx hb dX10_bribe_25 rfl (lv_at hl 3 rfl) ?_
    obtain ⟨S6, eS6⟩ : ∃ z : gS, z = sA S1 25 (upd (ga S1 25) a1.toNatClampNeg (vp_nar .boolean a2)) := ⟨_, rfl⟩
    refine va_zast hx hb hK hP (hD S1) hS 26 1 (aM26 Y A S1) rfl v_4 dX10_bribe_26 (fun H locs hP _ hS => ?_)
    have hP := uM26 eS6 hP
    have h := h S6 eS6
    refine lv_iload_n hx hb dX10_bribe_27 rfl (lv_at hl 0 rfl) ?_
    refine lv_iload_n hx hb dX10_bribe_28 rfl (lv_at hl 3 rfl) ?_
    refine lv_icmp_ne (tgt := 36) hx hb dX10_bribe_29 (by decide) (fun c7 => ?_) (fun c7 => ?_)
    · have h := h.2 c7
      refine lv_iconst (v := (1 : Int32)) hx hb dX10_bribe_36 (by decide) ?_
      exact hret _ _ _ _ _ _ dX10_bribe_37 h hP hS
    · have h := h.1 c7
      refine lv_iconst (v := (0 : Int32)) hx hb dX10_bribe_32 (by decide) ?_
      refine lv_goto (tgt := 37) hx hb dX10_bribe_33 (by decide) ?_
      exact hret _ _ _ _ _ _ dX10_bribe_37 h hP hS
  · have h := h.1 c3
    refine lv_aload_n hx hb dX10_bribe_7 rfl (lv_at hl 0 rfl) ?_
    refine lv_iconst (v := (-1 : Int32)) hx hb dX10_bribe_8 (by decide) ?_
    refine gVi (As := [.int (-1 : Int32)]) (rest := []) ⟨hx, hb, hml, hown, hts⟩ (kX10_refuse l D Y A hI H.size S1 (-1 : Int32) _ h) (cwV 1 hts gX10_bribe_X10_refuse rfl rfl rfl (by decide +kernel) ⟨Nat.le_of_ble_eq_true rfl, Nat.le_of_ble_eq_true rfl⟩) hK hP hS (gF_le hS.1) (aM0 Y A S1) (show vwCl[10]? = some (RX10, TX10, 54) from rfl) rfl rfl hl.1 (Nat.le_of_ble_eq_true rfl) dX10_bribe_9 ⟨Nat.zero_le _, Nat.zero_le _⟩ ?_
    intro r9 S8 H locs h hP hS
    exact hret _ _ _ _ _ _ dX10_bribe_12 h hP hS

def qX10_share (S : gS) (a1 : Int32) (a2 : Int32) (Q : Int32 → gS → Prop) : Prop :=
  qX10_isCove S a1 (fun r2 S1 => (r2 = 0 → (qX10_refuse S1 (-1 : Int32) (fun r14 S13 => Q r14 S13))) ∧ (¬ r2 = 0 → ((0 ≤ a2 → ((a2 ≤ (99 : Int32) → (vp_in a1 6 ∧ (∀ x7 : Int32, x7 = (ga S1 24 a1.toNatClampNeg) → (∀ S8 : gS, S8 = sA S1 24 (upd (ga S1 24) a1.toNatClampNeg a2) → (Q x7 S8))))) ∧ (¬ a2 ≤ (99 : Int32) → (qX10_refuse S1 (-6 : Int32) (fun r10 S9 => Q r10 S9))))) ∧ (¬ 0 ≤ a2 → (qX10_refuse S1 (-4 : Int32) (fun r12 S11 => Q r12 S11))))))
abbrev rmX10_share : Room := { frames := 2, cells := 0, slots := 0, locals := 42 }
set_option maxHeartbeats 4000000 in
set_option maxRecDepth 100000 in
theorem kX10_share (l : Launch) (D : va_G) (Y : Nat → ClassId) (A : Nat → Nat) (hI : iM A) (sz : Nat) (S : gS) (a1 : Int32) (a2 : Int32) (Q : Int32 → gS → Prop) (h : qX10_share S a1 a2 Q) : Met l yX10_share wsX10_share rmX10_share (gPc [.ref (A 0), .int a1, .int a2] sz D vwCl (tY Y) (wM Y A S)) (va_Qi Q (fun S' t => gH D vwCl (tY Y) (wM Y A S') t) (gF A 44 sz)) 0 0 (gF A 44 sz) := by
  refine gMet_i (cc := cX10_share) (maxL := 4) (by decide +kernel) rfl (Nat.le_of_ble_eq_true rfl) (fun p e s m args below meth c Z H locs hx hb hml hts hown hK hP hS hret ls hl => ?_)
  have hown : s.vm.findClass RX10 = some m.cls := hown
  have hl : lv_has ls 4 [(0, .ref (A 0)), (1, .int a1), (2, .int a2)] := hl
  have hD : ∀ S0 : gS, va_D (gF A 44 s.heap.size) (wM Y A S0) := fun S0 => dM hI S0 (fun k hk => gF_in hk)
  have k0 : ∀ w ∈ u_ws RX10 TX10 54, w ∈ wsX10_share := by decide +kernel
  have k1 := hts (.fieldLink RX10 86 "CoastWatchModel" "shares" "[I") (by decide +kernel)
  refine lv_iload_n hx hb dX10_share_0 rfl (lv_at hl 1 rfl) ?_
  refine gSi (As := [.int a1]) (rest := []) ⟨hx, hb, hml, hown, hts⟩ (kX10_isCove l D Y A hI H.size S a1 _ h) (va_cwS 1 hts gX10_share_X10_isCove rfl rfl rfl (by decide +kernel) ⟨Nat.le_of_ble_eq_true rfl, Nat.le_of_ble_eq_true rfl⟩) hK hP hS (gF_le hS.1) rfl rfl hl.1 (Nat.le_of_ble_eq_true rfl) dX10_share_1 ⟨Nat.zero_le _, Nat.zero_le _⟩ ?_
  intro r2 S1 H locs h hP hS
  refine lv_if_ne (tgt := 13) hx hb dX10_share_4 (by decide) (fun c3 => ?_) (fun c3 => ?_)
  · have h := h.2 c3
    refine lv_iload_n hx hb dX10_share_13 rfl (lv_at hl 2 rfl) ?_
    refine lv_if_ge (tgt := 24) hx hb dX10_share_14 (by decide) (fun c4 => ?_) (fun c4 => ?_)
    · have h := h.1 c4
      refine lv_iload_n hx hb dX10_share_24 rfl (lv_at hl 2 rfl) ?_
      refine lv_bipush (v := (99 : Int32)) hx hb dX10_share_25 (by decide) ?_
      refine lv_icmp_le (tgt := 37) hx hb dX10_share_27 (by decide) (fun c5 => ?_) (fun c5 => ?_)
      · have h := h.1 c5
        refine lv_aload_n hx hb dX10_share_37 rfl (lv_at hl 0 rfl) ?_
        refine va_get (ci := 10) (v := .ref (A 25)) (C := RX10) (T := TX10) (N := 54) hx hb hts k0 hown hK hP 0 (aM0 Y A S1) rfl 29 (by decide) k1 (fun _ h9 => h9) rfl dX10_share_38 ?_
        refine lv_iload_n hx hb dX10_share_41 rfl (lv_at hl 1 rfl) ?_
        have v_6 := h.1
        have h := h.2
        refine va_iald hx hb hK hP 25 0 (aM25 Y A S1) rfl v_6 dX10_share_42 ?_
        refine lv_topi (fun x7 ex7 => ?_)
        have h := h x7 ex7
        refine lv_istore_n (lv' := [(3, .int x7), (0, .ref (A 0)), (1, .int a1), (2, .int a2)]) hx hb dX10_share_43 rfl hl (by decide) rfl (fun ls hl => ?_)
        refine lv_aload_n hx hb dX10_share_44 rfl (lv_at hl 1 rfl) ?_
        refine va_get (ci := 10) (v := .ref (A 25)) (C := RX10) (T := TX10) (N := 54) hx hb hts k0 hown hK hP 0 (aM0 Y A S1) rfl 29 (by decide) k1 (fun _ h9 => h9) rfl dX10_share_45 ?_
        refine lv_iload_n hx hb dX10_share_48 rfl (lv_at hl 2 rfl) ?_
        refine lv_iload_n hx hb dX10_share_49 rfl (lv_at hl 3 rfl) ?_
        obtain ⟨S8, eS8⟩ : ∃ z : gS, z = sA S1 24 (upd (ga S1 24) a1.toNatClampNeg a2) := ⟨_, rfl⟩
        refine va_iast hx hb hK hP (hD S1) hS 25 0 (aM25 Y A S1) rfl v_6 dX10_share_50 (fun H locs hP _ hS => ?_)
        have hP := uM25 eS8 hP
        have h := h S8 eS8
        refine lv_iload_n hx hb dX10_share_51 rfl (lv_at hl 0 rfl) ?_
        exact hret _ _ _ _ _ _ dX10_share_52 h hP hS
      · have h := h.2 c5
        refine lv_aload_n hx hb dX10_share_30 rfl (lv_at hl 0 rfl) ?_
        refine lv_bipush (v := (-6 : Int32)) hx hb dX10_share_31 (by decide) ?_
        refine gVi (As := [.int (-6 : Int32)]) (rest := []) ⟨hx, hb, hml, hown, hts⟩ (kX10_refuse l D Y A hI H.size S1 (-6 : Int32) _ h) (cwV 1 hts gX10_share_X10_refuse rfl rfl rfl (by decide +kernel) ⟨Nat.le_of_ble_eq_true rfl, Nat.le_of_ble_eq_true rfl⟩) hK hP hS (gF_le hS.1) (aM0 Y A S1) (show vwCl[10]? = some (RX10, TX10, 54) from rfl) rfl rfl hl.1 (Nat.le_of_ble_eq_true rfl) dX10_share_33 ⟨Nat.zero_le _, Nat.zero_le _⟩ ?_
        intro r10 S9 H locs h hP hS
        exact hret _ _ _ _ _ _ dX10_share_36 h hP hS
    · have h := h.2 c4
      refine lv_aload_n hx hb dX10_share_17 rfl (lv_at hl 0 rfl) ?_
      refine lv_bipush (v := (-4 : Int32)) hx hb dX10_share_18 (by decide) ?_
      refine gVi (As := [.int (-4 : Int32)]) (rest := []) ⟨hx, hb, hml, hown, hts⟩ (kX10_refuse l D Y A hI H.size S1 (-4 : Int32) _ h) (cwV 1 hts gX10_share_X10_refuse rfl rfl rfl (by decide +kernel) ⟨Nat.le_of_ble_eq_true rfl, Nat.le_of_ble_eq_true rfl⟩) hK hP hS (gF_le hS.1) (aM0 Y A S1) (show vwCl[10]? = some (RX10, TX10, 54) from rfl) rfl rfl hl.1 (Nat.le_of_ble_eq_true rfl) dX10_share_20 ⟨Nat.zero_le _, Nat.zero_le _⟩ ?_
      intro r12 S11 H locs h hP hS
      exact hret _ _ _ _ _ _ dX10_share_23 h hP hS
  · have h := h.1 c3
    refine lv_aload_n hx hb dX10_share_7 rfl (lv_at hl 0 rfl) ?_
    refine lv_iconst (v := (-1 : Int32)) hx hb dX10_share_8 (by decide) ?_
    refine gVi (As := [.int (-1 : Int32)]) (rest := []) ⟨hx, hb, hml, hown, hts⟩ (kX10_refuse l D Y A hI H.size S1 (-1 : Int32) _ h) (cwV 1 hts gX10_share_X10_refuse rfl rfl rfl (by decide +kernel) ⟨Nat.le_of_ble_eq_true rfl, Nat.le_of_ble_eq_true rfl⟩) hK hP hS (gF_le hS.1) (aM0 Y A S1) (show vwCl[10]? = some (RX10, TX10, 54) from rfl) rfl rfl hl.1 (Nat.le_of_ble_eq_true rfl) dX10_share_9 ⟨Nat.zero_le _, Nat.zero_le _⟩ ?_
    intro r14 S13 H locs h hP hS
    exact hret _ _ _ _ _ _ dX10_share_12 h hP hS

def qX10_draws (S : gS) (a1 : Int32) (Q : Int32 → gS → Prop) : Prop :=
  (0 ≤ a1 → ((a1 ≤ (9 : Int32) → (∀ x3 : Int32, x3 = (gi S 5) → (∀ S4 : gS, S4 = sI S 5 a1 → (Q x3 S4)))) ∧ (¬ a1 ≤ (9 : Int32) → (qX10_refuse S (-6 : Int32) (fun r6 S5 => Q r6 S5))))) ∧ (¬ 0 ≤ a1 → (qX10_refuse S (-4 : Int32) (fun r8 S7 => Q r8 S7)))
abbrev rmX10_draws : Room := { frames := 1, cells := 0, slots := 0, locals := 21 }
set_option maxHeartbeats 4000000 in
set_option maxRecDepth 100000 in
theorem kX10_draws (l : Launch) (D : va_G) (Y : Nat → ClassId) (A : Nat → Nat) (hI : iM A) (sz : Nat) (S : gS) (a1 : Int32) (Q : Int32 → gS → Prop) (h : qX10_draws S a1 Q) : Met l yX10_draws wsX10_draws rmX10_draws (gPc [.ref (A 0), .int a1] sz D vwCl (tY Y) (wM Y A S)) (va_Qi Q (fun S' t => gH D vwCl (tY Y) (wM Y A S') t) (gF A 44 sz)) 0 0 (gF A 44 sz) := by
  refine gMet_i (cc := cX10_draws) (maxL := 3) (by decide +kernel) rfl (Nat.le_of_ble_eq_true rfl) (fun p e s m args below meth c Z H locs hx hb hml hts hown hK hP hS hret ls hl => ?_)
  have hown : s.vm.findClass RX10 = some m.cls := hown
  have hl : lv_has ls 3 [(0, .ref (A 0)), (1, .int a1)] := hl
  have hD : ∀ S0 : gS, va_D (gF A 44 s.heap.size) (wM Y A S0) := fun S0 => dM hI S0 (fun k hk => gF_in hk)
  have k0 : ∀ w ∈ u_ws RX10 TX10 54, w ∈ wsX10_draws := by decide +kernel
  have k1 := hts (.fieldLink RX10 167 "CoastWatchModel" "drawMany" "I") (by decide +kernel)
  refine lv_iload_n hx hb dX10_draws_0 rfl (lv_at hl 1 rfl) ?_
  refine lv_if_ge (tgt := 11) hx hb dX10_draws_1 (by decide) (fun c1 => ?_) (fun c1 => ?_)
  · have h := h.1 c1
    refine lv_iload_n hx hb dX10_draws_11 rfl (lv_at hl 1 rfl) ?_
    refine lv_bipush (v := (9 : Int32)) hx hb dX10_draws_12 (by decide) ?_
    refine lv_icmp_le (tgt := 24) hx hb dX10_draws_14 (by decide) (fun c2 => ?_) (fun c2 => ?_)
    · have h := h.1 c2
      refine lv_aload_n hx hb dX10_draws_24 rfl (lv_at hl 0 rfl) ?_
      refine va_get (ci := 10) (v := .int (gi S 5)) (C := RX10) (T := TX10) (N := 54) hx hb hts k0 hown hK hP 0 (aM0 Y A S) rfl 33 (by decide) k1 (fun _ h9 => h9) rfl dX10_draws_25 ?_
      refine lv_topi (fun x3 ex3 => ?_)
      have h := h x3 ex3
      refine lv_istore_n (lv' := [(2, .int x3), (0, .ref (A 0)), (1, .int a1)]) hx hb dX10_draws_28 rfl hl (by decide) rfl (fun ls hl => ?_)
      refine lv_aload_n hx hb dX10_draws_29 rfl (lv_at hl 1 rfl) ?_
      refine lv_iload_n hx hb dX10_draws_30 rfl (lv_at hl 2 rfl) ?_
      obtain ⟨S4, eS4⟩ : ∃ z : gS, z = sI S 5 a1 := ⟨_, rfl⟩
      have h := h S4 eS4
      refine va_put (ci := 10) (v := .int a1) (ty := .int) (C := RX10) (T := TX10) (N := 54) hx hb hts k0 tyX10 tyX10_ok nmX10 hown hK hP (hD S) hS 0 (aM0 Y A S) rfl 33 (by decide) k1 (fun _ h9 => h9) rfl rfl rfl rfl (by simp) dX10_draws_31 (fun H locs hP _ hS => ?_)
      have hP := pM0_33 eS4 hP
      refine lv_iload_n hx hb dX10_draws_34 rfl (lv_at hl 0 rfl) ?_
      exact hret _ _ _ _ _ _ dX10_draws_35 h hP hS
    · have h := h.2 c2
      refine lv_aload_n hx hb dX10_draws_17 rfl (lv_at hl 0 rfl) ?_
      refine lv_bipush (v := (-6 : Int32)) hx hb dX10_draws_18 (by decide) ?_
      refine gVi (As := [.int (-6 : Int32)]) (rest := []) ⟨hx, hb, hml, hown, hts⟩ (kX10_refuse l D Y A hI H.size S (-6 : Int32) _ h) (cwV 1 hts gX10_draws_X10_refuse rfl rfl rfl (by decide +kernel) ⟨Nat.le_of_ble_eq_true rfl, Nat.le_of_ble_eq_true rfl⟩) hK hP hS (gF_le hS.1) (aM0 Y A S) (show vwCl[10]? = some (RX10, TX10, 54) from rfl) rfl rfl hl.1 (Nat.le_of_ble_eq_true rfl) dX10_draws_20 ⟨Nat.zero_le _, Nat.zero_le _⟩ ?_
      intro r6 S5 H locs h hP hS
      exact hret _ _ _ _ _ _ dX10_draws_23 h hP hS
  · have h := h.2 c1
    refine lv_aload_n hx hb dX10_draws_4 rfl (lv_at hl 0 rfl) ?_
    refine lv_bipush (v := (-4 : Int32)) hx hb dX10_draws_5 (by decide) ?_
    refine gVi (As := [.int (-4 : Int32)]) (rest := []) ⟨hx, hb, hml, hown, hts⟩ (kX10_refuse l D Y A hI H.size S (-4 : Int32) _ h) (cwV 1 hts gX10_draws_X10_refuse rfl rfl rfl (by decide +kernel) ⟨Nat.le_of_ble_eq_true rfl, Nat.le_of_ble_eq_true rfl⟩) hK hP hS (gF_le hS.1) (aM0 Y A S) (show vwCl[10]? = some (RX10, TX10, 54) from rfl) rfl rfl hl.1 (Nat.le_of_ble_eq_true rfl) dX10_draws_7 ⟨Nat.zero_le _, Nat.zero_le _⟩ ?_
    intro r8 S7 H locs h hP hS
    exact hret _ _ _ _ _ _ dX10_draws_10 h hP hS

def qX10_price (S : gS) (a1 : Int32) (Q : Int32 → gS → Prop) : Prop :=
  (0 ≤ a1 → ((a1 ≤ (999 : Int32) → (∀ x3 : Int32, x3 = (gi S 6) → (∀ S4 : gS, S4 = sI S 6 a1 → (Q x3 S4)))) ∧ (¬ a1 ≤ (999 : Int32) → (qX10_refuse S (-6 : Int32) (fun r6 S5 => Q r6 S5))))) ∧ (¬ 0 ≤ a1 → (qX10_refuse S (-4 : Int32) (fun r8 S7 => Q r8 S7)))
abbrev rmX10_price : Room := { frames := 1, cells := 0, slots := 0, locals := 21 }
set_option maxHeartbeats 4000000 in
set_option maxRecDepth 100000 in
theorem kX10_price (l : Launch) (D : va_G) (Y : Nat → ClassId) (A : Nat → Nat) (hI : iM A) (sz : Nat) (S : gS) (a1 : Int32) (Q : Int32 → gS → Prop) (h : qX10_price S a1 Q) : Met l yX10_price wsX10_price rmX10_price (gPc [.ref (A 0), .int a1] sz D vwCl (tY Y) (wM Y A S)) (va_Qi Q (fun S' t => gH D vwCl (tY Y) (wM Y A S') t) (gF A 44 sz)) 0 0 (gF A 44 sz) := by
  refine gMet_i (cc := cX10_price) (maxL := 3) (by decide +kernel) rfl (Nat.le_of_ble_eq_true rfl) (fun p e s m args below meth c Z H locs hx hb hml hts hown hK hP hS hret ls hl => ?_)
  have hown : s.vm.findClass RX10 = some m.cls := hown
  have hl : lv_has ls 3 [(0, .ref (A 0)), (1, .int a1)] := hl
  have hD : ∀ S0 : gS, va_D (gF A 44 s.heap.size) (wM Y A S0) := fun S0 => dM hI S0 (fun k hk => gF_in hk)
  have k0 : ∀ w ∈ u_ws RX10 TX10 54, w ∈ wsX10_price := by decide +kernel
  have k1 := hts (.fieldLink RX10 170 "CoastWatchModel" "price" "I") (by decide +kernel)
  refine lv_iload_n hx hb dX10_price_0 rfl (lv_at hl 1 rfl) ?_
  refine lv_if_ge (tgt := 11) hx hb dX10_price_1 (by decide) (fun c1 => ?_) (fun c1 => ?_)
  · have h := h.1 c1
    refine lv_iload_n hx hb dX10_price_11 rfl (lv_at hl 1 rfl) ?_
    refine lv_sipush (v := (999 : Int32)) hx hb dX10_price_12 (by decide) ?_
    refine lv_icmp_le (tgt := 25) hx hb dX10_price_15 (by decide) (fun c2 => ?_) (fun c2 => ?_)
    · have h := h.1 c2
      refine lv_aload_n hx hb dX10_price_25 rfl (lv_at hl 0 rfl) ?_
      refine va_get (ci := 10) (v := .int (gi S 6)) (C := RX10) (T := TX10) (N := 54) hx hb hts k0 hown hK hP 0 (aM0 Y A S) rfl 34 (by decide) k1 (fun _ h9 => h9) rfl dX10_price_26 ?_
      refine lv_topi (fun x3 ex3 => ?_)
      have h := h x3 ex3
      refine lv_istore_n (lv' := [(2, .int x3), (0, .ref (A 0)), (1, .int a1)]) hx hb dX10_price_29 rfl hl (by decide) rfl (fun ls hl => ?_)
      refine lv_aload_n hx hb dX10_price_30 rfl (lv_at hl 1 rfl) ?_
      refine lv_iload_n hx hb dX10_price_31 rfl (lv_at hl 2 rfl) ?_
      obtain ⟨S4, eS4⟩ : ∃ z : gS, z = sI S 6 a1 := ⟨_, rfl⟩
      have h := h S4 eS4
      refine va_put (ci := 10) (v := .int a1) (ty := .int) (C := RX10) (T := TX10) (N := 54) hx hb hts k0 tyX10 tyX10_ok nmX10 hown hK hP (hD S) hS 0 (aM0 Y A S) rfl 34 (by decide) k1 (fun _ h9 => h9) rfl rfl rfl rfl (by simp) dX10_price_32 (fun H locs hP _ hS => ?_)
      have hP := pM0_34 eS4 hP
      refine lv_iload_n hx hb dX10_price_35 rfl (lv_at hl 0 rfl) ?_
      exact hret _ _ _ _ _ _ dX10_price_36 h hP hS
    · have h := h.2 c2
      refine lv_aload_n hx hb dX10_price_18 rfl (lv_at hl 0 rfl) ?_
      refine lv_bipush (v := (-6 : Int32)) hx hb dX10_price_19 (by decide) ?_
      refine gVi (As := [.int (-6 : Int32)]) (rest := []) ⟨hx, hb, hml, hown, hts⟩ (kX10_refuse l D Y A hI H.size S (-6 : Int32) _ h) (cwV 1 hts gX10_price_X10_refuse rfl rfl rfl (by decide +kernel) ⟨Nat.le_of_ble_eq_true rfl, Nat.le_of_ble_eq_true rfl⟩) hK hP hS (gF_le hS.1) (aM0 Y A S) (show vwCl[10]? = some (RX10, TX10, 54) from rfl) rfl rfl hl.1 (Nat.le_of_ble_eq_true rfl) dX10_price_21 ⟨Nat.zero_le _, Nat.zero_le _⟩ ?_
      intro r6 S5 H locs h hP hS
      exact hret _ _ _ _ _ _ dX10_price_24 h hP hS
  · have h := h.2 c1
    refine lv_aload_n hx hb dX10_price_4 rfl (lv_at hl 0 rfl) ?_
    refine lv_bipush (v := (-4 : Int32)) hx hb dX10_price_5 (by decide) ?_
    refine gVi (As := [.int (-4 : Int32)]) (rest := []) ⟨hx, hb, hml, hown, hts⟩ (kX10_refuse l D Y A hI H.size S (-4 : Int32) _ h) (cwV 1 hts gX10_price_X10_refuse rfl rfl rfl (by decide +kernel) ⟨Nat.le_of_ble_eq_true rfl, Nat.le_of_ble_eq_true rfl⟩) hK hP hS (gF_le hS.1) (aM0 Y A S) (show vwCl[10]? = some (RX10, TX10, 54) from rfl) rfl rfl hl.1 (Nat.le_of_ble_eq_true rfl) dX10_price_7 ⟨Nat.zero_le _, Nat.zero_le _⟩ ?_
    intro r8 S7 H locs h hP hS
    exact hret _ _ _ _ _ _ dX10_price_10 h hP hS

def qX10_law (S : gS) (a1 : Int32) (a2 : Int32) (a3 : Int32) (Q : Int32 → gS → Prop) : Prop :=
  (a1 < 0 → (qX10_refuse S (-4 : Int32) (fun r3 S2 => Q r3 S2))) ∧ (¬ a1 < 0 → ((a2 < 0 → (qX10_refuse S (-4 : Int32) (fun r6 S5 => Q r6 S5))) ∧ (¬ a2 < 0 → (((gi S 1) ≤ a3 → (((100 : Int32) < a1 → (qX10_refuse S (-6 : Int32) (fun r10 S9 => Q r10 S9))) ∧ (¬ (100 : Int32) < a1 → ((((100 : Int32) - a1) < a2 → (qX10_refuse S (-6 : Int32) (fun r13 S12 => Q r13 S12))) ∧ (¬ ((100 : Int32) - a1) < a2 → (((1000 : Int32) < a3 → (qX10_refuse S (-6 : Int32) (fun r16 S15 => Q r16 S15))) ∧ (¬ (1000 : Int32) < a3 → (((gi S 7) = (20 : Int32) → (qX10_refuse S (-6 : Int32) (fun r26 S25 => Q r26 S25))) ∧ (¬ (gi S 7) = (20 : Int32) → (vp_in (gi S 7) 20 ∧ (∀ S18 : gS, S18 = sA S 28 (upd (ga S 28) (gi S 7).toNatClampNeg a1) → (vp_in (gi S18 7) 20 ∧ (∀ S20 : gS, S20 = sA S18 29 (upd (ga S18 29) (gi S18 7).toNatClampNeg a2) → (vp_in (gi S20 7) 20 ∧ (∀ S22 : gS, S22 = sA S20 30 (upd (ga S20 30) (gi S20 7).toNatClampNeg a3) → (∀ S24 : gS, S24 = sI S22 7 ((gi S22 7) + (1 : Int32)) → (Q ((gi S24 7) - (1 : Int32)) S24))))))))))))))))) ∧ (¬ (gi S 1) ≤ a3 → (qX10_refuse S (-4 : Int32) (fun r28 S27 => Q r28 S27)))))))
abbrev rmX10_law : Room := { frames := 1, cells := 0, slots := 0, locals := 21 }
set_option maxHeartbeats 4000000 in
set_option maxRecDepth 100000 in
theorem kX10_law (l : Launch) (D : va_G) (Y : Nat → ClassId) (A : Nat → Nat) (hI : iM A) (sz : Nat) (S : gS) (a1 : Int32) (a2 : Int32) (a3 : Int32) (Q : Int32 → gS → Prop) (h : qX10_law S a1 a2 a3 Q) : Met l yX10_law wsX10_law rmX10_law (gPc [.ref (A 0), .int a1, .int a2, .int a3] sz D vwCl (tY Y) (wM Y A S)) (va_Qi Q (fun S' t => gH D vwCl (tY Y) (wM Y A S') t) (gF A 44 sz)) 0 0 (gF A 44 sz) := by
  refine gMet_i (cc := cX10_law) (maxL := 4) (by decide +kernel) rfl (Nat.le_of_ble_eq_true rfl) (fun p e s m args below meth c Z H locs hx hb hml hts hown hK hP hS hret ls hl => ?_)
  have hown : s.vm.findClass RX10 = some m.cls := hown
  have hl : lv_has ls 4 [(0, .ref (A 0)), (1, .int a1), (2, .int a2), (3, .int a3)] := hl
  have hD : ∀ S0 : gS, va_D (gF A 44 s.heap.size) (wM Y A S0) := fun S0 => dM hI S0 (fun k hk => gF_in hk)
  have k0 : ∀ w ∈ u_ws RX10 TX10 54, w ∈ wsX10_law := by decide +kernel
  have k1 := hts (.fieldLink RX10 173 "CoastWatchModel" "night" "I") (by decide +kernel)
  have k2 := hts (.fieldLink RX10 176 "CoastWatchModel" "laws" "I") (by decide +kernel)
  have k3 := hts (.fieldLink RX10 99 "CoastWatchModel" "lawCrew" "[I") (by decide +kernel)
  have k4 := hts (.fieldLink RX10 102 "CoastWatchModel" "lawInformer" "[I") (by decide +kernel)
  have k5 := hts (.fieldLink RX10 105 "CoastWatchModel" "lawNight" "[I") (by decide +kernel)
  refine lv_iload_n hx hb dX10_law_0 rfl (lv_at hl 1 rfl) ?_
  refine lv_if_lt (tgt := 16) hx hb dX10_law_1 (by decide) (fun c1 => ?_) (fun c1 => ?_)
  · have h := h.1 c1
    refine lv_aload_n hx hb dX10_law_16 rfl (lv_at hl 0 rfl) ?_
    refine lv_bipush (v := (-4 : Int32)) hx hb dX10_law_17 (by decide) ?_
    refine gVi (As := [.int (-4 : Int32)]) (rest := []) ⟨hx, hb, hml, hown, hts⟩ (kX10_refuse l D Y A hI H.size S (-4 : Int32) _ h) (cwV 1 hts gX10_law_X10_refuse rfl rfl rfl (by decide +kernel) ⟨Nat.le_of_ble_eq_true rfl, Nat.le_of_ble_eq_true rfl⟩) hK hP hS (gF_le hS.1) (aM0 Y A S) (show vwCl[10]? = some (RX10, TX10, 54) from rfl) rfl rfl hl.1 (Nat.le_of_ble_eq_true rfl) dX10_law_19 ⟨Nat.zero_le _, Nat.zero_le _⟩ ?_
    intro r3 S2 H locs h hP hS
    exact hret _ _ _ _ _ _ dX10_law_22 h hP hS
  · have h := h.2 c1
    refine lv_iload_n hx hb dX10_law_4 rfl (lv_at hl 2 rfl) ?_
    refine lv_if_lt (tgt := 16) hx hb dX10_law_5 (by decide) (fun c4 => ?_) (fun c4 => ?_)
    · have h := h.1 c4
      refine lv_aload_n hx hb dX10_law_16 rfl (lv_at hl 0 rfl) ?_
      refine lv_bipush (v := (-4 : Int32)) hx hb dX10_law_17 (by decide) ?_
      refine gVi (As := [.int (-4 : Int32)]) (rest := []) ⟨hx, hb, hml, hown, hts⟩ (kX10_refuse l D Y A hI H.size S (-4 : Int32) _ h) (cwV 1 hts gX10_law_X10_refuse rfl rfl rfl (by decide +kernel) ⟨Nat.le_of_ble_eq_true rfl, Nat.le_of_ble_eq_true rfl⟩) hK hP hS (gF_le hS.1) (aM0 Y A S) (show vwCl[10]? = some (RX10, TX10, 54) from rfl) rfl rfl hl.1 (Nat.le_of_ble_eq_true rfl) dX10_law_19 ⟨Nat.zero_le _, Nat.zero_le _⟩ ?_
      intro r6 S5 H locs h hP hS
      exact hret _ _ _ _ _ _ dX10_law_22 h hP hS
    · have h := h.2 c4
      refine lv_iload_n hx hb dX10_law_8 rfl (lv_at hl 3 rfl) ?_
      refine lv_aload_n hx hb dX10_law_9 rfl (lv_at hl 0 rfl) ?_
      refine va_get (ci := 10) (v := .int (gi S 1)) (C := RX10) (T := TX10) (N := 54) hx hb hts k0 hown hK hP 0 (aM0 Y A S) rfl 1 (by decide) k1 (fun _ h9 => h9) rfl dX10_law_10 ?_
      refine lv_icmp_ge (tgt := 23) hx hb dX10_law_13 (by decide) (fun c7 => ?_) (fun c7 => ?_)
      · have h := h.1 c7
        refine lv_iload_n hx hb dX10_law_23 rfl (lv_at hl 1 rfl) ?_
        refine lv_bipush (v := (100 : Int32)) hx hb dX10_law_24 (by decide) ?_
        refine lv_icmp_gt (tgt := 53) hx hb dX10_law_26 (by decide) (fun c8 => ?_) (fun c8 => ?_)
        · have h := h.1 c8
          refine lv_aload_n hx hb dX10_law_53 rfl (lv_at hl 0 rfl) ?_
          refine lv_bipush (v := (-6 : Int32)) hx hb dX10_law_54 (by decide) ?_
          refine gVi (As := [.int (-6 : Int32)]) (rest := []) ⟨hx, hb, hml, hown, hts⟩ (kX10_refuse l D Y A hI H.size S (-6 : Int32) _ h) (cwV 1 hts gX10_law_X10_refuse rfl rfl rfl (by decide +kernel) ⟨Nat.le_of_ble_eq_true rfl, Nat.le_of_ble_eq_true rfl⟩) hK hP hS (gF_le hS.1) (aM0 Y A S) (show vwCl[10]? = some (RX10, TX10, 54) from rfl) rfl rfl hl.1 (Nat.le_of_ble_eq_true rfl) dX10_law_56 ⟨Nat.zero_le _, Nat.zero_le _⟩ ?_
          intro r10 S9 H locs h hP hS
          exact hret _ _ _ _ _ _ dX10_law_59 h hP hS
        · have h := h.2 c8
          refine lv_iload_n hx hb dX10_law_29 rfl (lv_at hl 2 rfl) ?_
          refine lv_bipush (v := (100 : Int32)) hx hb dX10_law_30 (by decide) ?_
          refine lv_iload_n hx hb dX10_law_32 rfl (lv_at hl 1 rfl) ?_
          refine lv_isub hx hb dX10_law_33 ?_
          refine lv_icmp_gt (tgt := 53) hx hb dX10_law_34 (by decide) (fun c11 => ?_) (fun c11 => ?_)
          · have h := h.1 c11
            refine lv_aload_n hx hb dX10_law_53 rfl (lv_at hl 0 rfl) ?_
            refine lv_bipush (v := (-6 : Int32)) hx hb dX10_law_54 (by decide) ?_
            refine gVi (As := [.int (-6 : Int32)]) (rest := []) ⟨hx, hb, hml, hown, hts⟩ (kX10_refuse l D Y A hI H.size S (-6 : Int32) _ h) (cwV 1 hts gX10_law_X10_refuse rfl rfl rfl (by decide +kernel) ⟨Nat.le_of_ble_eq_true rfl, Nat.le_of_ble_eq_true rfl⟩) hK hP hS (gF_le hS.1) (aM0 Y A S) (show vwCl[10]? = some (RX10, TX10, 54) from rfl) rfl rfl hl.1 (Nat.le_of_ble_eq_true rfl) dX10_law_56 ⟨Nat.zero_le _, Nat.zero_le _⟩ ?_
            intro r13 S12 H locs h hP hS
            exact hret _ _ _ _ _ _ dX10_law_59 h hP hS
          · have h := h.2 c11
            refine lv_iload_n hx hb dX10_law_37 rfl (lv_at hl 3 rfl) ?_
            refine lv_sipush (v := (1000 : Int32)) hx hb dX10_law_38 (by decide) ?_
            refine lv_icmp_gt (tgt := 53) hx hb dX10_law_41 (by decide) (fun c14 => ?_) (fun c14 => ?_)
            · have h := h.1 c14
              refine lv_aload_n hx hb dX10_law_53 rfl (lv_at hl 0 rfl) ?_
              refine lv_bipush (v := (-6 : Int32)) hx hb dX10_law_54 (by decide) ?_
              refine gVi (As := [.int (-6 : Int32)]) (rest := []) ⟨hx, hb, hml, hown, hts⟩ (kX10_refuse l D Y A hI H.size S (-6 : Int32) _ h) (cwV 1 hts gX10_law_X10_refuse rfl rfl rfl (by decide +kernel) ⟨Nat.le_of_ble_eq_true rfl, Nat.le_of_ble_eq_true rfl⟩) hK hP hS (gF_le hS.1) (aM0 Y A S) (show vwCl[10]? = some (RX10, TX10, 54) from rfl) rfl rfl hl.1 (Nat.le_of_ble_eq_true rfl) dX10_law_56 ⟨Nat.zero_le _, Nat.zero_le _⟩ ?_
              intro r16 S15 H locs h hP hS
              exact hret _ _ _ _ _ _ dX10_law_59 h hP hS
            · have h := h.2 c14
              refine lv_aload_n hx hb dX10_law_44 rfl (lv_at hl 0 rfl) ?_
              refine va_get (ci := 10) (v := .int (gi S 7)) (C := RX10) (T := TX10) (N := 54) hx hb hts k0 hown hK hP 0 (aM0 Y A S) rfl 35 (by decide) k2 (fun _ h9 => h9) rfl dX10_law_45 ?_
              refine lv_bipush (v := (20 : Int32)) hx hb dX10_law_48 (by decide) ?_
              refine lv_icmp_ne (tgt := 60) hx hb dX10_law_50 (by decide) (fun c17 => ?_) (fun c17 => ?_)
              · have h := h.2 c17
                refine lv_aload_n hx hb dX10_law_60 rfl (lv_at hl 0 rfl) ?_
                refine va_get (ci := 10) (v := .ref (A 29)) (C := RX10) (T := TX10) (N := 54) hx hb hts k0 hown hK hP 0 (aM0 Y A S) rfl 36 (by decide) k3 (fun _ h9 => h9) rfl dX10_law_61 ?_
                refine lv_aload_n hx hb dX10_law_64 rfl (lv_at hl 0 rfl) ?_
                refine va_get (ci := 10) (v := .int (gi S 7)) (C := RX10) (T := TX10) (N := 54) hx hb hts k0 hown hK hP 0 (aM0 Y A S) rfl 35 (by decide) k2 (fun _ h9 => h9) rfl dX10_law_65 ?_
                refine lv_iload_n hx hb dX10_law_68 rfl (lv_at hl 1 rfl) ?_
                have v_19 := h.1
                have h := h.2
                obtain ⟨S18, eS18⟩ : ∃ z : gS, z = sA S 28 (upd (ga S 28) (gi S 7).toNatClampNeg a1) := ⟨_, rfl⟩
                refine va_iast hx hb hK hP (hD S) hS 29 0 (aM29 Y A S) rfl v_19 dX10_law_69 (fun H locs hP _ hS => ?_)
                have hP := uM29 eS18 hP
                have h := h S18 eS18
                refine lv_aload_n hx hb dX10_law_70 rfl (lv_at hl 0 rfl) ?_
                refine va_get (ci := 10) (v := .ref (A 30)) (C := RX10) (T := TX10) (N := 54) hx hb hts k0 hown hK hP 0 (aM0 Y A S18) rfl 37 (by decide) k4 (fun _ h9 => h9) rfl dX10_law_71 ?_
                refine lv_aload_n hx hb dX10_law_74 rfl (lv_at hl 0 rfl) ?_
                refine va_get (ci := 10) (v := .int (gi S18 7)) (C := RX10) (T := TX10) (N := 54) hx hb hts k0 hown hK hP 0 (aM0 Y A S18) rfl 35 (by decide) k2 (fun _ h9 => h9) rfl dX10_law_75 ?_
                refine lv_iload_n hx hb dX10_law_78 rfl (lv_at hl 2 rfl) ?_
                have v_21 := h.1
                have h := h.2
                obtain ⟨S20, eS20⟩ : ∃ z : gS, z = sA S18 29 (upd (ga S18 29) (gi S18 7).toNatClampNeg a2) := ⟨_, rfl⟩
                refine va_iast hx hb hK hP (hD S18) hS 30 0 (aM30 Y A S18) rfl v_21 dX10_law_79 (fun H locs hP _ hS => ?_)
                have hP := uM30 eS20 hP
                have h := h S20 eS20
                refine lv_aload_n hx hb dX10_law_80 rfl (lv_at hl 0 rfl) ?_
                refine va_get (ci := 10) (v := .ref (A 31)) (C := RX10) (T := TX10) (N := 54) hx hb hts k0 hown hK hP 0 (aM0 Y A S20) rfl 38 (by decide) k5 (fun _ h9 => h9) rfl dX10_law_81 ?_
                refine lv_aload_n hx hb dX10_law_84 rfl (lv_at hl 0 rfl) ?_
                refine va_get (ci := 10) (v := .int (gi S20 7)) (C := RX10) (T := TX10) (N := 54) hx hb hts k0 hown hK hP 0 (aM0 Y A S20) rfl 35 (by decide) k2 (fun _ h9 => h9) rfl dX10_law_85 ?_
                refine lv_iload_n hx hb dX10_law_88 rfl (lv_at hl 3 rfl) ?_
                have v_23 := h.1
                have h := h.2
                obtain ⟨S22, eS22⟩ : ∃ z : gS, z = sA S20 30 (upd (ga S20 30) (gi S20 7).toNatClampNeg a3) := ⟨_, rfl⟩
                refine va_iast hx hb hK hP (hD S20) hS 31 0 (aM31 Y A S20) rfl v_23 dX10_law_89 (fun H locs hP _ hS => ?_)
                have hP := uM31 eS22 hP
                have h := h S22 eS22
                refine lv_aload_n hx hb dX10_law_90 rfl (lv_at hl 0 rfl) ?_
                refine lv_dup hx hb dX10_law_91 rfl ?_
                refine va_get (ci := 10) (v := .int (gi S22 7)) (C := RX10) (T := TX10) (N := 54) hx hb hts k0 hown hK hP 0 (aM0 Y A S22) rfl 35 (by decide) k2 (fun _ h9 => h9) rfl dX10_law_92 ?_
                refine lv_iconst (v := (1 : Int32)) hx hb dX10_law_95 (by decide) ?_
                refine lv_iadd hx hb dX10_law_96 ?_
                obtain ⟨S24, eS24⟩ : ∃ z : gS, z = sI S22 7 ((gi S22 7) + (1 : Int32)) := ⟨_, rfl⟩
                have h := h S24 eS24
                refine va_put (ci := 10) (v := .int ((gi S22 7) + (1 : Int32))) (ty := .int) (C := RX10) (T := TX10) (N := 54) hx hb hts k0 tyX10 tyX10_ok nmX10 hown hK hP (hD S22) hS 0 (aM0 Y A S22) rfl 35 (by decide) k2 (fun _ h9 => h9) rfl rfl rfl rfl (by simp) dX10_law_97 (fun H locs hP _ hS => ?_)
                have hP := pM0_35 eS24 hP
                refine lv_aload_n hx hb dX10_law_100 rfl (lv_at hl 0 rfl) ?_
                refine va_get (ci := 10) (v := .int (gi S24 7)) (C := RX10) (T := TX10) (N := 54) hx hb hts k0 hown hK hP 0 (aM0 Y A S24) rfl 35 (by decide) k2 (fun _ h9 => h9) rfl dX10_law_101 ?_
                refine lv_iconst (v := (1 : Int32)) hx hb dX10_law_104 (by decide) ?_
                refine lv_isub hx hb dX10_law_105 ?_
                exact hret _ _ _ _ _ _ dX10_law_106 h hP hS
              · have h := h.1 c17
                refine lv_aload_n hx hb dX10_law_53 rfl (lv_at hl 0 rfl) ?_
                refine lv_bipush (v := (-6 : Int32)) hx hb dX10_law_54 (by decide) ?_
                refine gVi (As := [.int (-6 : Int32)]) (rest := []) ⟨hx, hb, hml, hown, hts⟩ (kX10_refuse l D Y A hI H.size S (-6 : Int32) _ h) (cwV 1 hts gX10_law_X10_refuse rfl rfl rfl (by decide +kernel) ⟨Nat.le_of_ble_eq_true rfl, Nat.le_of_ble_eq_true rfl⟩) hK hP hS (gF_le hS.1) (aM0 Y A S) (show vwCl[10]? = some (RX10, TX10, 54) from rfl) rfl rfl hl.1 (Nat.le_of_ble_eq_true rfl) dX10_law_56 ⟨Nat.zero_le _, Nat.zero_le _⟩ ?_
                intro r26 S25 H locs h hP hS
                exact hret _ _ _ _ _ _ dX10_law_59 h hP hS
      · have h := h.2 c7
        refine lv_aload_n hx hb dX10_law_16 rfl (lv_at hl 0 rfl) ?_
        refine lv_bipush (v := (-4 : Int32)) hx hb dX10_law_17 (by decide) ?_
        refine gVi (As := [.int (-4 : Int32)]) (rest := []) ⟨hx, hb, hml, hown, hts⟩ (kX10_refuse l D Y A hI H.size S (-4 : Int32) _ h) (cwV 1 hts gX10_law_X10_refuse rfl rfl rfl (by decide +kernel) ⟨Nat.le_of_ble_eq_true rfl, Nat.le_of_ble_eq_true rfl⟩) hK hP hS (gF_le hS.1) (aM0 Y A S) (show vwCl[10]? = some (RX10, TX10, 54) from rfl) rfl rfl hl.1 (Nat.le_of_ble_eq_true rfl) dX10_law_19 ⟨Nat.zero_le _, Nat.zero_le _⟩ ?_
        intro r28 S27 H locs h hP hS
        exact hret _ _ _ _ _ _ dX10_law_22 h hP hS

def qX10_word_L63 (a1 : Int32) (a2 : Int32) (a3 : Int32) (Q : Int32 → gS → Prop) (K63 : Int32 × gS → Prop) : Int32 × gS → Prop := fun ⟨v4, S⟩ =>
  ((gi S 8) ≤ v4 → (vp_in (gi S 8) 60 ∧ (∀ S2 : gS, S2 = sA S 31 (upd (ga S 31) (gi S 8).toNatClampNeg a1) → (vp_in (gi S2 8) 60 ∧ (∀ S4 : gS, S4 = sA S2 32 (upd (ga S2 32) (gi S2 8).toNatClampNeg a2) → (vp_in (gi S4 8) 60 ∧ (∀ S6 : gS, S6 = sA S4 33 (upd (ga S4 33) (gi S4 8).toNatClampNeg a3) → (∀ S8 : gS, S8 = sI S6 8 ((gi S6 8) + (1 : Int32)) → (Q ((gi S8 8) - (1 : Int32)) S8))))))))) ∧ (¬ (gi S 8) ≤ v4 → (vp_in v4 60 ∧ (((ga S 31 v4.toNatClampNeg) = a1 → (((ga S 32 v4.toNatClampNeg) = a2 → (((ga S 33 v4.toNatClampNeg) = a3 → (qX10_refuse S (-3 : Int32) (fun r17 S16 => Q r17 S16))) ∧ (¬ (ga S 33 v4.toNatClampNeg) = a3 → (∀ x15 : Int32, x15 = v4 + (1 : Int32) → (K63 (x15, S)))))) ∧ (¬ (ga S 32 v4.toNatClampNeg) = a2 → (∀ x13 : Int32, x13 = v4 + (1 : Int32) → (K63 (x13, S)))))) ∧ (¬ (ga S 31 v4.toNatClampNeg) = a1 → (∀ x11 : Int32, x11 = v4 + (1 : Int32) → (K63 (x11, S)))))))
def qX10_word (S : gS) (a1 : Int32) (a2 : Int32) (a3 : Int32) (Q : Int32 → gS → Prop) : Prop :=
  qX10_in S a1 (0 : Int32) (5 : Int32) (fun r19 S18 => (r19 = 0 → (qX10_refuse S18 (-1 : Int32) (fun r22 S21 => Q r22 S21))) ∧ (¬ r19 = 0 → (qX10_isCove S18 a3 (fun r24 S23 => (r24 = 0 → (qX10_refuse S23 (-1 : Int32) (fun r36 S35 => Q r36 S35))) ∧ (¬ r24 = 0 → (((gi S23 1) < a2 → (((1000 : Int32) < a2 → (qX10_refuse S23 (-6 : Int32) (fun r29 S28 => Q r29 S28))) ∧ (¬ (1000 : Int32) < a2 → (((gi S23 8) = (60 : Int32) → (qX10_refuse S23 (-6 : Int32) (fun r32 S31 => Q r32 S31))) ∧ (¬ (gi S23 8) = (60 : Int32) → (lp (qX10_word_L63 a1 a2 a3 Q) ((0 : Int32), S23))))))) ∧ (¬ (gi S23 1) < a2 → (qX10_refuse S23 (-4 : Int32) (fun r34 S33 => Q r34 S33)))))))))
abbrev rmX10_word : Room := { frames := 2, cells := 0, slots := 0, locals := 42 }
set_option maxHeartbeats 4000000 in
set_option maxRecDepth 100000 in
theorem kX10_word (l : Launch) (D : va_G) (Y : Nat → ClassId) (A : Nat → Nat) (hI : iM A) (sz : Nat) (S : gS) (a1 : Int32) (a2 : Int32) (a3 : Int32) (Q : Int32 → gS → Prop) (h : qX10_word S a1 a2 a3 Q) : Met l yX10_word wsX10_word rmX10_word (gPc [.ref (A 0), .int a1, .int a2, .int a3] sz D vwCl (tY Y) (wM Y A S)) (va_Qi Q (fun S' t => gH D vwCl (tY Y) (wM Y A S') t) (gF A 44 sz)) 0 0 (gF A 44 sz) := by
  refine gMet_i (cc := cX10_word) (maxL := 5) (by decide +kernel) rfl (Nat.le_of_ble_eq_true rfl) (fun p e s m args below meth c Z H locs hx hb hml hts hown hK hP hS hret ls hl => ?_)
  have hown : s.vm.findClass RX10 = some m.cls := hown
  have hl : lv_has ls 5 [(0, .ref (A 0)), (1, .int a1), (2, .int a2), (3, .int a3)] := hl
  have hD : ∀ S0 : gS, va_D (gF A 44 s.heap.size) (wM Y A S0) := fun S0 => dM hI S0 (fun k hk => gF_in hk)
  have k0 : ∀ w ∈ u_ws RX10 TX10 54, w ∈ wsX10_word := by decide +kernel
  have k1 := hts (.fieldLink RX10 179 "CoastWatchModel" "words" "I") (by decide +kernel)
  have k2 := hts (.fieldLink RX10 108 "CoastWatchModel" "wordOf" "[I") (by decide +kernel)
  have k3 := hts (.fieldLink RX10 111 "CoastWatchModel" "wordNight" "[I") (by decide +kernel)
  have k4 := hts (.fieldLink RX10 114 "CoastWatchModel" "wordCove" "[I") (by decide +kernel)
  have k5 := hts (.fieldLink RX10 173 "CoastWatchModel" "night" "I") (by decide +kernel)
  have tL63 : ∀ (v4 : Int32) (S : gS), lp (qX10_word_L63 a1 a2 a3 Q) (v4, S) → ∀ (H : Heap) (locs : List Loc) (ls : Array Slot), va_P D vwCl (wM Y A S) H → va_S (gF A 44 s.heap.size) s.heap H locs → lv_has ls 5 [(0, .ref (A 0)), (1, .int a1), (2, .int a2), (3, .int a3), (4, .int v4)] → W p l e rmX10_word s m args below meth c H locs 0 0 Z (F0 m 63 ls []) := by
    intro  v4 S h
    refine lp_walk (G := fun a => match a with | (v4, S) => ∀ (H : Heap) (locs : List Loc) (ls : Array Slot), va_P D vwCl (wM Y A S) H → va_S (gF A 44 s.heap.size) s.heap H locs → lv_has ls 5 [(0, .ref (A 0)), (1, .int a1), (2, .int a2), (3, .int a3), (4, .int v4)] → W p l e rmX10_word s m args below meth c H locs 0 0 Z (F0 m 63 ls [])) (fun K63 a ih63 h => ?_) (v4, S) h
    obtain ⟨v4, S⟩ := a
    have ih63 : ∀ (v4 : Int32) (S : gS), K63 (v4, S) → ∀ (H : Heap) (locs : List Loc) (ls : Array Slot), va_P D vwCl (wM Y A S) H → va_S (gF A 44 s.heap.size) s.heap H locs → lv_has ls 5 [(0, .ref (A 0)), (1, .int a1), (2, .int a2), (3, .int a3), (4, .int v4)] → W p l e rmX10_word s m args below meth c H locs 0 0 Z (F0 m 63 ls []) := fun v4 S q => ih63 (v4, S) q
    intro H locs ls hP hS hl
    refine lv_iload hx hb dX10_word_63 (lv_at hl 4 rfl) ?_
    refine lv_aload_n hx hb dX10_word_65 rfl (lv_at hl 0 rfl) ?_
    refine va_get (ci := 10) (v := .int (gi S 8)) (C := RX10) (T := TX10) (N := 54) hx hb hts k0 hown hK hP 0 (aM0 Y A S) rfl 39 (by decide) k1 (fun _ h9 => h9) rfl dX10_word_66 ?_
    refine lv_icmp_ge (tgt := 118) hx hb dX10_word_69 (by decide) (fun c1 => ?_) (fun c1 => ?_)
    · have h := h.1 c1
      refine lv_aload_n hx hb dX10_word_118 rfl (lv_at hl 0 rfl) ?_
      refine va_get (ci := 10) (v := .ref (A 32)) (C := RX10) (T := TX10) (N := 54) hx hb hts k0 hown hK hP 0 (aM0 Y A S) rfl 40 (by decide) k2 (fun _ h9 => h9) rfl dX10_word_119 ?_
      refine lv_aload_n hx hb dX10_word_122 rfl (lv_at hl 0 rfl) ?_
      refine va_get (ci := 10) (v := .int (gi S 8)) (C := RX10) (T := TX10) (N := 54) hx hb hts k0 hown hK hP 0 (aM0 Y A S) rfl 39 (by decide) k1 (fun _ h9 => h9) rfl dX10_word_123 ?_
      refine lv_iload_n hx hb dX10_word_126 rfl (lv_at hl 1 rfl) ?_
      have v_3 := h.1
      have h := h.2
      obtain ⟨S2, eS2⟩ : ∃ z : gS, z = sA S 31 (upd (ga S 31) (gi S 8).toNatClampNeg a1) := ⟨_, rfl⟩
      refine va_iast hx hb hK hP (hD S) hS 32 0 (aM32 Y A S) rfl v_3 dX10_word_127 (fun H locs hP _ hS => ?_)
      have hP := uM32 eS2 hP
      have h := h S2 eS2
      refine lv_aload_n hx hb dX10_word_128 rfl (lv_at hl 0 rfl) ?_
      refine va_get (ci := 10) (v := .ref (A 33)) (C := RX10) (T := TX10) (N := 54) hx hb hts k0 hown hK hP 0 (aM0 Y A S2) rfl 41 (by decide) k3 (fun _ h9 => h9) rfl dX10_word_129 ?_
      refine lv_aload_n hx hb dX10_word_132 rfl (lv_at hl 0 rfl) ?_
      refine va_get (ci := 10) (v := .int (gi S2 8)) (C := RX10) (T := TX10) (N := 54) hx hb hts k0 hown hK hP 0 (aM0 Y A S2) rfl 39 (by decide) k1 (fun _ h9 => h9) rfl dX10_word_133 ?_
      refine lv_iload_n hx hb dX10_word_136 rfl (lv_at hl 2 rfl) ?_
      have v_5 := h.1
      have h := h.2
      obtain ⟨S4, eS4⟩ : ∃ z : gS, z = sA S2 32 (upd (ga S2 32) (gi S2 8).toNatClampNeg a2) := ⟨_, rfl⟩
      refine va_iast hx hb hK hP (hD S2) hS 33 0 (aM33 Y A S2) rfl v_5 dX10_word_137 (fun H locs hP _ hS => ?_)
      have hP := uM33 eS4 hP
      have h := h S4 eS4
      refine lv_aload_n hx hb dX10_word_138 rfl (lv_at hl 0 rfl) ?_
      refine va_get (ci := 10) (v := .ref (A 34)) (C := RX10) (T := TX10) (N := 54) hx hb hts k0 hown hK hP 0 (aM0 Y A S4) rfl 42 (by decide) k4 (fun _ h9 => h9) rfl dX10_word_139 ?_
      refine lv_aload_n hx hb dX10_word_142 rfl (lv_at hl 0 rfl) ?_
      refine va_get (ci := 10) (v := .int (gi S4 8)) (C := RX10) (T := TX10) (N := 54) hx hb hts k0 hown hK hP 0 (aM0 Y A S4) rfl 39 (by decide) k1 (fun _ h9 => h9) rfl dX10_word_143 ?_
      refine lv_iload_n hx hb dX10_word_146 rfl (lv_at hl 3 rfl) ?_
      have v_7 := h.1
      have h := h.2
      obtain ⟨S6, eS6⟩ : ∃ z : gS, z = sA S4 33 (upd (ga S4 33) (gi S4 8).toNatClampNeg a3) := ⟨_, rfl⟩
      refine va_iast hx hb hK hP (hD S4) hS 34 0 (aM34 Y A S4) rfl v_7 dX10_word_147 (fun H locs hP _ hS => ?_)
      have hP := uM34 eS6 hP
      have h := h S6 eS6
      refine lv_aload_n hx hb dX10_word_148 rfl (lv_at hl 0 rfl) ?_
      refine lv_dup hx hb dX10_word_149 rfl ?_
      refine va_get (ci := 10) (v := .int (gi S6 8)) (C := RX10) (T := TX10) (N := 54) hx hb hts k0 hown hK hP 0 (aM0 Y A S6) rfl 39 (by decide) k1 (fun _ h9 => h9) rfl dX10_word_150 ?_
      refine lv_iconst (v := (1 : Int32)) hx hb dX10_word_153 (by decide) ?_
      refine lv_iadd hx hb dX10_word_154 ?_
      obtain ⟨S8, eS8⟩ : ∃ z : gS, z = sI S6 8 ((gi S6 8) + (1 : Int32)) := ⟨_, rfl⟩
      have h := h S8 eS8
      refine va_put (ci := 10) (v := .int ((gi S6 8) + (1 : Int32))) (ty := .int) (C := RX10) (T := TX10) (N := 54) hx hb hts k0 tyX10 tyX10_ok nmX10 hown hK hP (hD S6) hS 0 (aM0 Y A S6) rfl 39 (by decide) k1 (fun _ h9 => h9) rfl rfl rfl rfl (by simp) dX10_word_155 (fun H locs hP _ hS => ?_)
      have hP := pM0_39 eS8 hP
      refine lv_aload_n hx hb dX10_word_158 rfl (lv_at hl 0 rfl) ?_
      refine va_get (ci := 10) (v := .int (gi S8 8)) (C := RX10) (T := TX10) (N := 54) hx hb hts k0 hown hK hP 0 (aM0 Y A S8) rfl 39 (by decide) k1 (fun _ h9 => h9) rfl dX10_word_159 ?_
      refine lv_iconst (v := (1 : Int32)) hx hb dX10_word_162 (by decide) ?_
      refine lv_isub hx hb dX10_word_163 ?_
      exact hret _ _ _ _ _ _ dX10_word_164 h hP hS
    · have h := h.2 c1
      refine lv_aload_n hx hb dX10_word_72 rfl (lv_at hl 0 rfl) ?_
      refine va_get (ci := 10) (v := .ref (A 32)) (C := RX10) (T := TX10) (N := 54) hx hb hts k0 hown hK hP 0 (aM0 Y A S) rfl 40 (by decide) k2 (fun _ h9 => h9) rfl dX10_word_73 ?_
      refine lv_iload hx hb dX10_word_76 (lv_at hl 4 rfl) ?_
      have v_9 := h.1
      have h := h.2
      refine va_iald hx hb hK hP 32 0 (aM32 Y A S) rfl v_9 dX10_word_78 ?_
      refine lv_iload_n hx hb dX10_word_79 rfl (lv_at hl 1 rfl) ?_
      refine lv_icmp_ne (tgt := 112) hx hb dX10_word_80 (by decide) (fun c10 => ?_) (fun c10 => ?_)
      · have h := h.2 c10
        obtain ⟨x11, ex11⟩ : ∃ z : Int32, z = v4 + (1 : Int32) := ⟨_, rfl⟩
        have h := h x11 ex11
        refine lv_iinc (v := x11) (lv' := [(4, .int x11), (0, .ref (A 0)), (1, .int a1), (2, .int a2), (3, .int a3)]) hx hb dX10_word_112 hl (k := 4) rfl (by rw [ex11]; rfl) (by decide) rfl (fun ls hl => ?_)
        refine lv_goto (tgt := 63) hx hb dX10_word_115 (by decide) ?_
        exact ih63 x11 S h _ _ _ hP hS (lv_sub hl [1, 2, 3, 4, 0] rfl)
      · have h := h.1 c10
        refine lv_aload_n hx hb dX10_word_83 rfl (lv_at hl 0 rfl) ?_
        refine va_get (ci := 10) (v := .ref (A 33)) (C := RX10) (T := TX10) (N := 54) hx hb hts k0 hown hK hP 0 (aM0 Y A S) rfl 41 (by decide) k3 (fun _ h9 => h9) rfl dX10_word_84 ?_
        refine lv_iload hx hb dX10_word_87 (lv_at hl 4 rfl) ?_
        refine va_iald hx hb hK hP 33 0 (aM33 Y A S) rfl v_9 dX10_word_89 ?_
        refine lv_iload_n hx hb dX10_word_90 rfl (lv_at hl 2 rfl) ?_
        refine lv_icmp_ne (tgt := 112) hx hb dX10_word_91 (by decide) (fun c12 => ?_) (fun c12 => ?_)
        · have h := h.2 c12
          obtain ⟨x13, ex13⟩ : ∃ z : Int32, z = v4 + (1 : Int32) := ⟨_, rfl⟩
          have h := h x13 ex13
          refine lv_iinc (v := x13) (lv' := [(4, .int x13), (0, .ref (A 0)), (1, .int a1), (2, .int a2), (3, .int a3)]) hx hb dX10_word_112 hl (k := 4) rfl (by rw [ex13]; rfl) (by decide) rfl (fun ls hl => ?_)
          refine lv_goto (tgt := 63) hx hb dX10_word_115 (by decide) ?_
          exact ih63 x13 S h _ _ _ hP hS (lv_sub hl [1, 2, 3, 4, 0] rfl)
        · have h := h.1 c12
          refine lv_aload_n hx hb dX10_word_94 rfl (lv_at hl 0 rfl) ?_
          refine va_get (ci := 10) (v := .ref (A 34)) (C := RX10) (T := TX10) (N := 54) hx hb hts k0 hown hK hP 0 (aM0 Y A S) rfl 42 (by decide) k4 (fun _ h9 => h9) rfl dX10_word_95 ?_
          refine lv_iload hx hb dX10_word_98 (lv_at hl 4 rfl) ?_
          refine va_iald hx hb hK hP 34 0 (aM34 Y A S) rfl v_9 dX10_word_100 ?_
          refine lv_iload_n hx hb dX10_word_101 rfl (lv_at hl 3 rfl) ?_
          refine lv_icmp_ne (tgt := 112) hx hb dX10_word_102 (by decide) (fun c14 => ?_) (fun c14 => ?_)
          · have h := h.2 c14
            obtain ⟨x15, ex15⟩ : ∃ z : Int32, z = v4 + (1 : Int32) := ⟨_, rfl⟩
            have h := h x15 ex15
            refine lv_iinc (v := x15) (lv' := [(4, .int x15), (0, .ref (A 0)), (1, .int a1), (2, .int a2), (3, .int a3)]) hx hb dX10_word_112 hl (k := 4) rfl (by rw [ex15]; rfl) (by decide) rfl (fun ls hl => ?_)
            refine lv_goto (tgt := 63) hx hb dX10_word_115 (by decide) ?_
            exact ih63 x15 S h _ _ _ hP hS (lv_sub hl [1, 2, 3, 4, 0] rfl)
          · have h := h.1 c14
            refine lv_aload_n hx hb dX10_word_105 rfl (lv_at hl 0 rfl) ?_
            refine lv_bipush (v := (-3 : Int32)) hx hb dX10_word_106 (by decide) ?_
            refine gVi (As := [.int (-3 : Int32)]) (rest := []) ⟨hx, hb, hml, hown, hts⟩ (kX10_refuse l D Y A hI H.size S (-3 : Int32) _ h) (cwV 1 hts gX10_word_X10_refuse rfl rfl rfl (by decide +kernel) ⟨Nat.le_of_ble_eq_true rfl, Nat.le_of_ble_eq_true rfl⟩) hK hP hS (gF_le hS.1) (aM0 Y A S) (show vwCl[10]? = some (RX10, TX10, 54) from rfl) rfl rfl hl.1 (Nat.le_of_ble_eq_true rfl) dX10_word_108 ⟨Nat.zero_le _, Nat.zero_le _⟩ ?_
            intro r17 S16 H locs h hP hS
            exact hret _ _ _ _ _ _ dX10_word_111 h hP hS
  refine lv_iload_n hx hb dX10_word_0 rfl (lv_at hl 1 rfl) ?_
  refine lv_iconst (v := (0 : Int32)) hx hb dX10_word_1 (by decide) ?_
  refine lv_iconst (v := (5 : Int32)) hx hb dX10_word_2 (by decide) ?_
  refine gSi (As := [.int a1, .int (0 : Int32), .int (5 : Int32)]) (rest := []) ⟨hx, hb, hml, hown, hts⟩ (kX10_in l D Y A hI H.size S a1 (0 : Int32) (5 : Int32) _ h) (va_cwS 3 hts gX10_word_X10_in rfl rfl rfl (by decide +kernel) ⟨Nat.le_of_ble_eq_true rfl, Nat.le_of_ble_eq_true rfl⟩) hK hP hS (gF_le hS.1) rfl rfl hl.1 (Nat.le_of_ble_eq_true rfl) dX10_word_3 ⟨Nat.zero_le _, Nat.zero_le _⟩ ?_
  intro r19 S18 H locs h hP hS
  refine lv_if_eq (tgt := 16) hx hb dX10_word_6 (by decide) (fun c20 => ?_) (fun c20 => ?_)
  · have h := h.1 c20
    refine lv_aload_n hx hb dX10_word_16 rfl (lv_at hl 0 rfl) ?_
    refine lv_iconst (v := (-1 : Int32)) hx hb dX10_word_17 (by decide) ?_
    refine gVi (As := [.int (-1 : Int32)]) (rest := []) ⟨hx, hb, hml, hown, hts⟩ (kX10_refuse l D Y A hI H.size S18 (-1 : Int32) _ h) (cwV 1 hts gX10_word_X10_refuse rfl rfl rfl (by decide +kernel) ⟨Nat.le_of_ble_eq_true rfl, Nat.le_of_ble_eq_true rfl⟩) hK hP hS (gF_le hS.1) (aM0 Y A S18) (show vwCl[10]? = some (RX10, TX10, 54) from rfl) rfl rfl hl.1 (Nat.le_of_ble_eq_true rfl) dX10_word_18 ⟨Nat.zero_le _, Nat.zero_le _⟩ ?_
    intro r22 S21 H locs h hP hS
    exact hret _ _ _ _ _ _ dX10_word_21 h hP hS
  · have h := h.2 c20
    refine lv_iload_n hx hb dX10_word_9 rfl (lv_at hl 3 rfl) ?_
    refine gSi (As := [.int a3]) (rest := []) ⟨hx, hb, hml, hown, hts⟩ (kX10_isCove l D Y A hI H.size S18 a3 _ h) (va_cwS 1 hts gX10_word_X10_isCove rfl rfl rfl (by decide +kernel) ⟨Nat.le_of_ble_eq_true rfl, Nat.le_of_ble_eq_true rfl⟩) hK hP hS (gF_le hS.1) rfl rfl hl.1 (Nat.le_of_ble_eq_true rfl) dX10_word_10 ⟨Nat.zero_le _, Nat.zero_le _⟩ ?_
    intro r24 S23 H locs h hP hS
    refine lv_if_ne (tgt := 22) hx hb dX10_word_13 (by decide) (fun c25 => ?_) (fun c25 => ?_)
    · have h := h.2 c25
      refine lv_iload_n hx hb dX10_word_22 rfl (lv_at hl 2 rfl) ?_
      refine lv_aload_n hx hb dX10_word_23 rfl (lv_at hl 0 rfl) ?_
      refine va_get (ci := 10) (v := .int (gi S23 1)) (C := RX10) (T := TX10) (N := 54) hx hb hts k0 hown hK hP 0 (aM0 Y A S23) rfl 1 (by decide) k5 (fun _ h9 => h9) rfl dX10_word_24 ?_
      refine lv_icmp_gt (tgt := 37) hx hb dX10_word_27 (by decide) (fun c26 => ?_) (fun c26 => ?_)
      · have h := h.1 c26
        refine lv_iload_n hx hb dX10_word_37 rfl (lv_at hl 2 rfl) ?_
        refine lv_sipush (v := (1000 : Int32)) hx hb dX10_word_38 (by decide) ?_
        refine lv_icmp_gt (tgt := 53) hx hb dX10_word_41 (by decide) (fun c27 => ?_) (fun c27 => ?_)
        · have h := h.1 c27
          refine lv_aload_n hx hb dX10_word_53 rfl (lv_at hl 0 rfl) ?_
          refine lv_bipush (v := (-6 : Int32)) hx hb dX10_word_54 (by decide) ?_
          refine gVi (As := [.int (-6 : Int32)]) (rest := []) ⟨hx, hb, hml, hown, hts⟩ (kX10_refuse l D Y A hI H.size S23 (-6 : Int32) _ h) (cwV 1 hts gX10_word_X10_refuse rfl rfl rfl (by decide +kernel) ⟨Nat.le_of_ble_eq_true rfl, Nat.le_of_ble_eq_true rfl⟩) hK hP hS (gF_le hS.1) (aM0 Y A S23) (show vwCl[10]? = some (RX10, TX10, 54) from rfl) rfl rfl hl.1 (Nat.le_of_ble_eq_true rfl) dX10_word_56 ⟨Nat.zero_le _, Nat.zero_le _⟩ ?_
          intro r29 S28 H locs h hP hS
          exact hret _ _ _ _ _ _ dX10_word_59 h hP hS
        · have h := h.2 c27
          refine lv_aload_n hx hb dX10_word_44 rfl (lv_at hl 0 rfl) ?_
          refine va_get (ci := 10) (v := .int (gi S23 8)) (C := RX10) (T := TX10) (N := 54) hx hb hts k0 hown hK hP 0 (aM0 Y A S23) rfl 39 (by decide) k1 (fun _ h9 => h9) rfl dX10_word_45 ?_
          refine lv_bipush (v := (60 : Int32)) hx hb dX10_word_48 (by decide) ?_
          refine lv_icmp_ne (tgt := 60) hx hb dX10_word_50 (by decide) (fun c30 => ?_) (fun c30 => ?_)
          · have h := h.2 c30
            refine lv_iconst (v := (0 : Int32)) hx hb dX10_word_60 (by decide) ?_
            refine lv_istore (lv' := [(4, .int (0 : Int32)), (0, .ref (A 0)), (1, .int a1), (2, .int a2), (3, .int a3)]) hx hb dX10_word_61 hl (by decide) rfl (fun ls hl => ?_)
            exact tL63  (0 : Int32) S23 h _ _ _ hP hS (lv_sub hl [1, 2, 3, 4, 0] rfl)
          · have h := h.1 c30
            refine lv_aload_n hx hb dX10_word_53 rfl (lv_at hl 0 rfl) ?_
            refine lv_bipush (v := (-6 : Int32)) hx hb dX10_word_54 (by decide) ?_
            refine gVi (As := [.int (-6 : Int32)]) (rest := []) ⟨hx, hb, hml, hown, hts⟩ (kX10_refuse l D Y A hI H.size S23 (-6 : Int32) _ h) (cwV 1 hts gX10_word_X10_refuse rfl rfl rfl (by decide +kernel) ⟨Nat.le_of_ble_eq_true rfl, Nat.le_of_ble_eq_true rfl⟩) hK hP hS (gF_le hS.1) (aM0 Y A S23) (show vwCl[10]? = some (RX10, TX10, 54) from rfl) rfl rfl hl.1 (Nat.le_of_ble_eq_true rfl) dX10_word_56 ⟨Nat.zero_le _, Nat.zero_le _⟩ ?_
            intro r32 S31 H locs h hP hS
            exact hret _ _ _ _ _ _ dX10_word_59 h hP hS
      · have h := h.2 c26
        refine lv_aload_n hx hb dX10_word_30 rfl (lv_at hl 0 rfl) ?_
        refine lv_bipush (v := (-4 : Int32)) hx hb dX10_word_31 (by decide) ?_
        refine gVi (As := [.int (-4 : Int32)]) (rest := []) ⟨hx, hb, hml, hown, hts⟩ (kX10_refuse l D Y A hI H.size S23 (-4 : Int32) _ h) (cwV 1 hts gX10_word_X10_refuse rfl rfl rfl (by decide +kernel) ⟨Nat.le_of_ble_eq_true rfl, Nat.le_of_ble_eq_true rfl⟩) hK hP hS (gF_le hS.1) (aM0 Y A S23) (show vwCl[10]? = some (RX10, TX10, 54) from rfl) rfl rfl hl.1 (Nat.le_of_ble_eq_true rfl) dX10_word_33 ⟨Nat.zero_le _, Nat.zero_le _⟩ ?_
        intro r34 S33 H locs h hP hS
        exact hret _ _ _ _ _ _ dX10_word_36 h hP hS
    · have h := h.1 c25
      refine lv_aload_n hx hb dX10_word_16 rfl (lv_at hl 0 rfl) ?_
      refine lv_iconst (v := (-1 : Int32)) hx hb dX10_word_17 (by decide) ?_
      refine gVi (As := [.int (-1 : Int32)]) (rest := []) ⟨hx, hb, hml, hown, hts⟩ (kX10_refuse l D Y A hI H.size S23 (-1 : Int32) _ h) (cwV 1 hts gX10_word_X10_refuse rfl rfl rfl (by decide +kernel) ⟨Nat.le_of_ble_eq_true rfl, Nat.le_of_ble_eq_true rfl⟩) hK hP hS (gF_le hS.1) (aM0 Y A S23) (show vwCl[10]? = some (RX10, TX10, 54) from rfl) rfl rfl hl.1 (Nat.le_of_ble_eq_true rfl) dX10_word_18 ⟨Nat.zero_le _, Nat.zero_le _⟩ ?_
      intro r36 S35 H locs h hP hS
      exact hret _ _ _ _ _ _ dX10_word_21 h hP hS

def qX10_drawBelow (S : gS) (a1 : Int32) (Q : Int32 → gS → Prop) : Prop :=
  ∀ S1 : gS, S1 = sI S 0 (((gi S 0) * (1103515245 : Int32)) + (12345 : Int32)) → (¬ a1 = 0 ∧ (Q (((gi S1 0).toUInt32 >>> ((16 : Int32).toUInt32 &&& Int32.toUInt32 31)).toInt32 - ((gi S1 0).toUInt32 >>> ((16 : Int32).toUInt32 &&& Int32.toUInt32 31)).toInt32 / a1 * a1) S1))
abbrev rmX10_drawBelow : Room := { frames := 0, cells := 0, slots := 0, locals := 0 }
set_option maxHeartbeats 4000000 in
set_option maxRecDepth 100000 in
theorem kX10_drawBelow (l : Launch) (D : va_G) (Y : Nat → ClassId) (A : Nat → Nat) (hI : iM A) (sz : Nat) (S : gS) (a1 : Int32) (Q : Int32 → gS → Prop) (h : qX10_drawBelow S a1 Q) : Met l yX10_drawBelow wsX10_drawBelow rmX10_drawBelow (gPc [.ref (A 0), .int a1] sz D vwCl (tY Y) (wM Y A S)) (va_Qi Q (fun S' t => gH D vwCl (tY Y) (wM Y A S') t) (gF A 44 sz)) 0 0 (gF A 44 sz) := by
  refine gMet_i (cc := cX10_drawBelow) (maxL := 2) (by decide +kernel) rfl (Nat.le_of_ble_eq_true rfl) (fun p e s m args below meth c Z H locs hx hb hml hts hown hK hP hS hret ls hl => ?_)
  have hown : s.vm.findClass RX10 = some m.cls := hown
  have hl : lv_has ls 2 [(0, .ref (A 0)), (1, .int a1)] := hl
  have hD : ∀ S0 : gS, va_D (gF A 44 s.heap.size) (wM Y A S0) := fun S0 => dM hI S0 (fun k hk => gF_in hk)
  have k0 : ∀ w ∈ u_ws RX10 TX10 54, w ∈ wsX10_drawBelow := by decide +kernel
  have k1 := hts (.fieldLink RX10 7 "CoastWatchModel" "seed" "I") (by decide +kernel)
  have k2 := hts (.constant RX10 182 1103515245) (by decide +kernel)
  refine lv_aload_n hx hb dX10_drawBelow_0 rfl (lv_at hl 0 rfl) ?_
  refine lv_aload_n hx hb dX10_drawBelow_1 rfl (lv_at hl 0 rfl) ?_
  refine va_get (ci := 10) (v := .int (gi S 0)) (C := RX10) (T := TX10) (N := 54) hx hb hts k0 hown hK hP 0 (aM0 Y A S) rfl 0 (by decide) k1 (fun _ h9 => h9) rfl dX10_drawBelow_2 ?_
  refine lv_ldc (v := (1103515245 : Int32)) hx hb hown k2 dX10_drawBelow_5 ?_
  refine lv_imul hx hb dX10_drawBelow_7 ?_
  refine lv_sipush (v := (12345 : Int32)) hx hb dX10_drawBelow_8 (by decide) ?_
  refine lv_iadd hx hb dX10_drawBelow_11 ?_
  obtain ⟨S1, eS1⟩ : ∃ z : gS, z = sI S 0 (((gi S 0) * (1103515245 : Int32)) + (12345 : Int32)) := ⟨_, rfl⟩
  have h := h S1 eS1
  refine va_put (ci := 10) (v := .int (((gi S 0) * (1103515245 : Int32)) + (12345 : Int32))) (ty := .int) (C := RX10) (T := TX10) (N := 54) hx hb hts k0 tyX10 tyX10_ok nmX10 hown hK hP (hD S) hS 0 (aM0 Y A S) rfl 0 (by decide) k1 (fun _ h9 => h9) rfl rfl rfl rfl (by simp) dX10_drawBelow_12 (fun H locs hP _ hS => ?_)
  have hP := pM0_0 eS1 hP
  refine lv_aload_n hx hb dX10_drawBelow_15 rfl (lv_at hl 0 rfl) ?_
  refine va_get (ci := 10) (v := .int (gi S1 0)) (C := RX10) (T := TX10) (N := 54) hx hb hts k0 hown hK hP 0 (aM0 Y A S1) rfl 0 (by decide) k1 (fun _ h9 => h9) rfl dX10_drawBelow_16 ?_
  refine lv_bipush (v := (16 : Int32)) hx hb dX10_drawBelow_19 (by decide) ?_
  refine lv_iushr hx hb dX10_drawBelow_21 rfl ?_
  refine lv_iload_n hx hb dX10_drawBelow_22 rfl (lv_at hl 1 rfl) ?_
  have n_2 := h.1
  have h := h.2
  refine lv_irem hx hb dX10_drawBelow_23 n_2 ?_
  exact hret _ _ _ _ _ _ dX10_drawBelow_24 h hP hS

def qX10_watch_L68 (Q : gS → Prop) (K39 : Int32 × Int32 × gS → Prop) (K68 : Int32 × Int32 × Int32 × Int32 × Int32 × gS → Prop) : Int32 × Int32 × Int32 × Int32 × Int32 × gS → Prop := fun ⟨v1, v2, v3, v4, v5, S⟩ =>
  (v3 < v5 → (vp_in v4 6 ∧ (∀ S3 : gS, S3 = sA S 26 (upd (ga S 26) v4.toNatClampNeg ((ga S 26 v4.toNatClampNeg) + (1 : Int32))) → (∀ x4 : Int32, x4 = v2 + (1 : Int32) → (K39 (v1, x4, S3)))))) ∧ (¬ v3 < v5 → (∀ x5 : Int32, x5 = v4 + (1 : Int32) → (vp_in x5 6 ∧ (∀ x7 : Int32, x7 = (v5 + (ga S 24 x5.toNatClampNeg)) → (K68 (v1, v2, v3, x5, x7, S))))))
def qX10_watch_L39 (Q : gS → Prop) (K39 : Int32 × Int32 × gS → Prop) : Int32 × Int32 × gS → Prop := fun ⟨v1, v2, S⟩ =>
  ((gi S 5) ≤ v2 → (Q S)) ∧ (¬ (gi S 5) ≤ v2 → ((v1 ≤ 0 → (Q S)) ∧ (¬ v1 ≤ 0 → (qX10_drawBelow S v1 (fun r11 S10 => vp_in (0 : Int32) 6 ∧ (∀ x13 : Int32, x13 = (ga S10 24 (0 : Int32).toNatClampNeg) → (lp (qX10_watch_L68 Q K39) (v1, v2, r11, (0 : Int32), x13, S10))))))))
def qX10_watch_L4 (Q : gS → Prop) (K4 : Int32 × Int32 × gS → Prop) : Int32 × Int32 × gS → Prop := fun ⟨v1, v2, S⟩ =>
  ((6 : Int32) ≤ v2 → (lp (qX10_watch_L39 Q) (v1, (0 : Int32), S))) ∧ (¬ (6 : Int32) ≤ v2 → (vp_in v2 6 ∧ (∀ S16 : gS, S16 = sA S 26 (upd (ga S 26) v2.toNatClampNeg (ga S 23 v2.toNatClampNeg)) → (∀ x17 : Int32, x17 = (v1 + (ga S16 24 v2.toNatClampNeg)) → (∀ x18 : Int32, x18 = v2 + (1 : Int32) → (K4 (x17, x18, S16)))))))
def qX10_watch (S : gS) (Q : gS → Prop) : Prop :=
  lp (qX10_watch_L4 Q) ((0 : Int32), (0 : Int32), S)
abbrev rmX10_watch : Room := { frames := 1, cells := 0, slots := 0, locals := 21 }
set_option maxHeartbeats 4000000 in
set_option maxRecDepth 100000 in
theorem kX10_watch (l : Launch) (D : va_G) (Y : Nat → ClassId) (A : Nat → Nat) (hI : iM A) (sz : Nat) (S : gS) (Q : gS → Prop) (h : qX10_watch S  Q) : Met l yX10_watch wsX10_watch rmX10_watch (gPc [.ref (A 0)] sz D vwCl (tY Y) (wM Y A S)) (va_Qv Q (fun S' t => gH D vwCl (tY Y) (wM Y A S') t) (gF A 44 sz)) 0 0 (gF A 44 sz) := by
  refine gMet_v (cc := cX10_watch) (maxL := 6) (by decide +kernel) rfl (Nat.le_of_ble_eq_true rfl) (fun p e s m args below meth c Z H locs hx hb hml hts hown hK hP hS hret ls hl => ?_)
  have hown : s.vm.findClass RX10 = some m.cls := hown
  have hl : lv_has ls 6 [(0, .ref (A 0))] := hl
  have hD : ∀ S0 : gS, va_D (gF A 44 s.heap.size) (wM Y A S0) := fun S0 => dM hI S0 (fun k hk => gF_in hk)
  have k0 : ∀ w ∈ u_ws RX10 TX10 54, w ∈ wsX10_watch := by decide +kernel
  have k1 := hts (.fieldLink RX10 93 "CoastWatchModel" "there" "[I") (by decide +kernel)
  have k2 := hts (.fieldLink RX10 86 "CoastWatchModel" "shares" "[I") (by decide +kernel)
  have k3 := hts (.fieldLink RX10 167 "CoastWatchModel" "drawMany" "I") (by decide +kernel)
  have k4 := hts (.fieldLink RX10 83 "CoastWatchModel" "standing" "[I") (by decide +kernel)
  have tL68 : ∀ (K39 : Int32 × Int32 × gS → Prop) (ih39 : ∀ (v1 : Int32) (v2 : Int32) (S : gS), K39 (v1, v2, S) → ∀ (H : Heap) (locs : List Loc) (ls : Array Slot), va_P D vwCl (wM Y A S) H → va_S (gF A 44 s.heap.size) s.heap H locs → lv_has ls 6 [(0, .ref (A 0)), (1, .int v1), (2, .int v2)] → W p l e rmX10_watch s m args below meth c H locs 0 0 Z (F0 m 39 ls [])) (v1 : Int32) (v2 : Int32) (v3 : Int32) (v4 : Int32) (v5 : Int32) (S : gS), lp (qX10_watch_L68 Q K39) (v1, v2, v3, v4, v5, S) → ∀ (H : Heap) (locs : List Loc) (ls : Array Slot), va_P D vwCl (wM Y A S) H → va_S (gF A 44 s.heap.size) s.heap H locs → lv_has ls 6 [(0, .ref (A 0)), (1, .int v1), (2, .int v2), (3, .int v3), (4, .int v4), (5, .int v5)] → W p l e rmX10_watch s m args below meth c H locs 0 0 Z (F0 m 68 ls []) := by
    intro K39 ih39 v1 v2 v3 v4 v5 S h
    refine lp_walk (G := fun a => match a with | (v1, v2, v3, v4, v5, S) => ∀ (H : Heap) (locs : List Loc) (ls : Array Slot), va_P D vwCl (wM Y A S) H → va_S (gF A 44 s.heap.size) s.heap H locs → lv_has ls 6 [(0, .ref (A 0)), (1, .int v1), (2, .int v2), (3, .int v3), (4, .int v4), (5, .int v5)] → W p l e rmX10_watch s m args below meth c H locs 0 0 Z (F0 m 68 ls [])) (fun K68 a ih68 h => ?_) (v1, v2, v3, v4, v5, S) h
    obtain ⟨v1, v2, v3, v4, v5, S⟩ := a
    have ih68 : ∀ (v1 : Int32) (v2 : Int32) (v3 : Int32) (v4 : Int32) (v5 : Int32) (S : gS), K68 (v1, v2, v3, v4, v5, S) → ∀ (H : Heap) (locs : List Loc) (ls : Array Slot), va_P D vwCl (wM Y A S) H → va_S (gF A 44 s.heap.size) s.heap H locs → lv_has ls 6 [(0, .ref (A 0)), (1, .int v1), (2, .int v2), (3, .int v3), (4, .int v4), (5, .int v5)] → W p l e rmX10_watch s m args below meth c H locs 0 0 Z (F0 m 68 ls []) := fun v1 v2 v3 v4 v5 S q => ih68 (v1, v2, v3, v4, v5, S) q
    intro H locs ls hP hS hl
    refine lv_iload hx hb dX10_watch_68 (lv_at hl 5 rfl) ?_
    refine lv_iload_n hx hb dX10_watch_70 rfl (lv_at hl 3 rfl) ?_
    refine lv_icmp_gt (tgt := 92) hx hb dX10_watch_71 (by decide) (fun c1 => ?_) (fun c1 => ?_)
    · have h := h.1 c1
      refine lv_aload_n hx hb dX10_watch_92 rfl (lv_at hl 0 rfl) ?_
      refine va_get (ci := 10) (v := .ref (A 27)) (C := RX10) (T := TX10) (N := 54) hx hb hts k0 hown hK hP 0 (aM0 Y A S) rfl 31 (by decide) k1 (fun _ h9 => h9) rfl dX10_watch_93 ?_
      refine lv_iload hx hb dX10_watch_96 (lv_at hl 4 rfl) ?_
      refine lv_dup2_11 hx hb dX10_watch_98 rfl rfl ?_
      have v_2 := h.1
      have h := h.2
      refine va_iald hx hb hK hP 27 0 (aM27 Y A S) rfl v_2 dX10_watch_99 ?_
      refine lv_iconst (v := (1 : Int32)) hx hb dX10_watch_100 (by decide) ?_
      refine lv_iadd hx hb dX10_watch_101 ?_
      obtain ⟨S3, eS3⟩ : ∃ z : gS, z = sA S 26 (upd (ga S 26) v4.toNatClampNeg ((ga S 26 v4.toNatClampNeg) + (1 : Int32))) := ⟨_, rfl⟩
      refine va_iast hx hb hK hP (hD S) hS 27 0 (aM27 Y A S) rfl v_2 dX10_watch_102 (fun H locs hP _ hS => ?_)
      have hP := uM27 eS3 hP
      have h := h S3 eS3
      obtain ⟨x4, ex4⟩ : ∃ z : Int32, z = v2 + (1 : Int32) := ⟨_, rfl⟩
      have h := h x4 ex4
      refine lv_iinc (v := x4) (lv' := [(2, .int x4), (0, .ref (A 0)), (1, .int v1), (3, .int v3), (4, .int v4), (5, .int v5)]) hx hb dX10_watch_103 hl (k := 2) rfl (by rw [ex4]; rfl) (by decide) rfl (fun ls hl => ?_)
      refine lv_goto (tgt := 39) hx hb dX10_watch_106 (by decide) ?_
      exact ih39 v1 x4 S3 h _ _ _ hP hS (lv_sub hl [1, 2, 0] rfl)
    · have h := h.2 c1
      obtain ⟨x5, ex5⟩ : ∃ z : Int32, z = v4 + (1 : Int32) := ⟨_, rfl⟩
      have h := h x5 ex5
      refine lv_iinc (v := x5) (lv' := [(4, .int x5), (0, .ref (A 0)), (1, .int v1), (2, .int v2), (3, .int v3), (5, .int v5)]) hx hb dX10_watch_74 hl (k := 4) rfl (by rw [ex5]; rfl) (by decide) rfl (fun ls hl => ?_)
      refine lv_iload hx hb dX10_watch_77 (lv_at hl 5 rfl) ?_
      refine lv_aload_n hx hb dX10_watch_79 rfl (lv_at hl 1 rfl) ?_
      refine va_get (ci := 10) (v := .ref (A 25)) (C := RX10) (T := TX10) (N := 54) hx hb hts k0 hown hK hP 0 (aM0 Y A S) rfl 29 (by decide) k2 (fun _ h9 => h9) rfl dX10_watch_80 ?_
      refine lv_iload hx hb dX10_watch_83 (lv_at hl 0 rfl) ?_
      have v_6 := h.1
      have h := h.2
      refine va_iald hx hb hK hP 25 0 (aM25 Y A S) rfl v_6 dX10_watch_85 ?_
      refine lv_iadd hx hb dX10_watch_86 ?_
      refine lv_topi (fun x7 ex7 => ?_)
      have h := h x7 ex7
      refine lv_istore (lv' := [(5, .int x7), (4, .int x5), (0, .ref (A 0)), (1, .int v1), (2, .int v2), (3, .int v3)]) hx hb dX10_watch_87 hl (by decide) rfl (fun ls hl => ?_)
      refine lv_goto (tgt := 68) hx hb dX10_watch_89 (by decide) ?_
      exact ih68 v1 v2 v3 x5 x7 S h _ _ _ hP hS (lv_sub hl [2, 3, 4, 5, 1, 0] rfl)
  have tL39 : ∀ (v1 : Int32) (v2 : Int32) (S : gS), lp (qX10_watch_L39 Q) (v1, v2, S) → ∀ (H : Heap) (locs : List Loc) (ls : Array Slot), va_P D vwCl (wM Y A S) H → va_S (gF A 44 s.heap.size) s.heap H locs → lv_has ls 6 [(0, .ref (A 0)), (1, .int v1), (2, .int v2)] → W p l e rmX10_watch s m args below meth c H locs 0 0 Z (F0 m 39 ls []) := by
    intro  v1 v2 S h
    refine lp_walk (G := fun a => match a with | (v1, v2, S) => ∀ (H : Heap) (locs : List Loc) (ls : Array Slot), va_P D vwCl (wM Y A S) H → va_S (gF A 44 s.heap.size) s.heap H locs → lv_has ls 6 [(0, .ref (A 0)), (1, .int v1), (2, .int v2)] → W p l e rmX10_watch s m args below meth c H locs 0 0 Z (F0 m 39 ls [])) (fun K39 a ih39 h => ?_) (v1, v2, S) h
    obtain ⟨v1, v2, S⟩ := a
    have ih39 : ∀ (v1 : Int32) (v2 : Int32) (S : gS), K39 (v1, v2, S) → ∀ (H : Heap) (locs : List Loc) (ls : Array Slot), va_P D vwCl (wM Y A S) H → va_S (gF A 44 s.heap.size) s.heap H locs → lv_has ls 6 [(0, .ref (A 0)), (1, .int v1), (2, .int v2)] → W p l e rmX10_watch s m args below meth c H locs 0 0 Z (F0 m 39 ls []) := fun v1 v2 S q => ih39 (v1, v2, S) q
    intro H locs ls hP hS hl
    refine lv_iload_n hx hb dX10_watch_39 rfl (lv_at hl 2 rfl) ?_
    refine lv_aload_n hx hb dX10_watch_40 rfl (lv_at hl 0 rfl) ?_
    refine va_get (ci := 10) (v := .int (gi S 5)) (C := RX10) (T := TX10) (N := 54) hx hb hts k0 hown hK hP 0 (aM0 Y A S) rfl 33 (by decide) k3 (fun _ h9 => h9) rfl dX10_watch_41 ?_
    refine lv_icmp_ge (tgt := 109) hx hb dX10_watch_44 (by decide) (fun c8 => ?_) (fun c8 => ?_)
    · have h := h.1 c8
      exact hret _ _ _ _ _ dX10_watch_109 h hP hS
    · have h := h.2 c8
      refine lv_iload_n hx hb dX10_watch_47 rfl (lv_at hl 1 rfl) ?_
      refine lv_if_le (tgt := 109) hx hb dX10_watch_48 (by decide) (fun c9 => ?_) (fun c9 => ?_)
      · have h := h.1 c9
        exact hret _ _ _ _ _ dX10_watch_109 h hP hS
      · have h := h.2 c9
        refine lv_aload_n hx hb dX10_watch_51 rfl (lv_at hl 0 rfl) ?_
        refine lv_iload_n hx hb dX10_watch_52 rfl (lv_at hl 1 rfl) ?_
        refine gVi (As := [.int v1]) (rest := []) ⟨hx, hb, hml, hown, hts⟩ (kX10_drawBelow l D Y A hI H.size S v1 _ h) (cwV 1 hts gX10_watch_X10_drawBelow rfl rfl rfl (by decide +kernel) ⟨Nat.le_of_ble_eq_true rfl, Nat.le_of_ble_eq_true rfl⟩) hK hP hS (gF_le hS.1) (aM0 Y A S) (show vwCl[10]? = some (RX10, TX10, 54) from rfl) rfl rfl hl.1 (Nat.le_of_ble_eq_true rfl) dX10_watch_53 ⟨Nat.zero_le _, Nat.zero_le _⟩ ?_
        intro r11 S10 H locs h hP hS
        refine lv_istore_n (lv' := [(3, .int r11), (0, .ref (A 0)), (1, .int v1), (2, .int v2)]) hx hb dX10_watch_56 rfl hl (by decide) rfl (fun ls hl => ?_)
        refine lv_iconst (v := (0 : Int32)) hx hb dX10_watch_57 (by decide) ?_
        refine lv_istore (lv' := [(4, .int (0 : Int32)), (3, .int r11), (0, .ref (A 0)), (1, .int v1), (2, .int v2)]) hx hb dX10_watch_58 hl (by decide) rfl (fun ls hl => ?_)
        refine lv_aload_n hx hb dX10_watch_60 rfl (lv_at hl 2 rfl) ?_
        refine va_get (ci := 10) (v := .ref (A 25)) (C := RX10) (T := TX10) (N := 54) hx hb hts k0 hown hK hP 0 (aM0 Y A S10) rfl 29 (by decide) k2 (fun _ h9 => h9) rfl dX10_watch_61 ?_
        refine lv_iconst (v := (0 : Int32)) hx hb dX10_watch_64 (by decide) ?_
        have v_12 := h.1
        have h := h.2
        refine va_iald hx hb hK hP 25 0 (aM25 Y A S10) rfl v_12 dX10_watch_65 ?_
        refine lv_topi (fun x13 ex13 => ?_)
        have h := h x13 ex13
        refine lv_istore (lv' := [(5, .int x13), (4, .int (0 : Int32)), (3, .int r11), (0, .ref (A 0)), (1, .int v1), (2, .int v2)]) hx hb dX10_watch_66 hl (by decide) rfl (fun ls hl => ?_)
        exact tL68 K39 ih39 v1 v2 r11 (0 : Int32) x13 S10 h _ _ _ hP hS (lv_sub hl [3, 4, 5, 2, 1, 0] rfl)
  have tL4 : ∀ (v1 : Int32) (v2 : Int32) (S : gS), lp (qX10_watch_L4 Q) (v1, v2, S) → ∀ (H : Heap) (locs : List Loc) (ls : Array Slot), va_P D vwCl (wM Y A S) H → va_S (gF A 44 s.heap.size) s.heap H locs → lv_has ls 6 [(0, .ref (A 0)), (1, .int v1), (2, .int v2)] → W p l e rmX10_watch s m args below meth c H locs 0 0 Z (F0 m 4 ls []) := by
    intro  v1 v2 S h
    refine lp_walk (G := fun a => match a with | (v1, v2, S) => ∀ (H : Heap) (locs : List Loc) (ls : Array Slot), va_P D vwCl (wM Y A S) H → va_S (gF A 44 s.heap.size) s.heap H locs → lv_has ls 6 [(0, .ref (A 0)), (1, .int v1), (2, .int v2)] → W p l e rmX10_watch s m args below meth c H locs 0 0 Z (F0 m 4 ls [])) (fun K4 a ih4 h => ?_) (v1, v2, S) h
    obtain ⟨v1, v2, S⟩ := a
    have ih4 : ∀ (v1 : Int32) (v2 : Int32) (S : gS), K4 (v1, v2, S) → ∀ (H : Heap) (locs : List Loc) (ls : Array Slot), va_P D vwCl (wM Y A S) H → va_S (gF A 44 s.heap.size) s.heap H locs → lv_has ls 6 [(0, .ref (A 0)), (1, .int v1), (2, .int v2)] → W p l e rmX10_watch s m args below meth c H locs 0 0 Z (F0 m 4 ls []) := fun v1 v2 S q => ih4 (v1, v2, S) q
    intro H locs ls hP hS hl
    refine lv_iload_n hx hb dX10_watch_4 rfl (lv_at hl 2 rfl) ?_
    refine lv_bipush (v := (6 : Int32)) hx hb dX10_watch_5 (by decide) ?_
    refine lv_icmp_ge (tgt := 37) hx hb dX10_watch_7 (by decide) (fun c14 => ?_) (fun c14 => ?_)
    · have h := h.1 c14
      refine lv_iconst (v := (0 : Int32)) hx hb dX10_watch_37 (by decide) ?_
      refine lv_istore_n (lv' := [(2, .int (0 : Int32)), (0, .ref (A 0)), (1, .int v1)]) hx hb dX10_watch_38 rfl hl (by decide) rfl (fun ls hl => ?_)
      exact tL39  v1 (0 : Int32) S h _ _ _ hP hS (lv_sub hl [1, 2, 0] rfl)
    · have h := h.2 c14
      refine lv_aload_n hx hb dX10_watch_10 rfl (lv_at hl 0 rfl) ?_
      refine va_get (ci := 10) (v := .ref (A 27)) (C := RX10) (T := TX10) (N := 54) hx hb hts k0 hown hK hP 0 (aM0 Y A S) rfl 31 (by decide) k1 (fun _ h9 => h9) rfl dX10_watch_11 ?_
      refine lv_iload_n hx hb dX10_watch_14 rfl (lv_at hl 2 rfl) ?_
      refine lv_aload_n hx hb dX10_watch_15 rfl (lv_at hl 0 rfl) ?_
      refine va_get (ci := 10) (v := .ref (A 24)) (C := RX10) (T := TX10) (N := 54) hx hb hts k0 hown hK hP 0 (aM0 Y A S) rfl 28 (by decide) k4 (fun _ h9 => h9) rfl dX10_watch_16 ?_
      refine lv_iload_n hx hb dX10_watch_19 rfl (lv_at hl 2 rfl) ?_
      have v_15 := h.1
      have h := h.2
      refine va_iald hx hb hK hP 24 0 (aM24 Y A S) rfl v_15 dX10_watch_20 ?_
      obtain ⟨S16, eS16⟩ : ∃ z : gS, z = sA S 26 (upd (ga S 26) v2.toNatClampNeg (ga S 23 v2.toNatClampNeg)) := ⟨_, rfl⟩
      refine va_iast hx hb hK hP (hD S) hS 27 0 (aM27 Y A S) rfl v_15 dX10_watch_21 (fun H locs hP _ hS => ?_)
      have hP := uM27 eS16 hP
      have h := h S16 eS16
      refine lv_iload_n hx hb dX10_watch_22 rfl (lv_at hl 1 rfl) ?_
      refine lv_aload_n hx hb dX10_watch_23 rfl (lv_at hl 0 rfl) ?_
      refine va_get (ci := 10) (v := .ref (A 25)) (C := RX10) (T := TX10) (N := 54) hx hb hts k0 hown hK hP 0 (aM0 Y A S16) rfl 29 (by decide) k2 (fun _ h9 => h9) rfl dX10_watch_24 ?_
      refine lv_iload_n hx hb dX10_watch_27 rfl (lv_at hl 2 rfl) ?_
      refine va_iald hx hb hK hP 25 0 (aM25 Y A S16) rfl v_15 dX10_watch_28 ?_
      refine lv_iadd hx hb dX10_watch_29 ?_
      refine lv_topi (fun x17 ex17 => ?_)
      have h := h x17 ex17
      refine lv_istore_n (lv' := [(1, .int x17), (0, .ref (A 0)), (2, .int v2)]) hx hb dX10_watch_30 rfl hl (by decide) rfl (fun ls hl => ?_)
      obtain ⟨x18, ex18⟩ : ∃ z : Int32, z = v2 + (1 : Int32) := ⟨_, rfl⟩
      have h := h x18 ex18
      refine lv_iinc (v := x18) (lv' := [(2, .int x18), (1, .int x17), (0, .ref (A 0))]) hx hb dX10_watch_31 hl (k := 2) rfl (by rw [ex18]; rfl) (by decide) rfl (fun ls hl => ?_)
      refine lv_goto (tgt := 4) hx hb dX10_watch_34 (by decide) ?_
      exact ih4 x17 x18 S16 h _ _ _ hP hS (lv_sub hl [2, 1, 0] rfl)
  refine lv_iconst (v := (0 : Int32)) hx hb dX10_watch_0 (by decide) ?_
  refine lv_istore_n (lv' := [(1, .int (0 : Int32)), (0, .ref (A 0))]) hx hb dX10_watch_1 rfl hl (by decide) rfl (fun ls hl => ?_)
  refine lv_iconst (v := (0 : Int32)) hx hb dX10_watch_2 (by decide) ?_
  refine lv_istore_n (lv' := [(2, .int (0 : Int32)), (1, .int (0 : Int32)), (0, .ref (A 0))]) hx hb dX10_watch_3 rfl hl (by decide) rfl (fun ls hl => ?_)
  exact tL4  (0 : Int32) (0 : Int32) S h _ _ _ hP hS (lv_sub hl [2, 1, 0] rfl)

def qX10_counting (S : gS) (a1 : Int32) (Q : Int32 → gS → Prop) : Prop :=
  vp_in a1 6 ∧ (((ga S 25 a1.toNatClampNeg) = 0 → (Q (ga S 26 a1.toNatClampNeg) S)) ∧ (¬ (ga S 25 a1.toNatClampNeg) = 0 → (((ga S 26 a1.toNatClampNeg) ≤ 0 → (Q (ga S 26 a1.toNatClampNeg) S)) ∧ (¬ (ga S 26 a1.toNatClampNeg) ≤ 0 → (Q ((ga S 26 a1.toNatClampNeg) - (1 : Int32)) S)))))
abbrev rmX10_counting : Room := { frames := 0, cells := 0, slots := 0, locals := 0 }
set_option maxHeartbeats 4000000 in
set_option maxRecDepth 100000 in
theorem kX10_counting (l : Launch) (D : va_G) (Y : Nat → ClassId) (A : Nat → Nat) (hI : iM A) (sz : Nat) (S : gS) (a1 : Int32) (Q : Int32 → gS → Prop) (h : qX10_counting S a1 Q) : Met l yX10_counting wsX10_counting rmX10_counting (gPc [.ref (A 0), .int a1] sz D vwCl (tY Y) (wM Y A S)) (va_Qi Q (fun S' t => gH D vwCl (tY Y) (wM Y A S') t) (gF A 44 sz)) 0 0 (gF A 44 sz) := by
  refine gMet_i (cc := cX10_counting) (maxL := 2) (by decide +kernel) rfl (Nat.le_of_ble_eq_true rfl) (fun p e s m args below meth c Z H locs hx hb hml hts hown hK hP hS hret ls hl => ?_)
  have hown : s.vm.findClass RX10 = some m.cls := hown
  have hl : lv_has ls 2 [(0, .ref (A 0)), (1, .int a1)] := hl
  have hD : ∀ S0 : gS, va_D (gF A 44 s.heap.size) (wM Y A S0) := fun S0 => dM hI S0 (fun k hk => gF_in hk)
  have k0 : ∀ w ∈ u_ws RX10 TX10 54, w ∈ wsX10_counting := by decide +kernel
  have k1 := hts (.fieldLink RX10 89 "CoastWatchModel" "bribed" "[Z") (by decide +kernel)
  have k2 := hts (.fieldLink RX10 93 "CoastWatchModel" "there" "[I") (by decide +kernel)
  refine lv_aload_n hx hb dX10_counting_0 rfl (lv_at hl 0 rfl) ?_
  refine va_get (ci := 10) (v := .ref (A 26)) (C := RX10) (T := TX10) (N := 54) hx hb hts k0 hown hK hP 0 (aM0 Y A S) rfl 30 (by decide) k1 (fun _ h9 => h9) rfl dX10_counting_1 ?_
  refine lv_iload_n hx hb dX10_counting_4 rfl (lv_at hl 1 rfl) ?_
  have v_1 := h.1
  have h := h.2
  refine va_zald hx hb hK hP 26 1 (aM26 Y A S) rfl v_1 dX10_counting_5 ?_
  refine lv_if_eq (tgt := 29) hx hb dX10_counting_6 (by decide) (fun c2 => ?_) (fun c2 => ?_)
  · have h := h.1 c2
    refine lv_aload_n hx hb dX10_counting_29 rfl (lv_at hl 0 rfl) ?_
    refine va_get (ci := 10) (v := .ref (A 27)) (C := RX10) (T := TX10) (N := 54) hx hb hts k0 hown hK hP 0 (aM0 Y A S) rfl 31 (by decide) k2 (fun _ h9 => h9) rfl dX10_counting_30 ?_
    refine lv_iload_n hx hb dX10_counting_33 rfl (lv_at hl 1 rfl) ?_
    refine va_iald hx hb hK hP 27 0 (aM27 Y A S) rfl v_1 dX10_counting_34 ?_
    exact hret _ _ _ _ _ _ dX10_counting_35 h hP hS
  · have h := h.2 c2
    refine lv_aload_n hx hb dX10_counting_9 rfl (lv_at hl 0 rfl) ?_
    refine va_get (ci := 10) (v := .ref (A 27)) (C := RX10) (T := TX10) (N := 54) hx hb hts k0 hown hK hP 0 (aM0 Y A S) rfl 31 (by decide) k2 (fun _ h9 => h9) rfl dX10_counting_10 ?_
    refine lv_iload_n hx hb dX10_counting_13 rfl (lv_at hl 1 rfl) ?_
    refine va_iald hx hb hK hP 27 0 (aM27 Y A S) rfl v_1 dX10_counting_14 ?_
    refine lv_if_le (tgt := 29) hx hb dX10_counting_15 (by decide) (fun c3 => ?_) (fun c3 => ?_)
    · have h := h.1 c3
      refine lv_aload_n hx hb dX10_counting_29 rfl (lv_at hl 0 rfl) ?_
      refine va_get (ci := 10) (v := .ref (A 27)) (C := RX10) (T := TX10) (N := 54) hx hb hts k0 hown hK hP 0 (aM0 Y A S) rfl 31 (by decide) k2 (fun _ h9 => h9) rfl dX10_counting_30 ?_
      refine lv_iload_n hx hb dX10_counting_33 rfl (lv_at hl 1 rfl) ?_
      refine va_iald hx hb hK hP 27 0 (aM27 Y A S) rfl v_1 dX10_counting_34 ?_
      exact hret _ _ _ _ _ _ dX10_counting_35 h hP hS
    · have h := h.2 c3
      refine lv_aload_n hx hb dX10_counting_18 rfl (lv_at hl 0 rfl) ?_
      refine va_get (ci := 10) (v := .ref (A 27)) (C := RX10) (T := TX10) (N := 54) hx hb hts k0 hown hK hP 0 (aM0 Y A S) rfl 31 (by decide) k2 (fun _ h9 => h9) rfl dX10_counting_19 ?_
      refine lv_iload_n hx hb dX10_counting_22 rfl (lv_at hl 1 rfl) ?_
      refine va_iald hx hb hK hP 27 0 (aM27 Y A S) rfl v_1 dX10_counting_23 ?_
      refine lv_iconst (v := (1 : Int32)) hx hb dX10_counting_24 (by decide) ?_
      refine lv_isub hx hb dX10_counting_25 ?_
      refine lv_goto (tgt := 35) hx hb dX10_counting_26 (by decide) ?_
      exact hret _ _ _ _ _ _ dX10_counting_35 h hP hS

def qX10_choice_J125 (a1 : Int32) (Q : Int32 → gS → Prop) (K4 : Int32 × Int32 × gS → Prop) : Int32 × Int32 × Int32 × gS → Prop := fun ⟨v2, v3, s0, S⟩ =>
  (s0 = 0 → (∀ x2 : Int32, x2 = v3 + (1 : Int32) → (K4 (v2, x2, S)))) ∧ (¬ s0 = 0 → (∀ x3 : Int32, x3 = v3 + (1 : Int32) → (K4 (v3, x3, S))))
def qX10_choice_J124 (a1 : Int32) (Q : Int32 → gS → Prop) (K4 : Int32 × Int32 × gS → Prop) : Int32 × Int32 × gS → Prop := fun ⟨v2, v3, S⟩ =>
  qX10_choice_J125 a1 Q K4 (v2, v3, (0 : Int32), S)
def qX10_choice_J120 (a1 : Int32) (Q : Int32 → gS → Prop) (K4 : Int32 × Int32 × gS → Prop) : Int32 × Int32 × gS → Prop := fun ⟨v2, v3, S⟩ =>
  qX10_choice_J125 a1 Q K4 (v2, v3, (1 : Int32), S)
def qX10_choice_L4 (a1 : Int32) (Q : Int32 → gS → Prop) (K4 : Int32 × Int32 × gS → Prop) : Int32 × Int32 × gS → Prop := fun ⟨v2, v3, S⟩ =>
  ((6 : Int32) ≤ v3 → (Q v2 S)) ∧ (¬ (6 : Int32) ≤ v3 → (qX10_lightAt S (gi S 1) (fun r6 S5 => vp_in a1 8 ∧ (((ga S5 8 a1.toNatClampNeg) < r6 → (Q v2 S5)) ∧ (¬ (ga S5 8 a1.toNatClampNeg) < r6 → (qX10_tideAt S5 v3 (gi S5 1) (fun r10 S9 => vp_in v3 6 ∧ (((r10 + (ga S9 0 v3.toNatClampNeg)) < (ga S9 5 a1.toNatClampNeg) → (∀ x13 : Int32, x13 = v3 + (1 : Int32) → (K4 (v2, x13, S9)))) ∧ (¬ (r10 + (ga S9 0 v3.toNatClampNeg)) < (ga S9 5 a1.toNatClampNeg) → ((v2 < 0 → (qX10_choice_J120 a1 Q K4 (v2, v3, S9))) ∧ (¬ v2 < 0 → (vp_in (((6 : Int32) * a1) + v3) 48 ∧ (vp_in (((6 : Int32) * a1) + v2) 48 ∧ (((ga S9 12 (((6 : Int32) * a1) + v3).toNatClampNeg) < (ga S9 12 (((6 : Int32) * a1) + v2).toNatClampNeg) → (qX10_choice_J120 a1 Q K4 (v2, v3, S9))) ∧ (¬ (ga S9 12 (((6 : Int32) * a1) + v3).toNatClampNeg) < (ga S9 12 (((6 : Int32) * a1) + v2).toNatClampNeg) → (((ga S9 12 (((6 : Int32) * a1) + v3).toNatClampNeg) = (ga S9 12 (((6 : Int32) * a1) + v2).toNatClampNeg) → (vp_in v2 6 ∧ (((ga S9 1 v3.toNatClampNeg) ≤ (ga S9 1 v2.toNatClampNeg) → (qX10_choice_J124 a1 Q K4 (v2, v3, S9))) ∧ (¬ (ga S9 1 v3.toNatClampNeg) ≤ (ga S9 1 v2.toNatClampNeg) → (qX10_choice_J120 a1 Q K4 (v2, v3, S9)))))) ∧ (¬ (ga S9 12 (((6 : Int32) * a1) + v3).toNatClampNeg) = (ga S9 12 (((6 : Int32) * a1) + v2).toNatClampNeg) → (qX10_choice_J124 a1 Q K4 (v2, v3, S9)))))))))))))))))))
def qX10_choice (S : gS) (a1 : Int32) (Q : Int32 → gS → Prop) : Prop :=
  lp (qX10_choice_L4 a1 Q) ((-1 : Int32), (0 : Int32), S)
abbrev rmX10_choice : Room := { frames := 1, cells := 0, slots := 0, locals := 24 }
set_option maxHeartbeats 4000000 in
set_option maxRecDepth 100000 in
theorem kX10_choice (l : Launch) (D : va_G) (Y : Nat → ClassId) (A : Nat → Nat) (hI : iM A) (sz : Nat) (S : gS) (a1 : Int32) (Q : Int32 → gS → Prop) (h : qX10_choice S a1 Q) : Met l yX10_choice wsX10_choice rmX10_choice (gPc [.ref (A 0), .int a1] sz D vwCl (tY Y) (wM Y A S)) (va_Qi Q (fun S' t => gH D vwCl (tY Y) (wM Y A S') t) (gF A 44 sz)) 0 0 (gF A 44 sz) := by
  refine gMet_i (cc := cX10_choice) (maxL := 5) (by decide +kernel) rfl (Nat.le_of_ble_eq_true rfl) (fun p e s m args below meth c Z H locs hx hb hml hts hown hK hP hS hret ls hl => ?_)
  have hown : s.vm.findClass RX10 = some m.cls := hown
  have hl : lv_has ls 5 [(0, .ref (A 0)), (1, .int a1)] := hl
  have hD : ∀ S0 : gS, va_D (gF A 44 s.heap.size) (wM Y A S0) := fun S0 => dM hI S0 (fun k hk => gF_in hk)
  have k0 : ∀ w ∈ u_ws RX10 TX10 54, w ∈ wsX10_choice := by decide +kernel
  have k1 := hts (.fieldLink RX10 173 "CoastWatchModel" "night" "I") (by decide +kernel)
  have k2 := hts (.fieldLink RX10 38 "CoastWatchModel" "bold" "[I") (by decide +kernel)
  have k3 := hts (.fieldLink RX10 13 "CoastWatchModel" "depth" "[I") (by decide +kernel)
  have k4 := hts (.fieldLink RX10 29 "CoastWatchModel" "draught" "[I") (by decide +kernel)
  have k5 := hts (.fieldLink RX10 50 "CoastWatchModel" "fear" "[I") (by decide +kernel)
  have k6 := hts (.fieldLink RX10 17 "CoastWatchModel" "worth" "[I") (by decide +kernel)
  have tJ125 : ∀ (K4 : Int32 × Int32 × gS → Prop) (ih4 : ∀ (v2 : Int32) (v3 : Int32) (S : gS), K4 (v2, v3, S) → ∀ (H : Heap) (locs : List Loc) (ls : Array Slot), va_P D vwCl (wM Y A S) H → va_S (gF A 44 s.heap.size) s.heap H locs → lv_has ls 5 [(0, .ref (A 0)), (1, .int a1), (2, .int v2), (3, .int v3)] → W p l e rmX10_choice s m args below meth c H locs 0 0 Z (F0 m 4 ls [])) (v2 : Int32) (v3 : Int32) (s0 : Int32) (S : gS), qX10_choice_J125 a1 Q K4 (v2, v3, s0, S) → ∀ (H : Heap) (locs : List Loc) (ls : Array Slot), va_P D vwCl (wM Y A S) H → va_S (gF A 44 s.heap.size) s.heap H locs → lv_has ls 5 [(0, .ref (A 0)), (1, .int a1), (2, .int v2), (3, .int v3)] → W p l e rmX10_choice s m args below meth c H locs 0 0 Z (F0 m 125 ls [.int s0]) := by
    intro K4 ih4 v2 v3 s0 S h
    intro H locs ls hP hS hl
    refine lv_istore (lv' := [(4, .int s0), (0, .ref (A 0)), (1, .int a1), (2, .int v2), (3, .int v3)]) hx hb dX10_choice_125 hl (by decide) rfl (fun ls hl => ?_)
    refine lv_iload hx hb dX10_choice_127 (lv_at hl 0 rfl) ?_
    refine lv_if_eq (tgt := 136) hx hb dX10_choice_129 (by decide) (fun c1 => ?_) (fun c1 => ?_)
    · have h := h.1 c1
      refine lv_iload_n hx hb dX10_choice_136 rfl (lv_at hl 3 rfl) ?_
      refine lv_istore_n (lv' := [(2, .int v2), (4, .int s0), (0, .ref (A 0)), (1, .int a1), (3, .int v3)]) hx hb dX10_choice_137 rfl hl (by decide) rfl (fun ls hl => ?_)
      obtain ⟨x2, ex2⟩ : ∃ z : Int32, z = v3 + (1 : Int32) := ⟨_, rfl⟩
      have h := h x2 ex2
      refine lv_iinc (v := x2) (lv' := [(3, .int x2), (2, .int v2), (4, .int s0), (0, .ref (A 0)), (1, .int a1)]) hx hb dX10_choice_138 hl (k := 4) rfl (by rw [ex2]; rfl) (by decide) rfl (fun ls hl => ?_)
      refine lv_goto (tgt := 4) hx hb dX10_choice_141 (by decide) ?_
      exact ih4 v2 x2 S h _ _ _ hP hS (lv_sub hl [3, 4, 1, 0] rfl)
    · have h := h.2 c1
      refine lv_iload_n hx hb dX10_choice_132 rfl (lv_at hl 4 rfl) ?_
      refine lv_goto (tgt := 137) hx hb dX10_choice_133 (by decide) ?_
      refine lv_istore_n (lv' := [(2, .int v3), (4, .int s0), (0, .ref (A 0)), (1, .int a1), (3, .int v3)]) hx hb dX10_choice_137 rfl hl (by decide) rfl (fun ls hl => ?_)
      obtain ⟨x3, ex3⟩ : ∃ z : Int32, z = v3 + (1 : Int32) := ⟨_, rfl⟩
      have h := h x3 ex3
      refine lv_iinc (v := x3) (lv' := [(3, .int x3), (2, .int v3), (4, .int s0), (0, .ref (A 0)), (1, .int a1)]) hx hb dX10_choice_138 hl (k := 4) rfl (by rw [ex3]; rfl) (by decide) rfl (fun ls hl => ?_)
      refine lv_goto (tgt := 4) hx hb dX10_choice_141 (by decide) ?_
      exact ih4 v3 x3 S h _ _ _ hP hS (lv_sub hl [3, 4, 1, 0] rfl)
  have tJ124 : ∀ (K4 : Int32 × Int32 × gS → Prop) (ih4 : ∀ (v2 : Int32) (v3 : Int32) (S : gS), K4 (v2, v3, S) → ∀ (H : Heap) (locs : List Loc) (ls : Array Slot), va_P D vwCl (wM Y A S) H → va_S (gF A 44 s.heap.size) s.heap H locs → lv_has ls 5 [(0, .ref (A 0)), (1, .int a1), (2, .int v2), (3, .int v3)] → W p l e rmX10_choice s m args below meth c H locs 0 0 Z (F0 m 4 ls [])) (v2 : Int32) (v3 : Int32) (S : gS), qX10_choice_J124 a1 Q K4 (v2, v3, S) → ∀ (H : Heap) (locs : List Loc) (ls : Array Slot), va_P D vwCl (wM Y A S) H → va_S (gF A 44 s.heap.size) s.heap H locs → lv_has ls 5 [(0, .ref (A 0)), (1, .int a1), (2, .int v2), (3, .int v3)] → W p l e rmX10_choice s m args below meth c H locs 0 0 Z (F0 m 124 ls []) := by
    intro K4 ih4 v2 v3 S h
    intro H locs ls hP hS hl
    refine lv_iconst (v := (0 : Int32)) hx hb dX10_choice_124 (by decide) ?_
    exact tJ125 K4 ih4 v2 v3 (0 : Int32) S h _ _ _ hP hS (lv_sub hl [0, 1, 2, 3] rfl)
  have tJ120 : ∀ (K4 : Int32 × Int32 × gS → Prop) (ih4 : ∀ (v2 : Int32) (v3 : Int32) (S : gS), K4 (v2, v3, S) → ∀ (H : Heap) (locs : List Loc) (ls : Array Slot), va_P D vwCl (wM Y A S) H → va_S (gF A 44 s.heap.size) s.heap H locs → lv_has ls 5 [(0, .ref (A 0)), (1, .int a1), (2, .int v2), (3, .int v3)] → W p l e rmX10_choice s m args below meth c H locs 0 0 Z (F0 m 4 ls [])) (v2 : Int32) (v3 : Int32) (S : gS), qX10_choice_J120 a1 Q K4 (v2, v3, S) → ∀ (H : Heap) (locs : List Loc) (ls : Array Slot), va_P D vwCl (wM Y A S) H → va_S (gF A 44 s.heap.size) s.heap H locs → lv_has ls 5 [(0, .ref (A 0)), (1, .int a1), (2, .int v2), (3, .int v3)] → W p l e rmX10_choice s m args below meth c H locs 0 0 Z (F0 m 120 ls []) := by
    intro K4 ih4 v2 v3 S h
    intro H locs ls hP hS hl
    refine lv_iconst (v := (1 : Int32)) hx hb dX10_choice_120 (by decide) ?_
    refine lv_goto (tgt := 125) hx hb dX10_choice_121 (by decide) ?_
    exact tJ125 K4 ih4 v2 v3 (1 : Int32) S h _ _ _ hP hS (lv_sub hl [0, 1, 2, 3] rfl)
  have tL4 : ∀ (v2 : Int32) (v3 : Int32) (S : gS), lp (qX10_choice_L4 a1 Q) (v2, v3, S) → ∀ (H : Heap) (locs : List Loc) (ls : Array Slot), va_P D vwCl (wM Y A S) H → va_S (gF A 44 s.heap.size) s.heap H locs → lv_has ls 5 [(0, .ref (A 0)), (1, .int a1), (2, .int v2), (3, .int v3)] → W p l e rmX10_choice s m args below meth c H locs 0 0 Z (F0 m 4 ls []) := by
    intro  v2 v3 S h
    refine lp_walk (G := fun a => match a with | (v2, v3, S) => ∀ (H : Heap) (locs : List Loc) (ls : Array Slot), va_P D vwCl (wM Y A S) H → va_S (gF A 44 s.heap.size) s.heap H locs → lv_has ls 5 [(0, .ref (A 0)), (1, .int a1), (2, .int v2), (3, .int v3)] → W p l e rmX10_choice s m args below meth c H locs 0 0 Z (F0 m 4 ls [])) (fun K4 a ih4 h => ?_) (v2, v3, S) h
    obtain ⟨v2, v3, S⟩ := a
    have ih4 : ∀ (v2 : Int32) (v3 : Int32) (S : gS), K4 (v2, v3, S) → ∀ (H : Heap) (locs : List Loc) (ls : Array Slot), va_P D vwCl (wM Y A S) H → va_S (gF A 44 s.heap.size) s.heap H locs → lv_has ls 5 [(0, .ref (A 0)), (1, .int a1), (2, .int v2), (3, .int v3)] → W p l e rmX10_choice s m args below meth c H locs 0 0 Z (F0 m 4 ls []) := fun v2 v3 S q => ih4 (v2, v3, S) q
    intro H locs ls hP hS hl
    refine lv_iload_n hx hb dX10_choice_4 rfl (lv_at hl 3 rfl) ?_
    refine lv_bipush (v := (6 : Int32)) hx hb dX10_choice_5 (by decide) ?_
    refine lv_icmp_ge (tgt := 144) hx hb dX10_choice_7 (by decide) (fun c4 => ?_) (fun c4 => ?_)
    · have h := h.1 c4
      refine lv_iload_n hx hb dX10_choice_144 rfl (lv_at hl 2 rfl) ?_
      exact hret _ _ _ _ _ _ dX10_choice_145 h hP hS
    · have h := h.2 c4
      refine lv_aload_n hx hb dX10_choice_10 rfl (lv_at hl 0 rfl) ?_
      refine va_get (ci := 10) (v := .int (gi S 1)) (C := RX10) (T := TX10) (N := 54) hx hb hts k0 hown hK hP 0 (aM0 Y A S) rfl 1 (by decide) k1 (fun _ h9 => h9) rfl dX10_choice_11 ?_
      refine gSi (As := [.int (gi S 1)]) (rest := []) ⟨hx, hb, hml, hown, hts⟩ (kX10_lightAt l D Y A hI H.size S (gi S 1) _ h) (va_cwS 1 hts gX10_choice_X10_lightAt rfl rfl rfl (by decide +kernel) ⟨Nat.le_of_ble_eq_true rfl, Nat.le_of_ble_eq_true rfl⟩) hK hP hS (gF_le hS.1) rfl rfl hl.1 (Nat.le_of_ble_eq_true rfl) dX10_choice_14 ⟨Nat.zero_le _, Nat.zero_le _⟩ ?_
      intro r6 S5 H locs h hP hS
      refine lv_aload_n hx hb dX10_choice_17 rfl (lv_at hl 0 rfl) ?_
      refine va_get (ci := 10) (v := .ref (A 9)) (C := RX10) (T := TX10) (N := 54) hx hb hts k0 hown hK hP 0 (aM0 Y A S5) rfl 11 (by decide) k2 (fun _ h9 => h9) rfl dX10_choice_18 ?_
      refine lv_iload_n hx hb dX10_choice_21 rfl (lv_at hl 1 rfl) ?_
      have v_7 := h.1
      have h := h.2
      refine va_iald hx hb hK hP 9 0 (aM9 Y A S5) rfl v_7 dX10_choice_22 ?_
      refine lv_icmp_gt (tgt := 144) hx hb dX10_choice_23 (by decide) (fun c8 => ?_) (fun c8 => ?_)
      · have h := h.1 c8
        refine lv_iload_n hx hb dX10_choice_144 rfl (lv_at hl 2 rfl) ?_
        exact hret _ _ _ _ _ _ dX10_choice_145 h hP hS
      · have h := h.2 c8
        refine lv_aload_n hx hb dX10_choice_26 rfl (lv_at hl 0 rfl) ?_
        refine lv_iload_n hx hb dX10_choice_27 rfl (lv_at hl 3 rfl) ?_
        refine lv_aload_n hx hb dX10_choice_28 rfl (lv_at hl 0 rfl) ?_
        refine va_get (ci := 10) (v := .int (gi S5 1)) (C := RX10) (T := TX10) (N := 54) hx hb hts k0 hown hK hP 0 (aM0 Y A S5) rfl 1 (by decide) k1 (fun _ h9 => h9) rfl dX10_choice_29 ?_
        refine gVi (As := [.int v3, .int (gi S5 1)]) (rest := []) ⟨hx, hb, hml, hown, hts⟩ (kX10_tideAt l D Y A hI H.size S5 v3 (gi S5 1) _ h) (cwV 2 hts gX10_choice_X10_tideAt rfl rfl rfl (by decide +kernel) ⟨Nat.le_of_ble_eq_true rfl, Nat.le_of_ble_eq_true rfl⟩) hK hP hS (gF_le hS.1) (aM0 Y A S5) (show vwCl[10]? = some (RX10, TX10, 54) from rfl) rfl rfl hl.1 (Nat.le_of_ble_eq_true rfl) dX10_choice_32 ⟨Nat.zero_le _, Nat.zero_le _⟩ ?_
        intro r10 S9 H locs h hP hS
        refine lv_aload_n hx hb dX10_choice_35 rfl (lv_at hl 0 rfl) ?_
        refine va_get (ci := 10) (v := .ref (A 1)) (C := RX10) (T := TX10) (N := 54) hx hb hts k0 hown hK hP 0 (aM0 Y A S9) rfl 2 (by decide) k3 (fun _ h9 => h9) rfl dX10_choice_36 ?_
        refine lv_iload_n hx hb dX10_choice_39 rfl (lv_at hl 3 rfl) ?_
        have v_11 := h.1
        have h := h.2
        refine va_iald hx hb hK hP 1 0 (aM1 Y A S9) rfl v_11 dX10_choice_40 ?_
        refine lv_iadd hx hb dX10_choice_41 ?_
        refine lv_aload_n hx hb dX10_choice_42 rfl (lv_at hl 0 rfl) ?_
        refine va_get (ci := 10) (v := .ref (A 6)) (C := RX10) (T := TX10) (N := 54) hx hb hts k0 hown hK hP 0 (aM0 Y A S9) rfl 8 (by decide) k4 (fun _ h9 => h9) rfl dX10_choice_43 ?_
        refine lv_iload_n hx hb dX10_choice_46 rfl (lv_at hl 1 rfl) ?_
        refine va_iald hx hb hK hP 6 0 (aM6 Y A S9) rfl v_7 dX10_choice_47 ?_
        refine lv_icmp_lt (tgt := 138) hx hb dX10_choice_48 (by decide) (fun c12 => ?_) (fun c12 => ?_)
        · have h := h.1 c12
          obtain ⟨x13, ex13⟩ : ∃ z : Int32, z = v3 + (1 : Int32) := ⟨_, rfl⟩
          have h := h x13 ex13
          refine lv_iinc (v := x13) (lv' := [(3, .int x13), (0, .ref (A 0)), (1, .int a1), (2, .int v2)]) hx hb dX10_choice_138 hl (k := 3) rfl (by rw [ex13]; rfl) (by decide) rfl (fun ls hl => ?_)
          refine lv_goto (tgt := 4) hx hb dX10_choice_141 (by decide) ?_
          exact ih4 v2 x13 S9 h _ _ _ hP hS (lv_sub hl [1, 2, 3, 0] rfl)
        · have h := h.2 c12
          refine lv_iload_n hx hb dX10_choice_51 rfl (lv_at hl 2 rfl) ?_
          refine lv_if_lt (tgt := 120) hx hb dX10_choice_52 (by decide) (fun c14 => ?_) (fun c14 => ?_)
          · have h := h.1 c14
            exact tJ120 K4 ih4 v2 v3 S9 h _ _ _ hP hS (lv_sub hl [0, 1, 2, 3] rfl)
          · have h := h.2 c14
            refine lv_aload_n hx hb dX10_choice_55 rfl (lv_at hl 0 rfl) ?_
            refine va_get (ci := 10) (v := .ref (A 13)) (C := RX10) (T := TX10) (N := 54) hx hb hts k0 hown hK hP 0 (aM0 Y A S9) rfl 15 (by decide) k5 (fun _ h9 => h9) rfl dX10_choice_56 ?_
            refine lv_bipush (v := (6 : Int32)) hx hb dX10_choice_59 (by decide) ?_
            refine lv_iload_n hx hb dX10_choice_61 rfl (lv_at hl 1 rfl) ?_
            refine lv_imul hx hb dX10_choice_62 ?_
            refine lv_iload_n hx hb dX10_choice_63 rfl (lv_at hl 3 rfl) ?_
            refine lv_iadd hx hb dX10_choice_64 ?_
            have v_15 := h.1
            have h := h.2
            refine va_iald hx hb hK hP 13 0 (aM13 Y A S9) rfl v_15 dX10_choice_65 ?_
            refine lv_aload_n hx hb dX10_choice_66 rfl (lv_at hl 0 rfl) ?_
            refine va_get (ci := 10) (v := .ref (A 13)) (C := RX10) (T := TX10) (N := 54) hx hb hts k0 hown hK hP 0 (aM0 Y A S9) rfl 15 (by decide) k5 (fun _ h9 => h9) rfl dX10_choice_67 ?_
            refine lv_bipush (v := (6 : Int32)) hx hb dX10_choice_70 (by decide) ?_
            refine lv_iload_n hx hb dX10_choice_72 rfl (lv_at hl 1 rfl) ?_
            refine lv_imul hx hb dX10_choice_73 ?_
            refine lv_iload_n hx hb dX10_choice_74 rfl (lv_at hl 2 rfl) ?_
            refine lv_iadd hx hb dX10_choice_75 ?_
            have v_16 := h.1
            have h := h.2
            refine va_iald hx hb hK hP 13 0 (aM13 Y A S9) rfl v_16 dX10_choice_76 ?_
            refine lv_icmp_lt (tgt := 120) hx hb dX10_choice_77 (by decide) (fun c17 => ?_) (fun c17 => ?_)
            · have h := h.1 c17
              exact tJ120 K4 ih4 v2 v3 S9 h _ _ _ hP hS (lv_sub hl [0, 1, 2, 3] rfl)
            · have h := h.2 c17
              refine lv_aload_n hx hb dX10_choice_80 rfl (lv_at hl 0 rfl) ?_
              refine va_get (ci := 10) (v := .ref (A 13)) (C := RX10) (T := TX10) (N := 54) hx hb hts k0 hown hK hP 0 (aM0 Y A S9) rfl 15 (by decide) k5 (fun _ h9 => h9) rfl dX10_choice_81 ?_
              refine lv_bipush (v := (6 : Int32)) hx hb dX10_choice_84 (by decide) ?_
              refine lv_iload_n hx hb dX10_choice_86 rfl (lv_at hl 1 rfl) ?_
              refine lv_imul hx hb dX10_choice_87 ?_
              refine lv_iload_n hx hb dX10_choice_88 rfl (lv_at hl 3 rfl) ?_
              refine lv_iadd hx hb dX10_choice_89 ?_
              refine va_iald hx hb hK hP 13 0 (aM13 Y A S9) rfl v_15 dX10_choice_90 ?_
              refine lv_aload_n hx hb dX10_choice_91 rfl (lv_at hl 0 rfl) ?_
              refine va_get (ci := 10) (v := .ref (A 13)) (C := RX10) (T := TX10) (N := 54) hx hb hts k0 hown hK hP 0 (aM0 Y A S9) rfl 15 (by decide) k5 (fun _ h9 => h9) rfl dX10_choice_92 ?_
              refine lv_bipush (v := (6 : Int32)) hx hb dX10_choice_95 (by decide) ?_
              refine lv_iload_n hx hb dX10_choice_97 rfl (lv_at hl 1 rfl) ?_
              refine lv_imul hx hb dX10_choice_98 ?_
              refine lv_iload_n hx hb dX10_choice_99 rfl (lv_at hl 2 rfl) ?_
              refine lv_iadd hx hb dX10_choice_100 ?_
              refine va_iald hx hb hK hP 13 0 (aM13 Y A S9) rfl v_16 dX10_choice_101 ?_
              refine lv_icmp_ne (tgt := 124) hx hb dX10_choice_102 (by decide) (fun c18 => ?_) (fun c18 => ?_)
              · have h := h.2 c18
                exact tJ124 K4 ih4 v2 v3 S9 h _ _ _ hP hS (lv_sub hl [0, 1, 2, 3] rfl)
              · have h := h.1 c18
                refine lv_aload_n hx hb dX10_choice_105 rfl (lv_at hl 0 rfl) ?_
                refine va_get (ci := 10) (v := .ref (A 2)) (C := RX10) (T := TX10) (N := 54) hx hb hts k0 hown hK hP 0 (aM0 Y A S9) rfl 3 (by decide) k6 (fun _ h9 => h9) rfl dX10_choice_106 ?_
                refine lv_iload_n hx hb dX10_choice_109 rfl (lv_at hl 3 rfl) ?_
                refine va_iald hx hb hK hP 2 0 (aM2 Y A S9) rfl v_11 dX10_choice_110 ?_
                refine lv_aload_n hx hb dX10_choice_111 rfl (lv_at hl 0 rfl) ?_
                refine va_get (ci := 10) (v := .ref (A 2)) (C := RX10) (T := TX10) (N := 54) hx hb hts k0 hown hK hP 0 (aM0 Y A S9) rfl 3 (by decide) k6 (fun _ h9 => h9) rfl dX10_choice_112 ?_
                refine lv_iload_n hx hb dX10_choice_115 rfl (lv_at hl 2 rfl) ?_
                have v_19 := h.1
                have h := h.2
                refine va_iald hx hb hK hP 2 0 (aM2 Y A S9) rfl v_19 dX10_choice_116 ?_
                refine lv_icmp_le (tgt := 124) hx hb dX10_choice_117 (by decide) (fun c20 => ?_) (fun c20 => ?_)
                · have h := h.1 c20
                  exact tJ124 K4 ih4 v2 v3 S9 h _ _ _ hP hS (lv_sub hl [0, 1, 2, 3] rfl)
                · have h := h.2 c20
                  exact tJ120 K4 ih4 v2 v3 S9 h _ _ _ hP hS (lv_sub hl [0, 1, 2, 3] rfl)
  refine lv_iconst (v := (-1 : Int32)) hx hb dX10_choice_0 (by decide) ?_
  refine lv_istore_n (lv' := [(2, .int (-1 : Int32)), (0, .ref (A 0)), (1, .int a1)]) hx hb dX10_choice_1 rfl hl (by decide) rfl (fun ls hl => ?_)
  refine lv_iconst (v := (0 : Int32)) hx hb dX10_choice_2 (by decide) ?_
  refine lv_istore_n (lv' := [(3, .int (0 : Int32)), (2, .int (-1 : Int32)), (0, .ref (A 0)), (1, .int a1)]) hx hb dX10_choice_3 rfl hl (by decide) rfl (fun ls hl => ?_)
  exact tL4  (-1 : Int32) (0 : Int32) S h _ _ _ hP hS (lv_sub hl [2, 3, 1, 0] rfl)

def qX10_partCasks_J115 (a1 : Int32) (a2 : Int32) (Q : gS → Prop) : Int32 × Int32 × Int32 × gS → Prop := fun ⟨v4, v5, s0, S⟩ =>
  vp_in (0 : Int32) 8 ∧ (∀ S2 : gS, S2 = sA S 39 (upd (ga S 39) (0 : Int32).toNatClampNeg ((ga S 39 (0 : Int32).toNatClampNeg) + v5)) → (vp_in (1 : Int32) 8 ∧ (∀ S4 : gS, S4 = sA S2 39 (upd (ga S2 39) (1 : Int32).toNatClampNeg ((ga S2 39 (1 : Int32).toNatClampNeg) + ((v4 - v5) - s0))) → ((a2 < 0 → (Q S4)) ∧ (¬ a2 < 0 → (vp_in ((2 : Int32) + a2) 8 ∧ (∀ S7 : gS, S7 = sA S4 39 (upd (ga S4 39) ((2 : Int32) + a2).toNatClampNeg ((ga S4 39 ((2 : Int32) + a2).toNatClampNeg) + s0)) → (Q S7))))))))
def qX10_partCasks_J99 (a1 : Int32) (a2 : Int32) (Q : gS → Prop) : Int32 × Int32 × gS → Prop := fun ⟨v4, v5, S⟩ =>
  qX10_partCasks_J115 a1 a2 Q (v4, v5, (0 : Int32), S)
def qX10_partCasks_J89 (a1 : Int32) (a2 : Int32) (Q : gS → Prop) : Int32 × Int32 × Int32 × gS → Prop := fun ⟨v3, v4, s0, S⟩ =>
  (v3 < 0 → (qX10_partCasks_J99 a1 a2 Q (v4, s0, S))) ∧ (¬ v3 < 0 → ((0 ≤ a2 → (vp_in v3 20 ∧ (qX10_partCasks_J115 a1 a2 Q (v4, s0, ((v4 * (ga S 29 v3.toNatClampNeg)) / (100 : Int32)), S)))) ∧ (¬ 0 ≤ a2 → (qX10_partCasks_J99 a1 a2 Q (v4, s0, S)))))
def qX10_partCasks_L5 (a1 : Int32) (a2 : Int32) (Q : gS → Prop) (K5 : Int32 × Int32 × gS → Prop) : Int32 × Int32 × gS → Prop := fun ⟨v3, v4, S⟩ =>
  ((gi S 7) ≤ v4 → (∀ x12 : Int32, x12 = (a1 * (gi S 6)) → ((0 ≤ v3 → (vp_in v3 20 ∧ (qX10_partCasks_J89 a1 a2 Q (v3, x12, ((x12 * (ga S 28 v3.toNatClampNeg)) / (100 : Int32)), S)))) ∧ (¬ 0 ≤ v3 → (qX10_partCasks_J89 a1 a2 Q (v3, x12, (0 : Int32), S)))))) ∧ (¬ (gi S 7) ≤ v4 → (vp_in v4 20 ∧ (((gi S 1) < (ga S 30 v4.toNatClampNeg) → (∀ x17 : Int32, x17 = v4 + (1 : Int32) → (K5 (v3, x17, S)))) ∧ (¬ (gi S 1) < (ga S 30 v4.toNatClampNeg) → ((v3 < 0 → (∀ x19 : Int32, x19 = v4 + (1 : Int32) → (K5 (v4, x19, S)))) ∧ (¬ v3 < 0 → (vp_in v3 20 ∧ (((ga S 30 v4.toNatClampNeg) < (ga S 30 v3.toNatClampNeg) → (∀ x22 : Int32, x22 = v4 + (1 : Int32) → (K5 (v3, x22, S)))) ∧ (¬ (ga S 30 v4.toNatClampNeg) < (ga S 30 v3.toNatClampNeg) → (∀ x23 : Int32, x23 = v4 + (1 : Int32) → (K5 (v4, x23, S))))))))))))
def qX10_partCasks (S : gS) (a1 : Int32) (a2 : Int32) (Q : gS → Prop) : Prop :=
  lp (qX10_partCasks_L5 a1 a2 Q) ((-1 : Int32), (0 : Int32), S)
abbrev rmX10_partCasks : Room := { frames := 0, cells := 0, slots := 0, locals := 0 }
set_option maxHeartbeats 4000000 in
set_option maxRecDepth 100000 in
theorem kX10_partCasks (l : Launch) (D : va_G) (Y : Nat → ClassId) (A : Nat → Nat) (hI : iM A) (sz : Nat) (S : gS) (a1 : Int32) (a2 : Int32) (Q : gS → Prop) (h : qX10_partCasks S a1 a2 Q) : Met l yX10_partCasks wsX10_partCasks rmX10_partCasks (gPc [.ref (A 0), .int a1, .int a2] sz D vwCl (tY Y) (wM Y A S)) (va_Qv Q (fun S' t => gH D vwCl (tY Y) (wM Y A S') t) (gF A 44 sz)) 0 0 (gF A 44 sz) := by
  refine gMet_v (cc := cX10_partCasks) (maxL := 7) (by decide +kernel) rfl (Nat.le_of_ble_eq_true rfl) (fun p e s m args below meth c Z H locs hx hb hml hts hown hK hP hS hret ls hl => ?_)
  have hown : s.vm.findClass RX10 = some m.cls := hown
  have hl : lv_has ls 7 [(0, .ref (A 0)), (1, .int a1), (2, .int a2)] := hl
  have hD : ∀ S0 : gS, va_D (gF A 44 s.heap.size) (wM Y A S0) := fun S0 => dM hI S0 (fun k hk => gF_in hk)
  have k0 : ∀ w ∈ u_ws RX10 TX10 54, w ∈ wsX10_partCasks := by decide +kernel
  have k1 := hts (.fieldLink RX10 132 "CoastWatchModel" "coins" "[I") (by decide +kernel)
  have k2 := hts (.fieldLink RX10 102 "CoastWatchModel" "lawInformer" "[I") (by decide +kernel)
  have k3 := hts (.fieldLink RX10 176 "CoastWatchModel" "laws" "I") (by decide +kernel)
  have k4 := hts (.fieldLink RX10 170 "CoastWatchModel" "price" "I") (by decide +kernel)
  have k5 := hts (.fieldLink RX10 99 "CoastWatchModel" "lawCrew" "[I") (by decide +kernel)
  have k6 := hts (.fieldLink RX10 105 "CoastWatchModel" "lawNight" "[I") (by decide +kernel)
  have k7 := hts (.fieldLink RX10 173 "CoastWatchModel" "night" "I") (by decide +kernel)
  have tJ115 : ∀ (v4 : Int32) (v5 : Int32) (s0 : Int32) (S : gS), qX10_partCasks_J115 a1 a2 Q (v4, v5, s0, S) → ∀ (H : Heap) (locs : List Loc) (ls : Array Slot), va_P D vwCl (wM Y A S) H → va_S (gF A 44 s.heap.size) s.heap H locs → lv_has ls 7 [(0, .ref (A 0)), (2, .int a2), (4, .int v4), (5, .int v5)] → W p l e rmX10_partCasks s m args below meth c H locs 0 0 Z (F0 m 115 ls [.int s0]) := by
    intro  v4 v5 s0 S h
    intro H locs ls hP hS hl
    refine lv_istore (lv' := [(6, .int s0), (0, .ref (A 0)), (2, .int a2), (4, .int v4), (5, .int v5)]) hx hb dX10_partCasks_115 hl (by decide) rfl (fun ls hl => ?_)
    refine lv_aload_n hx hb dX10_partCasks_117 rfl (lv_at hl 1 rfl) ?_
    refine va_get (ci := 10) (v := .ref (A 40)) (C := RX10) (T := TX10) (N := 54) hx hb hts k0 hown hK hP 0 (aM0 Y A S) rfl 48 (by decide) k1 (fun _ h9 => h9) rfl dX10_partCasks_118 ?_
    refine lv_iconst (v := (0 : Int32)) hx hb dX10_partCasks_121 (by decide) ?_
    refine lv_dup2_11 hx hb dX10_partCasks_122 rfl rfl ?_
    have v_1 := h.1
    have h := h.2
    refine va_iald hx hb hK hP 40 0 (aM40 Y A S) rfl v_1 dX10_partCasks_123 ?_
    refine lv_iload hx hb dX10_partCasks_124 (lv_at hl 4 rfl) ?_
    refine lv_iadd hx hb dX10_partCasks_126 ?_
    obtain ⟨S2, eS2⟩ : ∃ z : gS, z = sA S 39 (upd (ga S 39) (0 : Int32).toNatClampNeg ((ga S 39 (0 : Int32).toNatClampNeg) + v5)) := ⟨_, rfl⟩
    refine va_iast hx hb hK hP (hD S) hS 40 0 (aM40 Y A S) rfl v_1 dX10_partCasks_127 (fun H locs hP _ hS => ?_)
    have hP := uM40 eS2 hP
    have h := h S2 eS2
    refine lv_aload_n hx hb dX10_partCasks_128 rfl (lv_at hl 1 rfl) ?_
    refine va_get (ci := 10) (v := .ref (A 40)) (C := RX10) (T := TX10) (N := 54) hx hb hts k0 hown hK hP 0 (aM0 Y A S2) rfl 48 (by decide) k1 (fun _ h9 => h9) rfl dX10_partCasks_129 ?_
    refine lv_iconst (v := (1 : Int32)) hx hb dX10_partCasks_132 (by decide) ?_
    refine lv_dup2_11 hx hb dX10_partCasks_133 rfl rfl ?_
    have v_3 := h.1
    have h := h.2
    refine va_iald hx hb hK hP 40 0 (aM40 Y A S2) rfl v_3 dX10_partCasks_134 ?_
    refine lv_iload hx hb dX10_partCasks_135 (lv_at hl 3 rfl) ?_
    refine lv_iload hx hb dX10_partCasks_137 (lv_at hl 4 rfl) ?_
    refine lv_isub hx hb dX10_partCasks_139 ?_
    refine lv_iload hx hb dX10_partCasks_140 (lv_at hl 0 rfl) ?_
    refine lv_isub hx hb dX10_partCasks_142 ?_
    refine lv_iadd hx hb dX10_partCasks_143 ?_
    obtain ⟨S4, eS4⟩ : ∃ z : gS, z = sA S2 39 (upd (ga S2 39) (1 : Int32).toNatClampNeg ((ga S2 39 (1 : Int32).toNatClampNeg) + ((v4 - v5) - s0))) := ⟨_, rfl⟩
    refine va_iast hx hb hK hP (hD S2) hS 40 0 (aM40 Y A S2) rfl v_3 dX10_partCasks_144 (fun H locs hP _ hS => ?_)
    have hP := uM40 eS4 hP
    have h := h S4 eS4
    refine lv_iload_n hx hb dX10_partCasks_145 rfl (lv_at hl 2 rfl) ?_
    refine lv_if_lt (tgt := 162) hx hb dX10_partCasks_146 (by decide) (fun c5 => ?_) (fun c5 => ?_)
    · have h := h.1 c5
      exact hret _ _ _ _ _ dX10_partCasks_162 h hP hS
    · have h := h.2 c5
      refine lv_aload_n hx hb dX10_partCasks_149 rfl (lv_at hl 1 rfl) ?_
      refine va_get (ci := 10) (v := .ref (A 40)) (C := RX10) (T := TX10) (N := 54) hx hb hts k0 hown hK hP 0 (aM0 Y A S4) rfl 48 (by decide) k1 (fun _ h9 => h9) rfl dX10_partCasks_150 ?_
      refine lv_iconst (v := (2 : Int32)) hx hb dX10_partCasks_153 (by decide) ?_
      refine lv_iload_n hx hb dX10_partCasks_154 rfl (lv_at hl 2 rfl) ?_
      refine lv_iadd hx hb dX10_partCasks_155 ?_
      refine lv_dup2_11 hx hb dX10_partCasks_156 rfl rfl ?_
      have v_6 := h.1
      have h := h.2
      refine va_iald hx hb hK hP 40 0 (aM40 Y A S4) rfl v_6 dX10_partCasks_157 ?_
      refine lv_iload hx hb dX10_partCasks_158 (lv_at hl 0 rfl) ?_
      refine lv_iadd hx hb dX10_partCasks_160 ?_
      obtain ⟨S7, eS7⟩ : ∃ z : gS, z = sA S4 39 (upd (ga S4 39) ((2 : Int32) + a2).toNatClampNeg ((ga S4 39 ((2 : Int32) + a2).toNatClampNeg) + s0)) := ⟨_, rfl⟩
      refine va_iast hx hb hK hP (hD S4) hS 40 0 (aM40 Y A S4) rfl v_6 dX10_partCasks_161 (fun H locs hP _ hS => ?_)
      have hP := uM40 eS7 hP
      have h := h S7 eS7
      exact hret _ _ _ _ _ dX10_partCasks_162 h hP hS
  have tJ99 : ∀ (v4 : Int32) (v5 : Int32) (S : gS), qX10_partCasks_J99 a1 a2 Q (v4, v5, S) → ∀ (H : Heap) (locs : List Loc) (ls : Array Slot), va_P D vwCl (wM Y A S) H → va_S (gF A 44 s.heap.size) s.heap H locs → lv_has ls 7 [(0, .ref (A 0)), (2, .int a2), (4, .int v4), (5, .int v5)] → W p l e rmX10_partCasks s m args below meth c H locs 0 0 Z (F0 m 99 ls []) := by
    intro  v4 v5 S h
    intro H locs ls hP hS hl
    refine lv_iconst (v := (0 : Int32)) hx hb dX10_partCasks_99 (by decide) ?_
    refine lv_goto (tgt := 115) hx hb dX10_partCasks_100 (by decide) ?_
    exact tJ115  v4 v5 (0 : Int32) S h _ _ _ hP hS (lv_sub hl [0, 1, 2, 3] rfl)
  have tJ89 : ∀ (v3 : Int32) (v4 : Int32) (s0 : Int32) (S : gS), qX10_partCasks_J89 a1 a2 Q (v3, v4, s0, S) → ∀ (H : Heap) (locs : List Loc) (ls : Array Slot), va_P D vwCl (wM Y A S) H → va_S (gF A 44 s.heap.size) s.heap H locs → lv_has ls 7 [(0, .ref (A 0)), (2, .int a2), (3, .int v3), (4, .int v4)] → W p l e rmX10_partCasks s m args below meth c H locs 0 0 Z (F0 m 89 ls [.int s0]) := by
    intro  v3 v4 s0 S h
    intro H locs ls hP hS hl
    refine lv_istore (lv' := [(5, .int s0), (0, .ref (A 0)), (2, .int a2), (3, .int v3), (4, .int v4)]) hx hb dX10_partCasks_89 hl (by decide) rfl (fun ls hl => ?_)
    refine lv_iload_n hx hb dX10_partCasks_91 rfl (lv_at hl 3 rfl) ?_
    refine lv_if_lt (tgt := 99) hx hb dX10_partCasks_92 (by decide) (fun c8 => ?_) (fun c8 => ?_)
    · have h := h.1 c8
      exact tJ99  v4 s0 S h _ _ _ hP hS (lv_sub hl [1, 2, 4, 0] rfl)
    · have h := h.2 c8
      refine lv_iload_n hx hb dX10_partCasks_95 rfl (lv_at hl 2 rfl) ?_
      refine lv_if_ge (tgt := 103) hx hb dX10_partCasks_96 (by decide) (fun c9 => ?_) (fun c9 => ?_)
      · have h := h.1 c9
        refine lv_iload hx hb dX10_partCasks_103 (lv_at hl 4 rfl) ?_
        refine lv_aload_n hx hb dX10_partCasks_105 rfl (lv_at hl 1 rfl) ?_
        refine va_get (ci := 10) (v := .ref (A 30)) (C := RX10) (T := TX10) (N := 54) hx hb hts k0 hown hK hP 0 (aM0 Y A S) rfl 37 (by decide) k2 (fun _ h9 => h9) rfl dX10_partCasks_106 ?_
        refine lv_iload_n hx hb dX10_partCasks_109 rfl (lv_at hl 3 rfl) ?_
        have v_10 := h.1
        have h := h.2
        refine va_iald hx hb hK hP 30 0 (aM30 Y A S) rfl v_10 dX10_partCasks_110 ?_
        refine lv_imul hx hb dX10_partCasks_111 ?_
        refine lv_bipush (v := (100 : Int32)) hx hb dX10_partCasks_112 (by decide) ?_
        refine lv_idiv hx hb dX10_partCasks_114 (by decide) ?_
        exact tJ115  v4 s0 ((v4 * (ga S 29 v3.toNatClampNeg)) / (100 : Int32)) S h _ _ _ hP hS (lv_sub hl [1, 2, 4, 0] rfl)
      · have h := h.2 c9
        exact tJ99  v4 s0 S h _ _ _ hP hS (lv_sub hl [1, 2, 4, 0] rfl)
  have tL5 : ∀ (v3 : Int32) (v4 : Int32) (S : gS), lp (qX10_partCasks_L5 a1 a2 Q) (v3, v4, S) → ∀ (H : Heap) (locs : List Loc) (ls : Array Slot), va_P D vwCl (wM Y A S) H → va_S (gF A 44 s.heap.size) s.heap H locs → lv_has ls 7 [(0, .ref (A 0)), (1, .int a1), (2, .int a2), (3, .int v3), (4, .int v4)] → W p l e rmX10_partCasks s m args below meth c H locs 0 0 Z (F0 m 5 ls []) := by
    intro  v3 v4 S h
    refine lp_walk (G := fun a => match a with | (v3, v4, S) => ∀ (H : Heap) (locs : List Loc) (ls : Array Slot), va_P D vwCl (wM Y A S) H → va_S (gF A 44 s.heap.size) s.heap H locs → lv_has ls 7 [(0, .ref (A 0)), (1, .int a1), (2, .int a2), (3, .int v3), (4, .int v4)] → W p l e rmX10_partCasks s m args below meth c H locs 0 0 Z (F0 m 5 ls [])) (fun K5 a ih5 h => ?_) (v3, v4, S) h
    obtain ⟨v3, v4, S⟩ := a
    have ih5 : ∀ (v3 : Int32) (v4 : Int32) (S : gS), K5 (v3, v4, S) → ∀ (H : Heap) (locs : List Loc) (ls : Array Slot), va_P D vwCl (wM Y A S) H → va_S (gF A 44 s.heap.size) s.heap H locs → lv_has ls 7 [(0, .ref (A 0)), (1, .int a1), (2, .int a2), (3, .int v3), (4, .int v4)] → W p l e rmX10_partCasks s m args below meth c H locs 0 0 Z (F0 m 5 ls []) := fun v3 v4 S q => ih5 (v3, v4, S) q
    intro H locs ls hP hS hl
    refine lv_iload hx hb dX10_partCasks_5 (lv_at hl 4 rfl) ?_
    refine lv_aload_n hx hb dX10_partCasks_7 rfl (lv_at hl 0 rfl) ?_
    refine va_get (ci := 10) (v := .int (gi S 7)) (C := RX10) (T := TX10) (N := 54) hx hb hts k0 hown hK hP 0 (aM0 Y A S) rfl 35 (by decide) k3 (fun _ h9 => h9) rfl dX10_partCasks_8 ?_
    refine lv_icmp_ge (tgt := 61) hx hb dX10_partCasks_11 (by decide) (fun c11 => ?_) (fun c11 => ?_)
    · have h := h.1 c11
      refine lv_iload_n hx hb dX10_partCasks_61 rfl (lv_at hl 1 rfl) ?_
      refine lv_aload_n hx hb dX10_partCasks_62 rfl (lv_at hl 0 rfl) ?_
      refine va_get (ci := 10) (v := .int (gi S 6)) (C := RX10) (T := TX10) (N := 54) hx hb hts k0 hown hK hP 0 (aM0 Y A S) rfl 34 (by decide) k4 (fun _ h9 => h9) rfl dX10_partCasks_63 ?_
      refine lv_imul hx hb dX10_partCasks_66 ?_
      refine lv_topi (fun x12 ex12 => ?_)
      have h := h x12 ex12
      refine lv_istore (lv' := [(4, .int x12), (0, .ref (A 0)), (1, .int a1), (2, .int a2), (3, .int v3)]) hx hb dX10_partCasks_67 hl (by decide) rfl (fun ls hl => ?_)
      refine lv_iload_n hx hb dX10_partCasks_69 rfl (lv_at hl 4 rfl) ?_
      refine lv_if_ge (tgt := 77) hx hb dX10_partCasks_70 (by decide) (fun c13 => ?_) (fun c13 => ?_)
      · have h := h.1 c13
        refine lv_iload hx hb dX10_partCasks_77 (lv_at hl 0 rfl) ?_
        refine lv_aload_n hx hb dX10_partCasks_79 rfl (lv_at hl 1 rfl) ?_
        refine va_get (ci := 10) (v := .ref (A 29)) (C := RX10) (T := TX10) (N := 54) hx hb hts k0 hown hK hP 0 (aM0 Y A S) rfl 36 (by decide) k5 (fun _ h9 => h9) rfl dX10_partCasks_80 ?_
        refine lv_iload_n hx hb dX10_partCasks_83 rfl (lv_at hl 4 rfl) ?_
        have v_14 := h.1
        have h := h.2
        refine va_iald hx hb hK hP 29 0 (aM29 Y A S) rfl v_14 dX10_partCasks_84 ?_
        refine lv_imul hx hb dX10_partCasks_85 ?_
        refine lv_bipush (v := (100 : Int32)) hx hb dX10_partCasks_86 (by decide) ?_
        refine lv_idiv hx hb dX10_partCasks_88 (by decide) ?_
        exact tJ89  v3 x12 ((x12 * (ga S 28 v3.toNatClampNeg)) / (100 : Int32)) S h _ _ _ hP hS (lv_sub hl [1, 3, 4, 0] rfl)
      · have h := h.2 c13
        refine lv_iconst (v := (0 : Int32)) hx hb dX10_partCasks_73 (by decide) ?_
        refine lv_goto (tgt := 89) hx hb dX10_partCasks_74 (by decide) ?_
        exact tJ89  v3 x12 (0 : Int32) S h _ _ _ hP hS (lv_sub hl [1, 3, 4, 0] rfl)
    · have h := h.2 c11
      refine lv_aload_n hx hb dX10_partCasks_14 rfl (lv_at hl 0 rfl) ?_
      refine va_get (ci := 10) (v := .ref (A 31)) (C := RX10) (T := TX10) (N := 54) hx hb hts k0 hown hK hP 0 (aM0 Y A S) rfl 38 (by decide) k6 (fun _ h9 => h9) rfl dX10_partCasks_15 ?_
      refine lv_iload hx hb dX10_partCasks_18 (lv_at hl 4 rfl) ?_
      have v_15 := h.1
      have h := h.2
      refine va_iald hx hb hK hP 31 0 (aM31 Y A S) rfl v_15 dX10_partCasks_20 ?_
      refine lv_aload_n hx hb dX10_partCasks_21 rfl (lv_at hl 0 rfl) ?_
      refine va_get (ci := 10) (v := .int (gi S 1)) (C := RX10) (T := TX10) (N := 54) hx hb hts k0 hown hK hP 0 (aM0 Y A S) rfl 1 (by decide) k7 (fun _ h9 => h9) rfl dX10_partCasks_22 ?_
      refine lv_icmp_gt (tgt := 53) hx hb dX10_partCasks_25 (by decide) (fun c16 => ?_) (fun c16 => ?_)
      · have h := h.1 c16
        refine lv_iload_n hx hb dX10_partCasks_53 rfl (lv_at hl 3 rfl) ?_
        refine lv_istore_n (lv' := [(3, .int v3), (0, .ref (A 0)), (1, .int a1), (2, .int a2), (4, .int v4)]) hx hb dX10_partCasks_54 rfl hl (by decide) rfl (fun ls hl => ?_)
        obtain ⟨x17, ex17⟩ : ∃ z : Int32, z = v4 + (1 : Int32) := ⟨_, rfl⟩
        have h := h x17 ex17
        refine lv_iinc (v := x17) (lv' := [(4, .int x17), (3, .int v3), (0, .ref (A 0)), (1, .int a1), (2, .int a2)]) hx hb dX10_partCasks_55 hl (k := 4) rfl (by rw [ex17]; rfl) (by decide) rfl (fun ls hl => ?_)
        refine lv_goto (tgt := 5) hx hb dX10_partCasks_58 (by decide) ?_
        exact ih5 v3 x17 S h _ _ _ hP hS (lv_sub hl [2, 3, 4, 1, 0] rfl)
      · have h := h.2 c16
        refine lv_iload_n hx hb dX10_partCasks_28 rfl (lv_at hl 3 rfl) ?_
        refine lv_if_lt (tgt := 48) hx hb dX10_partCasks_29 (by decide) (fun c18 => ?_) (fun c18 => ?_)
        · have h := h.1 c18
          refine lv_iload hx hb dX10_partCasks_48 (lv_at hl 4 rfl) ?_
          refine lv_goto (tgt := 54) hx hb dX10_partCasks_50 (by decide) ?_
          refine lv_istore_n (lv' := [(3, .int v4), (0, .ref (A 0)), (1, .int a1), (2, .int a2), (4, .int v4)]) hx hb dX10_partCasks_54 rfl hl (by decide) rfl (fun ls hl => ?_)
          obtain ⟨x19, ex19⟩ : ∃ z : Int32, z = v4 + (1 : Int32) := ⟨_, rfl⟩
          have h := h x19 ex19
          refine lv_iinc (v := x19) (lv' := [(4, .int x19), (3, .int v4), (0, .ref (A 0)), (1, .int a1), (2, .int a2)]) hx hb dX10_partCasks_55 hl (k := 4) rfl (by rw [ex19]; rfl) (by decide) rfl (fun ls hl => ?_)
          refine lv_goto (tgt := 5) hx hb dX10_partCasks_58 (by decide) ?_
          exact ih5 v4 x19 S h _ _ _ hP hS (lv_sub hl [2, 3, 4, 1, 0] rfl)
        · have h := h.2 c18
          refine lv_aload_n hx hb dX10_partCasks_32 rfl (lv_at hl 0 rfl) ?_
          refine va_get (ci := 10) (v := .ref (A 31)) (C := RX10) (T := TX10) (N := 54) hx hb hts k0 hown hK hP 0 (aM0 Y A S) rfl 38 (by decide) k6 (fun _ h9 => h9) rfl dX10_partCasks_33 ?_
          refine lv_iload hx hb dX10_partCasks_36 (lv_at hl 4 rfl) ?_
          refine va_iald hx hb hK hP 31 0 (aM31 Y A S) rfl v_15 dX10_partCasks_38 ?_
          refine lv_aload_n hx hb dX10_partCasks_39 rfl (lv_at hl 0 rfl) ?_
          refine va_get (ci := 10) (v := .ref (A 31)) (C := RX10) (T := TX10) (N := 54) hx hb hts k0 hown hK hP 0 (aM0 Y A S) rfl 38 (by decide) k6 (fun _ h9 => h9) rfl dX10_partCasks_40 ?_
          refine lv_iload_n hx hb dX10_partCasks_43 rfl (lv_at hl 3 rfl) ?_
          have v_20 := h.1
          have h := h.2
          refine va_iald hx hb hK hP 31 0 (aM31 Y A S) rfl v_20 dX10_partCasks_44 ?_
          refine lv_icmp_lt (tgt := 53) hx hb dX10_partCasks_45 (by decide) (fun c21 => ?_) (fun c21 => ?_)
          · have h := h.1 c21
            refine lv_iload_n hx hb dX10_partCasks_53 rfl (lv_at hl 3 rfl) ?_
            refine lv_istore_n (lv' := [(3, .int v3), (0, .ref (A 0)), (1, .int a1), (2, .int a2), (4, .int v4)]) hx hb dX10_partCasks_54 rfl hl (by decide) rfl (fun ls hl => ?_)
            obtain ⟨x22, ex22⟩ : ∃ z : Int32, z = v4 + (1 : Int32) := ⟨_, rfl⟩
            have h := h x22 ex22
            refine lv_iinc (v := x22) (lv' := [(4, .int x22), (3, .int v3), (0, .ref (A 0)), (1, .int a1), (2, .int a2)]) hx hb dX10_partCasks_55 hl (k := 4) rfl (by rw [ex22]; rfl) (by decide) rfl (fun ls hl => ?_)
            refine lv_goto (tgt := 5) hx hb dX10_partCasks_58 (by decide) ?_
            exact ih5 v3 x22 S h _ _ _ hP hS (lv_sub hl [2, 3, 4, 1, 0] rfl)
          · have h := h.2 c21
            refine lv_iload hx hb dX10_partCasks_48 (lv_at hl 4 rfl) ?_
            refine lv_goto (tgt := 54) hx hb dX10_partCasks_50 (by decide) ?_
            refine lv_istore_n (lv' := [(3, .int v4), (0, .ref (A 0)), (1, .int a1), (2, .int a2), (4, .int v4)]) hx hb dX10_partCasks_54 rfl hl (by decide) rfl (fun ls hl => ?_)
            obtain ⟨x23, ex23⟩ : ∃ z : Int32, z = v4 + (1 : Int32) := ⟨_, rfl⟩
            have h := h x23 ex23
            refine lv_iinc (v := x23) (lv' := [(4, .int x23), (3, .int v4), (0, .ref (A 0)), (1, .int a1), (2, .int a2)]) hx hb dX10_partCasks_55 hl (k := 4) rfl (by rw [ex23]; rfl) (by decide) rfl (fun ls hl => ?_)
            refine lv_goto (tgt := 5) hx hb dX10_partCasks_58 (by decide) ?_
            exact ih5 v4 x23 S h _ _ _ hP hS (lv_sub hl [2, 3, 4, 1, 0] rfl)
  refine lv_iconst (v := (-1 : Int32)) hx hb dX10_partCasks_0 (by decide) ?_
  refine lv_istore_n (lv' := [(3, .int (-1 : Int32)), (0, .ref (A 0)), (1, .int a1), (2, .int a2)]) hx hb dX10_partCasks_1 rfl hl (by decide) rfl (fun ls hl => ?_)
  refine lv_iconst (v := (0 : Int32)) hx hb dX10_partCasks_2 (by decide) ?_
  refine lv_istore (lv' := [(4, .int (0 : Int32)), (3, .int (-1 : Int32)), (0, .ref (A 0)), (1, .int a1), (2, .int a2)]) hx hb dX10_partCasks_3 hl (by decide) rfl (fun ls hl => ?_)
  exact tL5  (-1 : Int32) (0 : Int32) S h _ _ _ hP hS (lv_sub hl [2, 3, 4, 1, 0] rfl)

def qX10_teller_L2 (a1 : Int32) (Q : Int32 → gS → Prop) (K2 : Int32 × gS → Prop) : Int32 × gS → Prop := fun ⟨v2, S⟩ =>
  ((gi S 8) ≤ v2 → (Q (-1 : Int32) S)) ∧ (¬ (gi S 8) ≤ v2 → (vp_in v2 60 ∧ (((ga S 32 v2.toNatClampNeg) = (gi S 1) → (((ga S 33 v2.toNatClampNeg) = a1 → (Q (ga S 31 v2.toNatClampNeg) S)) ∧ (¬ (ga S 33 v2.toNatClampNeg) = a1 → (∀ x6 : Int32, x6 = v2 + (1 : Int32) → (K2 (x6, S)))))) ∧ (¬ (ga S 32 v2.toNatClampNeg) = (gi S 1) → (∀ x4 : Int32, x4 = v2 + (1 : Int32) → (K2 (x4, S)))))))
def qX10_teller (S : gS) (a1 : Int32) (Q : Int32 → gS → Prop) : Prop :=
  lp (qX10_teller_L2 a1 Q) ((0 : Int32), S)
abbrev rmX10_teller : Room := { frames := 0, cells := 0, slots := 0, locals := 0 }
set_option maxHeartbeats 4000000 in
set_option maxRecDepth 100000 in
theorem kX10_teller (l : Launch) (D : va_G) (Y : Nat → ClassId) (A : Nat → Nat) (hI : iM A) (sz : Nat) (S : gS) (a1 : Int32) (Q : Int32 → gS → Prop) (h : qX10_teller S a1 Q) : Met l yX10_teller wsX10_teller rmX10_teller (gPc [.ref (A 0), .int a1] sz D vwCl (tY Y) (wM Y A S)) (va_Qi Q (fun S' t => gH D vwCl (tY Y) (wM Y A S') t) (gF A 44 sz)) 0 0 (gF A 44 sz) := by
  refine gMet_i (cc := cX10_teller) (maxL := 3) (by decide +kernel) rfl (Nat.le_of_ble_eq_true rfl) (fun p e s m args below meth c Z H locs hx hb hml hts hown hK hP hS hret ls hl => ?_)
  have hown : s.vm.findClass RX10 = some m.cls := hown
  have hl : lv_has ls 3 [(0, .ref (A 0)), (1, .int a1)] := hl
  have hD : ∀ S0 : gS, va_D (gF A 44 s.heap.size) (wM Y A S0) := fun S0 => dM hI S0 (fun k hk => gF_in hk)
  have k0 : ∀ w ∈ u_ws RX10 TX10 54, w ∈ wsX10_teller := by decide +kernel
  have k1 := hts (.fieldLink RX10 179 "CoastWatchModel" "words" "I") (by decide +kernel)
  have k2 := hts (.fieldLink RX10 111 "CoastWatchModel" "wordNight" "[I") (by decide +kernel)
  have k3 := hts (.fieldLink RX10 173 "CoastWatchModel" "night" "I") (by decide +kernel)
  have k4 := hts (.fieldLink RX10 114 "CoastWatchModel" "wordCove" "[I") (by decide +kernel)
  have k5 := hts (.fieldLink RX10 108 "CoastWatchModel" "wordOf" "[I") (by decide +kernel)
  have tL2 : ∀ (v2 : Int32) (S : gS), lp (qX10_teller_L2 a1 Q) (v2, S) → ∀ (H : Heap) (locs : List Loc) (ls : Array Slot), va_P D vwCl (wM Y A S) H → va_S (gF A 44 s.heap.size) s.heap H locs → lv_has ls 3 [(0, .ref (A 0)), (1, .int a1), (2, .int v2)] → W p l e rmX10_teller s m args below meth c H locs 0 0 Z (F0 m 2 ls []) := by
    intro  v2 S h
    refine lp_walk (G := fun a => match a with | (v2, S) => ∀ (H : Heap) (locs : List Loc) (ls : Array Slot), va_P D vwCl (wM Y A S) H → va_S (gF A 44 s.heap.size) s.heap H locs → lv_has ls 3 [(0, .ref (A 0)), (1, .int a1), (2, .int v2)] → W p l e rmX10_teller s m args below meth c H locs 0 0 Z (F0 m 2 ls [])) (fun K2 a ih2 h => ?_) (v2, S) h
    obtain ⟨v2, S⟩ := a
    have ih2 : ∀ (v2 : Int32) (S : gS), K2 (v2, S) → ∀ (H : Heap) (locs : List Loc) (ls : Array Slot), va_P D vwCl (wM Y A S) H → va_S (gF A 44 s.heap.size) s.heap H locs → lv_has ls 3 [(0, .ref (A 0)), (1, .int a1), (2, .int v2)] → W p l e rmX10_teller s m args below meth c H locs 0 0 Z (F0 m 2 ls []) := fun v2 S q => ih2 (v2, S) q
    intro H locs ls hP hS hl
    refine lv_iload_n hx hb dX10_teller_2 rfl (lv_at hl 2 rfl) ?_
    refine lv_aload_n hx hb dX10_teller_3 rfl (lv_at hl 0 rfl) ?_
    refine va_get (ci := 10) (v := .int (gi S 8)) (C := RX10) (T := TX10) (N := 54) hx hb hts k0 hown hK hP 0 (aM0 Y A S) rfl 39 (by decide) k1 (fun _ h9 => h9) rfl dX10_teller_4 ?_
    refine lv_icmp_ge (tgt := 46) hx hb dX10_teller_7 (by decide) (fun c1 => ?_) (fun c1 => ?_)
    · have h := h.1 c1
      refine lv_iconst (v := (-1 : Int32)) hx hb dX10_teller_46 (by decide) ?_
      exact hret _ _ _ _ _ _ dX10_teller_47 h hP hS
    · have h := h.2 c1
      refine lv_aload_n hx hb dX10_teller_10 rfl (lv_at hl 0 rfl) ?_
      refine va_get (ci := 10) (v := .ref (A 33)) (C := RX10) (T := TX10) (N := 54) hx hb hts k0 hown hK hP 0 (aM0 Y A S) rfl 41 (by decide) k2 (fun _ h9 => h9) rfl dX10_teller_11 ?_
      refine lv_iload_n hx hb dX10_teller_14 rfl (lv_at hl 2 rfl) ?_
      have v_2 := h.1
      have h := h.2
      refine va_iald hx hb hK hP 33 0 (aM33 Y A S) rfl v_2 dX10_teller_15 ?_
      refine lv_aload_n hx hb dX10_teller_16 rfl (lv_at hl 0 rfl) ?_
      refine va_get (ci := 10) (v := .int (gi S 1)) (C := RX10) (T := TX10) (N := 54) hx hb hts k0 hown hK hP 0 (aM0 Y A S) rfl 1 (by decide) k3 (fun _ h9 => h9) rfl dX10_teller_17 ?_
      refine lv_icmp_ne (tgt := 40) hx hb dX10_teller_20 (by decide) (fun c3 => ?_) (fun c3 => ?_)
      · have h := h.2 c3
        obtain ⟨x4, ex4⟩ : ∃ z : Int32, z = v2 + (1 : Int32) := ⟨_, rfl⟩
        have h := h x4 ex4
        refine lv_iinc (v := x4) (lv' := [(2, .int x4), (0, .ref (A 0)), (1, .int a1)]) hx hb dX10_teller_40 hl (k := 2) rfl (by rw [ex4]; rfl) (by decide) rfl (fun ls hl => ?_)
        refine lv_goto (tgt := 2) hx hb dX10_teller_43 (by decide) ?_
        exact ih2 x4 S h _ _ _ hP hS (lv_sub hl [1, 2, 0] rfl)
      · have h := h.1 c3
        refine lv_aload_n hx hb dX10_teller_23 rfl (lv_at hl 0 rfl) ?_
        refine va_get (ci := 10) (v := .ref (A 34)) (C := RX10) (T := TX10) (N := 54) hx hb hts k0 hown hK hP 0 (aM0 Y A S) rfl 42 (by decide) k4 (fun _ h9 => h9) rfl dX10_teller_24 ?_
        refine lv_iload_n hx hb dX10_teller_27 rfl (lv_at hl 2 rfl) ?_
        refine va_iald hx hb hK hP 34 0 (aM34 Y A S) rfl v_2 dX10_teller_28 ?_
        refine lv_iload_n hx hb dX10_teller_29 rfl (lv_at hl 1 rfl) ?_
        refine lv_icmp_ne (tgt := 40) hx hb dX10_teller_30 (by decide) (fun c5 => ?_) (fun c5 => ?_)
        · have h := h.2 c5
          obtain ⟨x6, ex6⟩ : ∃ z : Int32, z = v2 + (1 : Int32) := ⟨_, rfl⟩
          have h := h x6 ex6
          refine lv_iinc (v := x6) (lv' := [(2, .int x6), (0, .ref (A 0)), (1, .int a1)]) hx hb dX10_teller_40 hl (k := 2) rfl (by rw [ex6]; rfl) (by decide) rfl (fun ls hl => ?_)
          refine lv_goto (tgt := 2) hx hb dX10_teller_43 (by decide) ?_
          exact ih2 x6 S h _ _ _ hP hS (lv_sub hl [1, 2, 0] rfl)
        · have h := h.1 c5
          refine lv_aload_n hx hb dX10_teller_33 rfl (lv_at hl 0 rfl) ?_
          refine va_get (ci := 10) (v := .ref (A 32)) (C := RX10) (T := TX10) (N := 54) hx hb hts k0 hown hK hP 0 (aM0 Y A S) rfl 40 (by decide) k5 (fun _ h9 => h9) rfl dX10_teller_34 ?_
          refine lv_iload_n hx hb dX10_teller_37 rfl (lv_at hl 2 rfl) ?_
          refine va_iald hx hb hK hP 32 0 (aM32 Y A S) rfl v_2 dX10_teller_38 ?_
          exact hret _ _ _ _ _ _ dX10_teller_39 h hP hS
  refine lv_iconst (v := (0 : Int32)) hx hb dX10_teller_0 (by decide) ?_
  refine lv_istore_n (lv' := [(2, .int (0 : Int32)), (0, .ref (A 0)), (1, .int a1)]) hx hb dX10_teller_1 rfl hl (by decide) rfl (fun ls hl => ?_)
  exact tL2  (0 : Int32) S h _ _ _ hP hS (lv_sub hl [1, 2, 0] rfl)

def qX10_liesIn_L4 (a1 : Int32) (Q : Int32 → gS → Prop) (K4 : Int32 × Int32 × gS → Prop) : Int32 × Int32 × gS → Prop := fun ⟨v2, v3, S⟩ =>
  ((gi S 4) ≤ v3 → (Q v2 S)) ∧ (¬ (gi S 4) ≤ v3 → (vp_in v3 100 ∧ (((ga S 21 v3.toNatClampNeg) = 0 → (((ga S 22 v3.toNatClampNeg) = a1 → (∀ x9 : Int32, x9 = (v2 + (ga S 18 v3.toNatClampNeg)) → (∀ x10 : Int32, x10 = v3 + (1 : Int32) → (K4 (x9, x10, S))))) ∧ (¬ (ga S 22 v3.toNatClampNeg) = a1 → (∀ x7 : Int32, x7 = (v2 + (0 : Int32)) → (∀ x8 : Int32, x8 = v3 + (1 : Int32) → (K4 (x7, x8, S))))))) ∧ (¬ (ga S 21 v3.toNatClampNeg) = 0 → (∀ x4 : Int32, x4 = (v2 + (0 : Int32)) → (∀ x5 : Int32, x5 = v3 + (1 : Int32) → (K4 (x4, x5, S))))))))
def qX10_liesIn (S : gS) (a1 : Int32) (Q : Int32 → gS → Prop) : Prop :=
  lp (qX10_liesIn_L4 a1 Q) ((0 : Int32), (0 : Int32), S)
abbrev rmX10_liesIn : Room := { frames := 0, cells := 0, slots := 0, locals := 0 }
set_option maxHeartbeats 4000000 in
set_option maxRecDepth 100000 in
theorem kX10_liesIn (l : Launch) (D : va_G) (Y : Nat → ClassId) (A : Nat → Nat) (hI : iM A) (sz : Nat) (S : gS) (a1 : Int32) (Q : Int32 → gS → Prop) (h : qX10_liesIn S a1 Q) : Met l yX10_liesIn wsX10_liesIn rmX10_liesIn (gPc [.ref (A 0), .int a1] sz D vwCl (tY Y) (wM Y A S)) (va_Qi Q (fun S' t => gH D vwCl (tY Y) (wM Y A S') t) (gF A 44 sz)) 0 0 (gF A 44 sz) := by
  refine gMet_i (cc := cX10_liesIn) (maxL := 4) (by decide +kernel) rfl (Nat.le_of_ble_eq_true rfl) (fun p e s m args below meth c Z H locs hx hb hml hts hown hK hP hS hret ls hl => ?_)
  have hown : s.vm.findClass RX10 = some m.cls := hown
  have hl : lv_has ls 4 [(0, .ref (A 0)), (1, .int a1)] := hl
  have hD : ∀ S0 : gS, va_D (gF A 44 s.heap.size) (wM Y A S0) := fun S0 => dM hI S0 (fun k hk => gF_in hk)
  have k0 : ∀ w ∈ u_ws RX10 TX10 54, w ∈ wsX10_liesIn := by decide +kernel
  have k1 := hts (.fieldLink RX10 189 "CoastWatchModel" "lots" "I") (by decide +kernel)
  have k2 := hts (.fieldLink RX10 77 "CoastWatchModel" "lotLies" "[I") (by decide +kernel)
  have k3 := hts (.fieldLink RX10 80 "CoastWatchModel" "lotHide" "[I") (by decide +kernel)
  have k4 := hts (.fieldLink RX10 68 "CoastWatchModel" "lotCasks" "[I") (by decide +kernel)
  have tL4 : ∀ (v2 : Int32) (v3 : Int32) (S : gS), lp (qX10_liesIn_L4 a1 Q) (v2, v3, S) → ∀ (H : Heap) (locs : List Loc) (ls : Array Slot), va_P D vwCl (wM Y A S) H → va_S (gF A 44 s.heap.size) s.heap H locs → lv_has ls 4 [(0, .ref (A 0)), (1, .int a1), (2, .int v2), (3, .int v3)] → W p l e rmX10_liesIn s m args below meth c H locs 0 0 Z (F0 m 4 ls []) := by
    intro  v2 v3 S h
    refine lp_walk (G := fun a => match a with | (v2, v3, S) => ∀ (H : Heap) (locs : List Loc) (ls : Array Slot), va_P D vwCl (wM Y A S) H → va_S (gF A 44 s.heap.size) s.heap H locs → lv_has ls 4 [(0, .ref (A 0)), (1, .int a1), (2, .int v2), (3, .int v3)] → W p l e rmX10_liesIn s m args below meth c H locs 0 0 Z (F0 m 4 ls [])) (fun K4 a ih4 h => ?_) (v2, v3, S) h
    obtain ⟨v2, v3, S⟩ := a
    have ih4 : ∀ (v2 : Int32) (v3 : Int32) (S : gS), K4 (v2, v3, S) → ∀ (H : Heap) (locs : List Loc) (ls : Array Slot), va_P D vwCl (wM Y A S) H → va_S (gF A 44 s.heap.size) s.heap H locs → lv_has ls 4 [(0, .ref (A 0)), (1, .int a1), (2, .int v2), (3, .int v3)] → W p l e rmX10_liesIn s m args below meth c H locs 0 0 Z (F0 m 4 ls []) := fun v2 v3 S q => ih4 (v2, v3, S) q
    intro H locs ls hP hS hl
    refine lv_iload_n hx hb dX10_liesIn_4 rfl (lv_at hl 3 rfl) ?_
    refine lv_aload_n hx hb dX10_liesIn_5 rfl (lv_at hl 0 rfl) ?_
    refine va_get (ci := 10) (v := .int (gi S 4)) (C := RX10) (T := TX10) (N := 54) hx hb hts k0 hown hK hP 0 (aM0 Y A S) rfl 21 (by decide) k1 (fun _ h9 => h9) rfl dX10_liesIn_6 ?_
    refine lv_icmp_ge (tgt := 50) hx hb dX10_liesIn_9 (by decide) (fun c1 => ?_) (fun c1 => ?_)
    · have h := h.1 c1
      refine lv_iload_n hx hb dX10_liesIn_50 rfl (lv_at hl 2 rfl) ?_
      exact hret _ _ _ _ _ _ dX10_liesIn_51 h hP hS
    · have h := h.2 c1
      refine lv_iload_n hx hb dX10_liesIn_12 rfl (lv_at hl 2 rfl) ?_
      refine lv_aload_n hx hb dX10_liesIn_13 rfl (lv_at hl 0 rfl) ?_
      refine va_get (ci := 10) (v := .ref (A 22)) (C := RX10) (T := TX10) (N := 54) hx hb hts k0 hown hK hP 0 (aM0 Y A S) rfl 26 (by decide) k2 (fun _ h9 => h9) rfl dX10_liesIn_14 ?_
      refine lv_iload_n hx hb dX10_liesIn_17 rfl (lv_at hl 3 rfl) ?_
      have v_2 := h.1
      have h := h.2
      refine va_iald hx hb hK hP 22 0 (aM22 Y A S) rfl v_2 dX10_liesIn_18 ?_
      refine lv_if_ne (tgt := 41) hx hb dX10_liesIn_19 (by decide) (fun c3 => ?_) (fun c3 => ?_)
      · have h := h.2 c3
        refine lv_iconst (v := (0 : Int32)) hx hb dX10_liesIn_41 (by decide) ?_
        refine lv_iadd hx hb dX10_liesIn_42 ?_
        refine lv_topi (fun x4 ex4 => ?_)
        have h := h x4 ex4
        refine lv_istore_n (lv' := [(2, .int x4), (0, .ref (A 0)), (1, .int a1), (3, .int v3)]) hx hb dX10_liesIn_43 rfl hl (by decide) rfl (fun ls hl => ?_)
        obtain ⟨x5, ex5⟩ : ∃ z : Int32, z = v3 + (1 : Int32) := ⟨_, rfl⟩
        have h := h x5 ex5
        refine lv_iinc (v := x5) (lv' := [(3, .int x5), (2, .int x4), (0, .ref (A 0)), (1, .int a1)]) hx hb dX10_liesIn_44 hl (k := 3) rfl (by rw [ex5]; rfl) (by decide) rfl (fun ls hl => ?_)
        refine lv_goto (tgt := 4) hx hb dX10_liesIn_47 (by decide) ?_
        exact ih4 x4 x5 S h _ _ _ hP hS (lv_sub hl [2, 3, 1, 0] rfl)
      · have h := h.1 c3
        refine lv_aload_n hx hb dX10_liesIn_22 rfl (lv_at hl 0 rfl) ?_
        refine va_get (ci := 10) (v := .ref (A 23)) (C := RX10) (T := TX10) (N := 54) hx hb hts k0 hown hK hP 0 (aM0 Y A S) rfl 27 (by decide) k3 (fun _ h9 => h9) rfl dX10_liesIn_23 ?_
        refine lv_iload_n hx hb dX10_liesIn_26 rfl (lv_at hl 3 rfl) ?_
        refine va_iald hx hb hK hP 23 0 (aM23 Y A S) rfl v_2 dX10_liesIn_27 ?_
        refine lv_iload_n hx hb dX10_liesIn_28 rfl (lv_at hl 1 rfl) ?_
        refine lv_icmp_ne (tgt := 41) hx hb dX10_liesIn_29 (by decide) (fun c6 => ?_) (fun c6 => ?_)
        · have h := h.2 c6
          refine lv_iconst (v := (0 : Int32)) hx hb dX10_liesIn_41 (by decide) ?_
          refine lv_iadd hx hb dX10_liesIn_42 ?_
          refine lv_topi (fun x7 ex7 => ?_)
          have h := h x7 ex7
          refine lv_istore_n (lv' := [(2, .int x7), (0, .ref (A 0)), (1, .int a1), (3, .int v3)]) hx hb dX10_liesIn_43 rfl hl (by decide) rfl (fun ls hl => ?_)
          obtain ⟨x8, ex8⟩ : ∃ z : Int32, z = v3 + (1 : Int32) := ⟨_, rfl⟩
          have h := h x8 ex8
          refine lv_iinc (v := x8) (lv' := [(3, .int x8), (2, .int x7), (0, .ref (A 0)), (1, .int a1)]) hx hb dX10_liesIn_44 hl (k := 3) rfl (by rw [ex8]; rfl) (by decide) rfl (fun ls hl => ?_)
          refine lv_goto (tgt := 4) hx hb dX10_liesIn_47 (by decide) ?_
          exact ih4 x7 x8 S h _ _ _ hP hS (lv_sub hl [2, 3, 1, 0] rfl)
        · have h := h.1 c6
          refine lv_aload_n hx hb dX10_liesIn_32 rfl (lv_at hl 0 rfl) ?_
          refine va_get (ci := 10) (v := .ref (A 19)) (C := RX10) (T := TX10) (N := 54) hx hb hts k0 hown hK hP 0 (aM0 Y A S) rfl 23 (by decide) k4 (fun _ h9 => h9) rfl dX10_liesIn_33 ?_
          refine lv_iload_n hx hb dX10_liesIn_36 rfl (lv_at hl 3 rfl) ?_
          refine va_iald hx hb hK hP 19 0 (aM19 Y A S) rfl v_2 dX10_liesIn_37 ?_
          refine lv_goto (tgt := 42) hx hb dX10_liesIn_38 (by decide) ?_
          refine lv_iadd hx hb dX10_liesIn_42 ?_
          refine lv_topi (fun x9 ex9 => ?_)
          have h := h x9 ex9
          refine lv_istore_n (lv' := [(2, .int x9), (0, .ref (A 0)), (1, .int a1), (3, .int v3)]) hx hb dX10_liesIn_43 rfl hl (by decide) rfl (fun ls hl => ?_)
          obtain ⟨x10, ex10⟩ : ∃ z : Int32, z = v3 + (1 : Int32) := ⟨_, rfl⟩
          have h := h x10 ex10
          refine lv_iinc (v := x10) (lv' := [(3, .int x10), (2, .int x9), (0, .ref (A 0)), (1, .int a1)]) hx hb dX10_liesIn_44 hl (k := 3) rfl (by rw [ex10]; rfl) (by decide) rfl (fun ls hl => ?_)
          refine lv_goto (tgt := 4) hx hb dX10_liesIn_47 (by decide) ?_
          exact ih4 x9 x10 S h _ _ _ hP hS (lv_sub hl [2, 3, 1, 0] rfl)
  refine lv_iconst (v := (0 : Int32)) hx hb dX10_liesIn_0 (by decide) ?_
  refine lv_istore_n (lv' := [(2, .int (0 : Int32)), (0, .ref (A 0)), (1, .int a1)]) hx hb dX10_liesIn_1 rfl hl (by decide) rfl (fun ls hl => ?_)
  refine lv_iconst (v := (0 : Int32)) hx hb dX10_liesIn_2 (by decide) ?_
  refine lv_istore_n (lv' := [(3, .int (0 : Int32)), (2, .int (0 : Int32)), (0, .ref (A 0)), (1, .int a1)]) hx hb dX10_liesIn_3 rfl hl (by decide) rfl (fun ls hl => ?_)
  exact tL4  (0 : Int32) (0 : Int32) S h _ _ _ hP hS (lv_sub hl [2, 3, 1, 0] rfl)

def qX10_hideFor_L2 (a1 : Int32) (a2 : Int32) (Q : Int32 → gS → Prop) (K2 : Int32 × gS → Prop) : Int32 × gS → Prop := fun ⟨v3, S⟩ =>
  ((gi S 3) ≤ v3 → (Q (-1 : Int32) S)) ∧ (¬ (gi S 3) ≤ v3 → (vp_in v3 12 ∧ (((ga S 13 v3.toNatClampNeg) = a1 → (qX10_liesIn S v3 (fun r6 S5 => ((ga S5 14 v3.toNatClampNeg) < (r6 + a2) → (∀ x8 : Int32, x8 = v3 + (1 : Int32) → (K2 (x8, S5)))) ∧ (¬ (ga S5 14 v3.toNatClampNeg) < (r6 + a2) → (Q v3 S5))))) ∧ (¬ (ga S 13 v3.toNatClampNeg) = a1 → (∀ x4 : Int32, x4 = v3 + (1 : Int32) → (K2 (x4, S)))))))
def qX10_hideFor (S : gS) (a1 : Int32) (a2 : Int32) (Q : Int32 → gS → Prop) : Prop :=
  lp (qX10_hideFor_L2 a1 a2 Q) ((0 : Int32), S)
abbrev rmX10_hideFor : Room := { frames := 1, cells := 0, slots := 0, locals := 23 }
set_option maxHeartbeats 4000000 in
set_option maxRecDepth 100000 in
theorem kX10_hideFor (l : Launch) (D : va_G) (Y : Nat → ClassId) (A : Nat → Nat) (hI : iM A) (sz : Nat) (S : gS) (a1 : Int32) (a2 : Int32) (Q : Int32 → gS → Prop) (h : qX10_hideFor S a1 a2 Q) : Met l yX10_hideFor wsX10_hideFor rmX10_hideFor (gPc [.ref (A 0), .int a1, .int a2] sz D vwCl (tY Y) (wM Y A S)) (va_Qi Q (fun S' t => gH D vwCl (tY Y) (wM Y A S') t) (gF A 44 sz)) 0 0 (gF A 44 sz) := by
  refine gMet_i (cc := cX10_hideFor) (maxL := 4) (by decide +kernel) rfl (Nat.le_of_ble_eq_true rfl) (fun p e s m args below meth c Z H locs hx hb hml hts hown hK hP hS hret ls hl => ?_)
  have hown : s.vm.findClass RX10 = some m.cls := hown
  have hl : lv_has ls 4 [(0, .ref (A 0)), (1, .int a1), (2, .int a2)] := hl
  have hD : ∀ S0 : gS, va_D (gF A 44 s.heap.size) (wM Y A S0) := fun S0 => dM hI S0 (fun k hk => gF_in hk)
  have k0 : ∀ w ∈ u_ws RX10 TX10 54, w ∈ wsX10_hideFor := by decide +kernel
  have k1 := hts (.fieldLink RX10 164 "CoastWatchModel" "hides" "I") (by decide +kernel)
  have k2 := hts (.fieldLink RX10 53 "CoastWatchModel" "hideCove" "[I") (by decide +kernel)
  have k3 := hts (.fieldLink RX10 56 "CoastWatchModel" "hideRoom" "[I") (by decide +kernel)
  have tL2 : ∀ (v3 : Int32) (S : gS), lp (qX10_hideFor_L2 a1 a2 Q) (v3, S) → ∀ (H : Heap) (locs : List Loc) (ls : Array Slot), va_P D vwCl (wM Y A S) H → va_S (gF A 44 s.heap.size) s.heap H locs → lv_has ls 4 [(0, .ref (A 0)), (1, .int a1), (2, .int a2), (3, .int v3)] → W p l e rmX10_hideFor s m args below meth c H locs 0 0 Z (F0 m 2 ls []) := by
    intro  v3 S h
    refine lp_walk (G := fun a => match a with | (v3, S) => ∀ (H : Heap) (locs : List Loc) (ls : Array Slot), va_P D vwCl (wM Y A S) H → va_S (gF A 44 s.heap.size) s.heap H locs → lv_has ls 4 [(0, .ref (A 0)), (1, .int a1), (2, .int a2), (3, .int v3)] → W p l e rmX10_hideFor s m args below meth c H locs 0 0 Z (F0 m 2 ls [])) (fun K2 a ih2 h => ?_) (v3, S) h
    obtain ⟨v3, S⟩ := a
    have ih2 : ∀ (v3 : Int32) (S : gS), K2 (v3, S) → ∀ (H : Heap) (locs : List Loc) (ls : Array Slot), va_P D vwCl (wM Y A S) H → va_S (gF A 44 s.heap.size) s.heap H locs → lv_has ls 4 [(0, .ref (A 0)), (1, .int a1), (2, .int a2), (3, .int v3)] → W p l e rmX10_hideFor s m args below meth c H locs 0 0 Z (F0 m 2 ls []) := fun v3 S q => ih2 (v3, S) q
    intro H locs ls hP hS hl
    refine lv_iload_n hx hb dX10_hideFor_2 rfl (lv_at hl 3 rfl) ?_
    refine lv_aload_n hx hb dX10_hideFor_3 rfl (lv_at hl 0 rfl) ?_
    refine va_get (ci := 10) (v := .int (gi S 3)) (C := RX10) (T := TX10) (N := 54) hx hb hts k0 hown hK hP 0 (aM0 Y A S) rfl 16 (by decide) k1 (fun _ h9 => h9) rfl dX10_hideFor_4 ?_
    refine lv_icmp_ge (tgt := 44) hx hb dX10_hideFor_7 (by decide) (fun c1 => ?_) (fun c1 => ?_)
    · have h := h.1 c1
      refine lv_iconst (v := (-1 : Int32)) hx hb dX10_hideFor_44 (by decide) ?_
      exact hret _ _ _ _ _ _ dX10_hideFor_45 h hP hS
    · have h := h.2 c1
      refine lv_aload_n hx hb dX10_hideFor_10 rfl (lv_at hl 0 rfl) ?_
      refine va_get (ci := 10) (v := .ref (A 14)) (C := RX10) (T := TX10) (N := 54) hx hb hts k0 hown hK hP 0 (aM0 Y A S) rfl 17 (by decide) k2 (fun _ h9 => h9) rfl dX10_hideFor_11 ?_
      refine lv_iload_n hx hb dX10_hideFor_14 rfl (lv_at hl 3 rfl) ?_
      have v_2 := h.1
      have h := h.2
      refine va_iald hx hb hK hP 14 0 (aM14 Y A S) rfl v_2 dX10_hideFor_15 ?_
      refine lv_iload_n hx hb dX10_hideFor_16 rfl (lv_at hl 1 rfl) ?_
      refine lv_icmp_ne (tgt := 38) hx hb dX10_hideFor_17 (by decide) (fun c3 => ?_) (fun c3 => ?_)
      · have h := h.2 c3
        obtain ⟨x4, ex4⟩ : ∃ z : Int32, z = v3 + (1 : Int32) := ⟨_, rfl⟩
        have h := h x4 ex4
        refine lv_iinc (v := x4) (lv' := [(3, .int x4), (0, .ref (A 0)), (1, .int a1), (2, .int a2)]) hx hb dX10_hideFor_38 hl (k := 3) rfl (by rw [ex4]; rfl) (by decide) rfl (fun ls hl => ?_)
        refine lv_goto (tgt := 2) hx hb dX10_hideFor_41 (by decide) ?_
        exact ih2 x4 S h _ _ _ hP hS (lv_sub hl [1, 2, 3, 0] rfl)
      · have h := h.1 c3
        refine lv_aload_n hx hb dX10_hideFor_20 rfl (lv_at hl 0 rfl) ?_
        refine lv_iload_n hx hb dX10_hideFor_21 rfl (lv_at hl 3 rfl) ?_
        refine gVi (As := [.int v3]) (rest := []) ⟨hx, hb, hml, hown, hts⟩ (kX10_liesIn l D Y A hI H.size S v3 _ h) (cwV 1 hts gX10_hideFor_X10_liesIn rfl rfl rfl (by decide +kernel) ⟨Nat.le_of_ble_eq_true rfl, Nat.le_of_ble_eq_true rfl⟩) hK hP hS (gF_le hS.1) (aM0 Y A S) (show vwCl[10]? = some (RX10, TX10, 54) from rfl) rfl rfl hl.1 (Nat.le_of_ble_eq_true rfl) dX10_hideFor_22 ⟨Nat.zero_le _, Nat.zero_le _⟩ ?_
        intro r6 S5 H locs h hP hS
        refine lv_iload_n hx hb dX10_hideFor_25 rfl (lv_at hl 2 rfl) ?_
        refine lv_iadd hx hb dX10_hideFor_26 ?_
        refine lv_aload_n hx hb dX10_hideFor_27 rfl (lv_at hl 0 rfl) ?_
        refine va_get (ci := 10) (v := .ref (A 15)) (C := RX10) (T := TX10) (N := 54) hx hb hts k0 hown hK hP 0 (aM0 Y A S5) rfl 18 (by decide) k3 (fun _ h9 => h9) rfl dX10_hideFor_28 ?_
        refine lv_iload_n hx hb dX10_hideFor_31 rfl (lv_at hl 3 rfl) ?_
        refine va_iald hx hb hK hP 15 0 (aM15 Y A S5) rfl v_2 dX10_hideFor_32 ?_
        refine lv_icmp_gt (tgt := 38) hx hb dX10_hideFor_33 (by decide) (fun c7 => ?_) (fun c7 => ?_)
        · have h := h.1 c7
          obtain ⟨x8, ex8⟩ : ∃ z : Int32, z = v3 + (1 : Int32) := ⟨_, rfl⟩
          have h := h x8 ex8
          refine lv_iinc (v := x8) (lv' := [(3, .int x8), (0, .ref (A 0)), (1, .int a1), (2, .int a2)]) hx hb dX10_hideFor_38 hl (k := 3) rfl (by rw [ex8]; rfl) (by decide) rfl (fun ls hl => ?_)
          refine lv_goto (tgt := 2) hx hb dX10_hideFor_41 (by decide) ?_
          exact ih2 x8 S5 h _ _ _ hP hS (lv_sub hl [1, 2, 3, 0] rfl)
        · have h := h.2 c7
          refine lv_iload_n hx hb dX10_hideFor_36 rfl (lv_at hl 3 rfl) ?_
          exact hret _ _ _ _ _ _ dX10_hideFor_37 h hP hS
  refine lv_iconst (v := (0 : Int32)) hx hb dX10_hideFor_0 (by decide) ?_
  refine lv_istore_n (lv' := [(3, .int (0 : Int32)), (0, .ref (A 0)), (1, .int a1), (2, .int a2)]) hx hb dX10_hideFor_1 rfl hl (by decide) rfl (fun ls hl => ?_)
  exact tL2  (0 : Int32) S h _ _ _ hP hS (lv_sub hl [1, 2, 3, 0] rfl)

def qX10_lot (S : gS) (a1 : Int32) (a2 : Int32) (a3 : Int32) (a4 : Int32) (Q : gS → Prop) : Prop :=
  vp_in (gi S 4) 100 ∧ (∀ S1 : gS, S1 = sA S 17 (upd (ga S 17) (gi S 4).toNatClampNeg a1) → (vp_in a1 8 ∧ (vp_in (gi S1 4) 100 ∧ (∀ S4 : gS, S4 = sA S1 18 (upd (ga S1 18) (gi S1 4).toNatClampNeg (ga S1 9 a1.toNatClampNeg)) → (vp_in (gi S4 4) 100 ∧ (∀ S6 : gS, S6 = sA S4 19 (upd (ga S4 19) (gi S4 4).toNatClampNeg (gi S4 1)) → (vp_in (gi S6 4) 100 ∧ (∀ S8 : gS, S8 = sA S6 20 (upd (ga S6 20) (gi S6 4).toNatClampNeg a2) → (vp_in (gi S8 4) 100 ∧ (∀ S10 : gS, S10 = sA S8 21 (upd (ga S8 21) (gi S8 4).toNatClampNeg a3) → (vp_in (gi S10 4) 100 ∧ (∀ S12 : gS, S12 = sA S10 22 (upd (ga S10 22) (gi S10 4).toNatClampNeg a4) → (∀ S14 : gS, S14 = sI S12 4 ((gi S12 4) + (1 : Int32)) → (∀ S15 : gS, S15 = sA S14 9 (upd (ga S14 9) a1.toNatClampNeg (0 : Int32)) → (vp_in a2 6 ∧ (∀ S16 : gS, S16 = sA S15 27 (upd (ga S15 27) a2.toNatClampNeg (vp_nar .boolean (1 : Int32))) → (Q S16)))))))))))))))))
abbrev rmX10_lot : Room := { frames := 0, cells := 0, slots := 0, locals := 0 }
set_option maxHeartbeats 4000000 in
set_option maxRecDepth 100000 in
theorem kX10_lot (l : Launch) (D : va_G) (Y : Nat → ClassId) (A : Nat → Nat) (hI : iM A) (sz : Nat) (S : gS) (a1 : Int32) (a2 : Int32) (a3 : Int32) (a4 : Int32) (Q : gS → Prop) (h : qX10_lot S a1 a2 a3 a4 Q) : Met l yX10_lot wsX10_lot rmX10_lot (gPc [.ref (A 0), .int a1, .int a2, .int a3, .int a4] sz D vwCl (tY Y) (wM Y A S)) (va_Qv Q (fun S' t => gH D vwCl (tY Y) (wM Y A S') t) (gF A 44 sz)) 0 0 (gF A 44 sz) := by
  refine gMet_v (cc := cX10_lot) (maxL := 5) (by decide +kernel) rfl (Nat.le_of_ble_eq_true rfl) (fun p e s m args below meth c Z H locs hx hb hml hts hown hK hP hS hret ls hl => ?_)
  have hown : s.vm.findClass RX10 = some m.cls := hown
  have hl : lv_has ls 5 [(0, .ref (A 0)), (1, .int a1), (2, .int a2), (3, .int a3), (4, .int a4)] := hl
  have hD : ∀ S0 : gS, va_D (gF A 44 s.heap.size) (wM Y A S0) := fun S0 => dM hI S0 (fun k hk => gF_in hk)
  have k0 : ∀ w ∈ u_ws RX10 TX10 54, w ∈ wsX10_lot := by decide +kernel
  have k1 := hts (.fieldLink RX10 65 "CoastWatchModel" "lotBoat" "[I") (by decide +kernel)
  have k2 := hts (.fieldLink RX10 189 "CoastWatchModel" "lots" "I") (by decide +kernel)
  have k3 := hts (.fieldLink RX10 68 "CoastWatchModel" "lotCasks" "[I") (by decide +kernel)
  have k4 := hts (.fieldLink RX10 41 "CoastWatchModel" "aboard" "[I") (by decide +kernel)
  have k5 := hts (.fieldLink RX10 71 "CoastWatchModel" "lotNight" "[I") (by decide +kernel)
  have k6 := hts (.fieldLink RX10 173 "CoastWatchModel" "night" "I") (by decide +kernel)
  have k7 := hts (.fieldLink RX10 74 "CoastWatchModel" "lotCove" "[I") (by decide +kernel)
  have k8 := hts (.fieldLink RX10 77 "CoastWatchModel" "lotLies" "[I") (by decide +kernel)
  have k9 := hts (.fieldLink RX10 80 "CoastWatchModel" "lotHide" "[I") (by decide +kernel)
  have k10 := hts (.fieldLink RX10 96 "CoastWatchModel" "came" "[Z") (by decide +kernel)
  refine lv_aload_n hx hb dX10_lot_0 rfl (lv_at hl 0 rfl) ?_
  refine va_get (ci := 10) (v := .ref (A 18)) (C := RX10) (T := TX10) (N := 54) hx hb hts k0 hown hK hP 0 (aM0 Y A S) rfl 22 (by decide) k1 (fun _ h9 => h9) rfl dX10_lot_1 ?_
  refine lv_aload_n hx hb dX10_lot_4 rfl (lv_at hl 0 rfl) ?_
  refine va_get (ci := 10) (v := .int (gi S 4)) (C := RX10) (T := TX10) (N := 54) hx hb hts k0 hown hK hP 0 (aM0 Y A S) rfl 21 (by decide) k2 (fun _ h9 => h9) rfl dX10_lot_5 ?_
  refine lv_iload_n hx hb dX10_lot_8 rfl (lv_at hl 1 rfl) ?_
  have v_2 := h.1
  have h := h.2
  obtain ⟨S1, eS1⟩ : ∃ z : gS, z = sA S 17 (upd (ga S 17) (gi S 4).toNatClampNeg a1) := ⟨_, rfl⟩
  refine va_iast hx hb hK hP (hD S) hS 18 0 (aM18 Y A S) rfl v_2 dX10_lot_9 (fun H locs hP _ hS => ?_)
  have hP := uM18 eS1 hP
  have h := h S1 eS1
  refine lv_aload_n hx hb dX10_lot_10 rfl (lv_at hl 0 rfl) ?_
  refine va_get (ci := 10) (v := .ref (A 19)) (C := RX10) (T := TX10) (N := 54) hx hb hts k0 hown hK hP 0 (aM0 Y A S1) rfl 23 (by decide) k3 (fun _ h9 => h9) rfl dX10_lot_11 ?_
  refine lv_aload_n hx hb dX10_lot_14 rfl (lv_at hl 0 rfl) ?_
  refine va_get (ci := 10) (v := .int (gi S1 4)) (C := RX10) (T := TX10) (N := 54) hx hb hts k0 hown hK hP 0 (aM0 Y A S1) rfl 21 (by decide) k2 (fun _ h9 => h9) rfl dX10_lot_15 ?_
  refine lv_aload_n hx hb dX10_lot_18 rfl (lv_at hl 0 rfl) ?_
  refine va_get (ci := 10) (v := .ref (A 10)) (C := RX10) (T := TX10) (N := 54) hx hb hts k0 hown hK hP 0 (aM0 Y A S1) rfl 12 (by decide) k4 (fun _ h9 => h9) rfl dX10_lot_19 ?_
  refine lv_iload_n hx hb dX10_lot_22 rfl (lv_at hl 1 rfl) ?_
  have v_3 := h.1
  have h := h.2
  refine va_iald hx hb hK hP 10 0 (aM10 Y A S1) rfl v_3 dX10_lot_23 ?_
  have v_5 := h.1
  have h := h.2
  obtain ⟨S4, eS4⟩ : ∃ z : gS, z = sA S1 18 (upd (ga S1 18) (gi S1 4).toNatClampNeg (ga S1 9 a1.toNatClampNeg)) := ⟨_, rfl⟩
  refine va_iast hx hb hK hP (hD S1) hS 19 0 (aM19 Y A S1) rfl v_5 dX10_lot_24 (fun H locs hP _ hS => ?_)
  have hP := uM19 eS4 hP
  have h := h S4 eS4
  refine lv_aload_n hx hb dX10_lot_25 rfl (lv_at hl 0 rfl) ?_
  refine va_get (ci := 10) (v := .ref (A 20)) (C := RX10) (T := TX10) (N := 54) hx hb hts k0 hown hK hP 0 (aM0 Y A S4) rfl 24 (by decide) k5 (fun _ h9 => h9) rfl dX10_lot_26 ?_
  refine lv_aload_n hx hb dX10_lot_29 rfl (lv_at hl 0 rfl) ?_
  refine va_get (ci := 10) (v := .int (gi S4 4)) (C := RX10) (T := TX10) (N := 54) hx hb hts k0 hown hK hP 0 (aM0 Y A S4) rfl 21 (by decide) k2 (fun _ h9 => h9) rfl dX10_lot_30 ?_
  refine lv_aload_n hx hb dX10_lot_33 rfl (lv_at hl 0 rfl) ?_
  refine va_get (ci := 10) (v := .int (gi S4 1)) (C := RX10) (T := TX10) (N := 54) hx hb hts k0 hown hK hP 0 (aM0 Y A S4) rfl 1 (by decide) k6 (fun _ h9 => h9) rfl dX10_lot_34 ?_
  have v_7 := h.1
  have h := h.2
  obtain ⟨S6, eS6⟩ : ∃ z : gS, z = sA S4 19 (upd (ga S4 19) (gi S4 4).toNatClampNeg (gi S4 1)) := ⟨_, rfl⟩
  refine va_iast hx hb hK hP (hD S4) hS 20 0 (aM20 Y A S4) rfl v_7 dX10_lot_37 (fun H locs hP _ hS => ?_)
  have hP := uM20 eS6 hP
  have h := h S6 eS6
  refine lv_aload_n hx hb dX10_lot_38 rfl (lv_at hl 0 rfl) ?_
  refine va_get (ci := 10) (v := .ref (A 21)) (C := RX10) (T := TX10) (N := 54) hx hb hts k0 hown hK hP 0 (aM0 Y A S6) rfl 25 (by decide) k7 (fun _ h9 => h9) rfl dX10_lot_39 ?_
  refine lv_aload_n hx hb dX10_lot_42 rfl (lv_at hl 0 rfl) ?_
  refine va_get (ci := 10) (v := .int (gi S6 4)) (C := RX10) (T := TX10) (N := 54) hx hb hts k0 hown hK hP 0 (aM0 Y A S6) rfl 21 (by decide) k2 (fun _ h9 => h9) rfl dX10_lot_43 ?_
  refine lv_iload_n hx hb dX10_lot_46 rfl (lv_at hl 2 rfl) ?_
  have v_9 := h.1
  have h := h.2
  obtain ⟨S8, eS8⟩ : ∃ z : gS, z = sA S6 20 (upd (ga S6 20) (gi S6 4).toNatClampNeg a2) := ⟨_, rfl⟩
  refine va_iast hx hb hK hP (hD S6) hS 21 0 (aM21 Y A S6) rfl v_9 dX10_lot_47 (fun H locs hP _ hS => ?_)
  have hP := uM21 eS8 hP
  have h := h S8 eS8
  refine lv_aload_n hx hb dX10_lot_48 rfl (lv_at hl 0 rfl) ?_
  refine va_get (ci := 10) (v := .ref (A 22)) (C := RX10) (T := TX10) (N := 54) hx hb hts k0 hown hK hP 0 (aM0 Y A S8) rfl 26 (by decide) k8 (fun _ h9 => h9) rfl dX10_lot_49 ?_
  refine lv_aload_n hx hb dX10_lot_52 rfl (lv_at hl 0 rfl) ?_
  refine va_get (ci := 10) (v := .int (gi S8 4)) (C := RX10) (T := TX10) (N := 54) hx hb hts k0 hown hK hP 0 (aM0 Y A S8) rfl 21 (by decide) k2 (fun _ h9 => h9) rfl dX10_lot_53 ?_
  refine lv_iload_n hx hb dX10_lot_56 rfl (lv_at hl 3 rfl) ?_
  have v_11 := h.1
  have h := h.2
  obtain ⟨S10, eS10⟩ : ∃ z : gS, z = sA S8 21 (upd (ga S8 21) (gi S8 4).toNatClampNeg a3) := ⟨_, rfl⟩
  refine va_iast hx hb hK hP (hD S8) hS 22 0 (aM22 Y A S8) rfl v_11 dX10_lot_57 (fun H locs hP _ hS => ?_)
  have hP := uM22 eS10 hP
  have h := h S10 eS10
  refine lv_aload_n hx hb dX10_lot_58 rfl (lv_at hl 0 rfl) ?_
  refine va_get (ci := 10) (v := .ref (A 23)) (C := RX10) (T := TX10) (N := 54) hx hb hts k0 hown hK hP 0 (aM0 Y A S10) rfl 27 (by decide) k9 (fun _ h9 => h9) rfl dX10_lot_59 ?_
  refine lv_aload_n hx hb dX10_lot_62 rfl (lv_at hl 0 rfl) ?_
  refine va_get (ci := 10) (v := .int (gi S10 4)) (C := RX10) (T := TX10) (N := 54) hx hb hts k0 hown hK hP 0 (aM0 Y A S10) rfl 21 (by decide) k2 (fun _ h9 => h9) rfl dX10_lot_63 ?_
  refine lv_iload hx hb dX10_lot_66 (lv_at hl 4 rfl) ?_
  have v_13 := h.1
  have h := h.2
  obtain ⟨S12, eS12⟩ : ∃ z : gS, z = sA S10 22 (upd (ga S10 22) (gi S10 4).toNatClampNeg a4) := ⟨_, rfl⟩
  refine va_iast hx hb hK hP (hD S10) hS 23 0 (aM23 Y A S10) rfl v_13 dX10_lot_68 (fun H locs hP _ hS => ?_)
  have hP := uM23 eS12 hP
  have h := h S12 eS12
  refine lv_aload_n hx hb dX10_lot_69 rfl (lv_at hl 0 rfl) ?_
  refine lv_dup hx hb dX10_lot_70 rfl ?_
  refine va_get (ci := 10) (v := .int (gi S12 4)) (C := RX10) (T := TX10) (N := 54) hx hb hts k0 hown hK hP 0 (aM0 Y A S12) rfl 21 (by decide) k2 (fun _ h9 => h9) rfl dX10_lot_71 ?_
  refine lv_iconst (v := (1 : Int32)) hx hb dX10_lot_74 (by decide) ?_
  refine lv_iadd hx hb dX10_lot_75 ?_
  obtain ⟨S14, eS14⟩ : ∃ z : gS, z = sI S12 4 ((gi S12 4) + (1 : Int32)) := ⟨_, rfl⟩
  have h := h S14 eS14
  refine va_put (ci := 10) (v := .int ((gi S12 4) + (1 : Int32))) (ty := .int) (C := RX10) (T := TX10) (N := 54) hx hb hts k0 tyX10 tyX10_ok nmX10 hown hK hP (hD S12) hS 0 (aM0 Y A S12) rfl 21 (by decide) k2 (fun _ h9 => h9) rfl rfl rfl rfl (by simp) dX10_lot_76 (fun H locs hP _ hS => ?_)
  have hP := pM0_21 eS14 hP
  refine lv_aload_n hx hb dX10_lot_79 rfl (lv_at hl 0 rfl) ?_
  refine va_get (ci := 10) (v := .ref (A 10)) (C := RX10) (T := TX10) (N := 54) hx hb hts k0 hown hK hP 0 (aM0 Y A S14) rfl 12 (by decide) k4 (fun _ h9 => h9) rfl dX10_lot_80 ?_
  refine lv_iload_n hx hb dX10_lot_83 rfl (lv_at hl 1 rfl) ?_
  refine lv_iconst (v := (0 : Int32)) hx hb dX10_lot_84 (by decide) ?_
  obtain ⟨S15, eS15⟩ : ∃ z : gS, z = sA S14 9 (upd (ga S14 9) a1.toNatClampNeg (0 : Int32)) := ⟨_, rfl⟩
  refine va_iast hx hb hK hP (hD S14) hS 10 0 (aM10 Y A S14) rfl v_3 dX10_lot_85 (fun H locs hP _ hS => ?_)
  have hP := uM10 eS15 hP
  have h := h S15 eS15
  refine lv_aload_n hx hb dX10_lot_86 rfl (lv_at hl 0 rfl) ?_
  refine va_get (ci := 10) (v := .ref (A 28)) (C := RX10) (T := TX10) (N := 54) hx hb hts k0 hown hK hP 0 (aM0 Y A S15) rfl 32 (by decide) k10 (fun _ h9 => h9) rfl dX10_lot_87 ?_
  refine lv_iload_n hx hb dX10_lot_90 rfl (lv_at hl 2 rfl) ?_
  refine lv_iconst (v := (1 : Int32)) hx hb dX10_lot_91 (by decide) ?_
  have v_17 := h.1
  have h := h.2
  obtain ⟨S16, eS16⟩ : ∃ z : gS, z = sA S15 27 (upd (ga S15 27) a2.toNatClampNeg (vp_nar .boolean (1 : Int32))) := ⟨_, rfl⟩
  refine va_zast hx hb hK hP (hD S15) hS 28 1 (aM28 Y A S15) rfl v_17 dX10_lot_92 (fun H locs hP _ hS => ?_)
  have hP := uM28 eS16 hP
  have h := h S16 eS16
  exact hret _ _ _ _ _ dX10_lot_93 h hP hS

def qX10_moreFear (S : gS) (a1 : Int32) (a2 : Int32) (a3 : Int32) (Q : gS → Prop) : Prop :=
  vp_in (((6 : Int32) * a1) + a2) 48 ∧ (∀ x2 : Int32, x2 = ((ga S 12 (((6 : Int32) * a1) + a2).toNatClampNeg) + a3) → ((x2 ≤ (99 : Int32) → (∀ S4 : gS, S4 = sA S 12 (upd (ga S 12) (((6 : Int32) * a1) + a2).toNatClampNeg x2) → (Q S4))) ∧ (¬ x2 ≤ (99 : Int32) → (∀ S5 : gS, S5 = sA S 12 (upd (ga S 12) (((6 : Int32) * a1) + a2).toNatClampNeg (99 : Int32)) → (Q S5)))))
abbrev rmX10_moreFear : Room := { frames := 0, cells := 0, slots := 0, locals := 0 }
set_option maxHeartbeats 4000000 in
set_option maxRecDepth 100000 in
theorem kX10_moreFear (l : Launch) (D : va_G) (Y : Nat → ClassId) (A : Nat → Nat) (hI : iM A) (sz : Nat) (S : gS) (a1 : Int32) (a2 : Int32) (a3 : Int32) (Q : gS → Prop) (h : qX10_moreFear S a1 a2 a3 Q) : Met l yX10_moreFear wsX10_moreFear rmX10_moreFear (gPc [.ref (A 0), .int a1, .int a2, .int a3] sz D vwCl (tY Y) (wM Y A S)) (va_Qv Q (fun S' t => gH D vwCl (tY Y) (wM Y A S') t) (gF A 44 sz)) 0 0 (gF A 44 sz) := by
  refine gMet_v (cc := cX10_moreFear) (maxL := 5) (by decide +kernel) rfl (Nat.le_of_ble_eq_true rfl) (fun p e s m args below meth c Z H locs hx hb hml hts hown hK hP hS hret ls hl => ?_)
  have hown : s.vm.findClass RX10 = some m.cls := hown
  have hl : lv_has ls 5 [(0, .ref (A 0)), (1, .int a1), (2, .int a2), (3, .int a3)] := hl
  have hD : ∀ S0 : gS, va_D (gF A 44 s.heap.size) (wM Y A S0) := fun S0 => dM hI S0 (fun k hk => gF_in hk)
  have k0 : ∀ w ∈ u_ws RX10 TX10 54, w ∈ wsX10_moreFear := by decide +kernel
  have k1 := hts (.fieldLink RX10 50 "CoastWatchModel" "fear" "[I") (by decide +kernel)
  refine lv_aload_n hx hb dX10_moreFear_0 rfl (lv_at hl 0 rfl) ?_
  refine va_get (ci := 10) (v := .ref (A 13)) (C := RX10) (T := TX10) (N := 54) hx hb hts k0 hown hK hP 0 (aM0 Y A S) rfl 15 (by decide) k1 (fun _ h9 => h9) rfl dX10_moreFear_1 ?_
  refine lv_bipush (v := (6 : Int32)) hx hb dX10_moreFear_4 (by decide) ?_
  refine lv_iload_n hx hb dX10_moreFear_6 rfl (lv_at hl 1 rfl) ?_
  refine lv_imul hx hb dX10_moreFear_7 ?_
  refine lv_iload_n hx hb dX10_moreFear_8 rfl (lv_at hl 2 rfl) ?_
  refine lv_iadd hx hb dX10_moreFear_9 ?_
  have v_1 := h.1
  have h := h.2
  refine va_iald hx hb hK hP 13 0 (aM13 Y A S) rfl v_1 dX10_moreFear_10 ?_
  refine lv_iload_n hx hb dX10_moreFear_11 rfl (lv_at hl 3 rfl) ?_
  refine lv_iadd hx hb dX10_moreFear_12 ?_
  refine lv_topi (fun x2 ex2 => ?_)
  have h := h x2 ex2
  refine lv_istore (lv' := [(4, .int x2), (0, .ref (A 0)), (1, .int a1), (2, .int a2), (3, .int a3)]) hx hb dX10_moreFear_13 hl (by decide) rfl (fun ls hl => ?_)
  refine lv_aload_n hx hb dX10_moreFear_15 rfl (lv_at hl 1 rfl) ?_
  refine va_get (ci := 10) (v := .ref (A 13)) (C := RX10) (T := TX10) (N := 54) hx hb hts k0 hown hK hP 0 (aM0 Y A S) rfl 15 (by decide) k1 (fun _ h9 => h9) rfl dX10_moreFear_16 ?_
  refine lv_bipush (v := (6 : Int32)) hx hb dX10_moreFear_19 (by decide) ?_
  refine lv_iload_n hx hb dX10_moreFear_21 rfl (lv_at hl 2 rfl) ?_
  refine lv_imul hx hb dX10_moreFear_22 ?_
  refine lv_iload_n hx hb dX10_moreFear_23 rfl (lv_at hl 3 rfl) ?_
  refine lv_iadd hx hb dX10_moreFear_24 ?_
  refine lv_iload hx hb dX10_moreFear_25 (lv_at hl 0 rfl) ?_
  refine lv_bipush (v := (99 : Int32)) hx hb dX10_moreFear_27 (by decide) ?_
  refine lv_icmp_le (tgt := 37) hx hb dX10_moreFear_29 (by decide) (fun c3 => ?_) (fun c3 => ?_)
  · have h := h.1 c3
    refine lv_iload hx hb dX10_moreFear_37 (lv_at hl 0 rfl) ?_
    obtain ⟨S4, eS4⟩ : ∃ z : gS, z = sA S 12 (upd (ga S 12) (((6 : Int32) * a1) + a2).toNatClampNeg x2) := ⟨_, rfl⟩
    refine va_iast hx hb hK hP (hD S) hS 13 0 (aM13 Y A S) rfl v_1 dX10_moreFear_39 (fun H locs hP _ hS => ?_)
    have hP := uM13 eS4 hP
    have h := h S4 eS4
    exact hret _ _ _ _ _ dX10_moreFear_40 h hP hS
  · have h := h.2 c3
    refine lv_bipush (v := (99 : Int32)) hx hb dX10_moreFear_32 (by decide) ?_
    refine lv_goto (tgt := 39) hx hb dX10_moreFear_34 (by decide) ?_
    obtain ⟨S5, eS5⟩ : ∃ z : gS, z = sA S 12 (upd (ga S 12) (((6 : Int32) * a1) + a2).toNatClampNeg (99 : Int32)) := ⟨_, rfl⟩
    refine va_iast hx hb hK hP (hD S) hS 13 0 (aM13 Y A S) rfl v_1 dX10_moreFear_39 (fun H locs hP _ hS => ?_)
    have hP := uM13 eS5 hP
    have h := h S5 eS5
    exact hret _ _ _ _ _ dX10_moreFear_40 h hP hS

def qX10_goes_J135 (a1 : Int32) (a2 : Int32) (Q : gS → Prop) : gS → Prop := fun S =>
  ((5 : Int32) ≤ a2 → (Q S)) ∧ (¬ (5 : Int32) ≤ a2 → (vp_in (a2 + (1 : Int32)) 6 ∧ (((ga S 26 (a2 + (1 : Int32)).toNatClampNeg) ≤ 0 → (Q S)) ∧ (¬ (ga S 26 (a2 + (1 : Int32)).toNatClampNeg) ≤ 0 → (qX10_moreFear S a1 (a2 + (1 : Int32)) (5 : Int32) (fun S4 => Q S4))))))
def qX10_goes_J111 (a1 : Int32) (a2 : Int32) (Q : gS → Prop) : gS → Prop := fun S =>
  (a2 ≤ 0 → (qX10_goes_J135 a1 a2 Q S)) ∧ (¬ a2 ≤ 0 → (vp_in (a2 - (1 : Int32)) 6 ∧ (((ga S 26 (a2 - (1 : Int32)).toNatClampNeg) ≤ 0 → (qX10_goes_J135 a1 a2 Q S)) ∧ (¬ (ga S 26 (a2 - (1 : Int32)).toNatClampNeg) ≤ 0 → (qX10_moreFear S a1 (a2 - (1 : Int32)) (5 : Int32) (fun S8 => qX10_goes_J135 a1 a2 Q S8))))))
def qX10_goes_J60 (a1 : Int32) (a2 : Int32) (Q : gS → Prop) : gS → Prop := fun S =>
  qX10_moreFear S a1 a2 (25 : Int32) (fun S9 => qX10_goes_J111 a1 a2 Q S9)
def qX10_goes (S : gS) (a1 : Int32) (a2 : Int32) (Q : gS → Prop) : Prop :=
  qX10_counting S a2 (fun r11 S10 => (r11 ≤ 0 → (vp_in a1 8 ∧ (qX10_hideFor S10 a2 (ga S10 9 a1.toNatClampNeg) (fun r15 S14 => (r15 < 0 → (∀ S17 : gS, S17 = sA S14 11 (upd (ga S14 11) a1.toNatClampNeg ((ga S14 11 a1.toNatClampNeg) + (1 : Int32))) → (qX10_goes_J111 a1 a2 Q S17))) ∧ (¬ r15 < 0 → (qX10_lot S14 a1 a2 (0 : Int32) r15 (fun S18 => qX10_goes_J111 a1 a2 Q S18))))))) ∧ (¬ r11 ≤ 0 → (vp_in a1 8 ∧ ((((10 : Int32) * r11) ≤ (ga S10 7 a1.toNatClampNeg) → (∀ S21 : gS, S21 = sA S10 10 (upd (ga S10 10) a1.toNatClampNeg ((ga S10 10 a1.toNatClampNeg) + (1 : Int32))) → (qX10_goes_J60 a1 a2 Q S21))) ∧ (¬ ((10 : Int32) * r11) ≤ (ga S10 7 a1.toNatClampNeg) → (qX10_teller S10 a2 (fun r23 S22 => qX10_partCasks S22 (ga S10 9 a1.toNatClampNeg) r23 (fun S24 => qX10_lot S24 a1 a2 (1 : Int32) (-9 : Int32) (fun S25 => qX10_goes_J60 a1 a2 Q S25)))))))))
abbrev rmX10_goes : Room := { frames := 2, cells := 0, slots := 0, locals := 46 }
set_option maxHeartbeats 4000000 in
set_option maxRecDepth 100000 in
theorem kX10_goes (l : Launch) (D : va_G) (Y : Nat → ClassId) (A : Nat → Nat) (hI : iM A) (sz : Nat) (S : gS) (a1 : Int32) (a2 : Int32) (Q : gS → Prop) (h : qX10_goes S a1 a2 Q) : Met l yX10_goes wsX10_goes rmX10_goes (gPc [.ref (A 0), .int a1, .int a2] sz D vwCl (tY Y) (wM Y A S)) (va_Qv Q (fun S' t => gH D vwCl (tY Y) (wM Y A S') t) (gF A 44 sz)) 0 0 (gF A 44 sz) := by
  refine gMet_v (cc := cX10_goes) (maxL := 5) (by decide +kernel) rfl (Nat.le_of_ble_eq_true rfl) (fun p e s m args below meth c Z H locs hx hb hml hts hown hK hP hS hret ls hl => ?_)
  have hown : s.vm.findClass RX10 = some m.cls := hown
  have hl : lv_has ls 5 [(0, .ref (A 0)), (1, .int a1), (2, .int a2)] := hl
  have hD : ∀ S0 : gS, va_D (gF A 44 s.heap.size) (wM Y A S0) := fun S0 => dM hI S0 (fun k hk => gF_in hk)
  have k0 : ∀ w ∈ u_ws RX10 TX10 54, w ∈ wsX10_goes := by decide +kernel
  have k1 := hts (.fieldLink RX10 93 "CoastWatchModel" "there" "[I") (by decide +kernel)
  have k2 := hts (.fieldLink RX10 41 "CoastWatchModel" "aboard" "[I") (by decide +kernel)
  have k3 := hts (.fieldLink RX10 47 "CoastWatchModel" "home" "[I") (by decide +kernel)
  have k4 := hts (.fieldLink RX10 35 "CoastWatchModel" "strength" "[I") (by decide +kernel)
  have k5 := hts (.fieldLink RX10 44 "CoastWatchModel" "away" "[I") (by decide +kernel)
  have tJ135 : ∀ (S : gS), qX10_goes_J135 a1 a2 Q S → ∀ (H : Heap) (locs : List Loc) (ls : Array Slot), va_P D vwCl (wM Y A S) H → va_S (gF A 44 s.heap.size) s.heap H locs → lv_has ls 5 [(0, .ref (A 0)), (1, .int a1), (2, .int a2)] → W p l e rmX10_goes s m args below meth c H locs 0 0 Z (F0 m 135 ls []) := by
    intro  S h
    intro H locs ls hP hS hl
    refine lv_iload_n hx hb dX10_goes_135 rfl (lv_at hl 2 rfl) ?_
    refine lv_iconst (v := (5 : Int32)) hx hb dX10_goes_136 (by decide) ?_
    refine lv_icmp_ge (tgt := 160) hx hb dX10_goes_137 (by decide) (fun c1 => ?_) (fun c1 => ?_)
    · have h := h.1 c1
      exact hret _ _ _ _ _ dX10_goes_160 h hP hS
    · have h := h.2 c1
      refine lv_aload_n hx hb dX10_goes_140 rfl (lv_at hl 0 rfl) ?_
      refine va_get (ci := 10) (v := .ref (A 27)) (C := RX10) (T := TX10) (N := 54) hx hb hts k0 hown hK hP 0 (aM0 Y A S) rfl 31 (by decide) k1 (fun _ h9 => h9) rfl dX10_goes_141 ?_
      refine lv_iload_n hx hb dX10_goes_144 rfl (lv_at hl 2 rfl) ?_
      refine lv_iconst (v := (1 : Int32)) hx hb dX10_goes_145 (by decide) ?_
      refine lv_iadd hx hb dX10_goes_146 ?_
      have v_2 := h.1
      have h := h.2
      refine va_iald hx hb hK hP 27 0 (aM27 Y A S) rfl v_2 dX10_goes_147 ?_
      refine lv_if_le (tgt := 160) hx hb dX10_goes_148 (by decide) (fun c3 => ?_) (fun c3 => ?_)
      · have h := h.1 c3
        exact hret _ _ _ _ _ dX10_goes_160 h hP hS
      · have h := h.2 c3
        refine lv_aload_n hx hb dX10_goes_151 rfl (lv_at hl 0 rfl) ?_
        refine lv_iload_n hx hb dX10_goes_152 rfl (lv_at hl 1 rfl) ?_
        refine lv_iload_n hx hb dX10_goes_153 rfl (lv_at hl 2 rfl) ?_
        refine lv_iconst (v := (1 : Int32)) hx hb dX10_goes_154 (by decide) ?_
        refine lv_iadd hx hb dX10_goes_155 ?_
        refine lv_iconst (v := (5 : Int32)) hx hb dX10_goes_156 (by decide) ?_
        refine gVv (As := [.int a1, .int (a2 + (1 : Int32)), .int (5 : Int32)]) (rest := []) ⟨hx, hb, hml, hown, hts⟩ (kX10_moreFear l D Y A hI H.size S a1 (a2 + (1 : Int32)) (5 : Int32) _ h) (cwV 3 hts gX10_goes_X10_moreFear rfl rfl rfl (by decide +kernel) ⟨Nat.le_of_ble_eq_true rfl, Nat.le_of_ble_eq_true rfl⟩) hK hP hS (gF_le hS.1) (aM0 Y A S) (show vwCl[10]? = some (RX10, TX10, 54) from rfl) rfl rfl hl.1 (Nat.le_of_ble_eq_true rfl) dX10_goes_157 ⟨Nat.zero_le _, Nat.zero_le _⟩ ?_
        intro S4 H locs h hP hS
        exact hret _ _ _ _ _ dX10_goes_160 h hP hS
  have tJ111 : ∀ (S : gS), qX10_goes_J111 a1 a2 Q S → ∀ (H : Heap) (locs : List Loc) (ls : Array Slot), va_P D vwCl (wM Y A S) H → va_S (gF A 44 s.heap.size) s.heap H locs → lv_has ls 5 [(0, .ref (A 0)), (1, .int a1), (2, .int a2)] → W p l e rmX10_goes s m args below meth c H locs 0 0 Z (F0 m 111 ls []) := by
    intro  S h
    intro H locs ls hP hS hl
    refine lv_iload_n hx hb dX10_goes_111 rfl (lv_at hl 2 rfl) ?_
    refine lv_if_le (tgt := 135) hx hb dX10_goes_112 (by decide) (fun c5 => ?_) (fun c5 => ?_)
    · have h := h.1 c5
      exact tJ135  S h _ _ _ hP hS (lv_sub hl [0, 1, 2] rfl)
    · have h := h.2 c5
      refine lv_aload_n hx hb dX10_goes_115 rfl (lv_at hl 0 rfl) ?_
      refine va_get (ci := 10) (v := .ref (A 27)) (C := RX10) (T := TX10) (N := 54) hx hb hts k0 hown hK hP 0 (aM0 Y A S) rfl 31 (by decide) k1 (fun _ h9 => h9) rfl dX10_goes_116 ?_
      refine lv_iload_n hx hb dX10_goes_119 rfl (lv_at hl 2 rfl) ?_
      refine lv_iconst (v := (1 : Int32)) hx hb dX10_goes_120 (by decide) ?_
      refine lv_isub hx hb dX10_goes_121 ?_
      have v_6 := h.1
      have h := h.2
      refine va_iald hx hb hK hP 27 0 (aM27 Y A S) rfl v_6 dX10_goes_122 ?_
      refine lv_if_le (tgt := 135) hx hb dX10_goes_123 (by decide) (fun c7 => ?_) (fun c7 => ?_)
      · have h := h.1 c7
        exact tJ135  S h _ _ _ hP hS (lv_sub hl [0, 1, 2] rfl)
      · have h := h.2 c7
        refine lv_aload_n hx hb dX10_goes_126 rfl (lv_at hl 0 rfl) ?_
        refine lv_iload_n hx hb dX10_goes_127 rfl (lv_at hl 1 rfl) ?_
        refine lv_iload_n hx hb dX10_goes_128 rfl (lv_at hl 2 rfl) ?_
        refine lv_iconst (v := (1 : Int32)) hx hb dX10_goes_129 (by decide) ?_
        refine lv_isub hx hb dX10_goes_130 ?_
        refine lv_iconst (v := (5 : Int32)) hx hb dX10_goes_131 (by decide) ?_
        refine gVv (As := [.int a1, .int (a2 - (1 : Int32)), .int (5 : Int32)]) (rest := []) ⟨hx, hb, hml, hown, hts⟩ (kX10_moreFear l D Y A hI H.size S a1 (a2 - (1 : Int32)) (5 : Int32) _ h) (cwV 3 hts gX10_goes_X10_moreFear rfl rfl rfl (by decide +kernel) ⟨Nat.le_of_ble_eq_true rfl, Nat.le_of_ble_eq_true rfl⟩) hK hP hS (gF_le hS.1) (aM0 Y A S) (show vwCl[10]? = some (RX10, TX10, 54) from rfl) rfl rfl hl.1 (Nat.le_of_ble_eq_true rfl) dX10_goes_132 ⟨Nat.zero_le _, Nat.zero_le _⟩ ?_
        intro S8 H locs h hP hS
        exact tJ135  S8 h _ _ _ hP hS (lv_sub hl [0, 1, 2] rfl)
  have tJ60 : ∀ (S : gS), qX10_goes_J60 a1 a2 Q S → ∀ (H : Heap) (locs : List Loc) (ls : Array Slot), va_P D vwCl (wM Y A S) H → va_S (gF A 44 s.heap.size) s.heap H locs → lv_has ls 5 [(0, .ref (A 0)), (1, .int a1), (2, .int a2)] → W p l e rmX10_goes s m args below meth c H locs 0 0 Z (F0 m 60 ls []) := by
    intro  S h
    intro H locs ls hP hS hl
    refine lv_aload_n hx hb dX10_goes_60 rfl (lv_at hl 0 rfl) ?_
    refine lv_iload_n hx hb dX10_goes_61 rfl (lv_at hl 1 rfl) ?_
    refine lv_iload_n hx hb dX10_goes_62 rfl (lv_at hl 2 rfl) ?_
    refine lv_bipush (v := (25 : Int32)) hx hb dX10_goes_63 (by decide) ?_
    refine gVv (As := [.int a1, .int a2, .int (25 : Int32)]) (rest := []) ⟨hx, hb, hml, hown, hts⟩ (kX10_moreFear l D Y A hI H.size S a1 a2 (25 : Int32) _ h) (cwV 3 hts gX10_goes_X10_moreFear rfl rfl rfl (by decide +kernel) ⟨Nat.le_of_ble_eq_true rfl, Nat.le_of_ble_eq_true rfl⟩) hK hP hS (gF_le hS.1) (aM0 Y A S) (show vwCl[10]? = some (RX10, TX10, 54) from rfl) rfl rfl hl.1 (Nat.le_of_ble_eq_true rfl) dX10_goes_65 ⟨Nat.zero_le _, Nat.zero_le _⟩ ?_
    intro S9 H locs h hP hS
    refine lv_goto (tgt := 111) hx hb dX10_goes_68 (by decide) ?_
    exact tJ111  S9 h _ _ _ hP hS (lv_sub hl [0, 1, 2] rfl)
  refine lv_aload_n hx hb dX10_goes_0 rfl (lv_at hl 0 rfl) ?_
  refine lv_iload_n hx hb dX10_goes_1 rfl (lv_at hl 2 rfl) ?_
  refine gVi (As := [.int a2]) (rest := []) ⟨hx, hb, hml, hown, hts⟩ (kX10_counting l D Y A hI H.size S a2 _ h) (cwV 1 hts gX10_goes_X10_counting rfl rfl rfl (by decide +kernel) ⟨Nat.le_of_ble_eq_true rfl, Nat.le_of_ble_eq_true rfl⟩) hK hP hS (gF_le hS.1) (aM0 Y A S) (show vwCl[10]? = some (RX10, TX10, 54) from rfl) rfl rfl hl.1 (Nat.le_of_ble_eq_true rfl) dX10_goes_2 ⟨Nat.zero_le _, Nat.zero_le _⟩ ?_
  intro r11 S10 H locs h hP hS
  refine lv_istore_n (lv' := [(3, .int r11), (0, .ref (A 0)), (1, .int a1), (2, .int a2)]) hx hb dX10_goes_5 rfl hl (by decide) rfl (fun ls hl => ?_)
  refine lv_iload_n hx hb dX10_goes_6 rfl (lv_at hl 0 rfl) ?_
  refine lv_if_le (tgt := 71) hx hb dX10_goes_7 (by decide) (fun c12 => ?_) (fun c12 => ?_)
  · have h := h.1 c12
    refine lv_aload_n hx hb dX10_goes_71 rfl (lv_at hl 1 rfl) ?_
    refine lv_iload_n hx hb dX10_goes_72 rfl (lv_at hl 3 rfl) ?_
    refine lv_aload_n hx hb dX10_goes_73 rfl (lv_at hl 1 rfl) ?_
    refine va_get (ci := 10) (v := .ref (A 10)) (C := RX10) (T := TX10) (N := 54) hx hb hts k0 hown hK hP 0 (aM0 Y A S10) rfl 12 (by decide) k2 (fun _ h9 => h9) rfl dX10_goes_74 ?_
    refine lv_iload_n hx hb dX10_goes_77 rfl (lv_at hl 2 rfl) ?_
    have v_13 := h.1
    have h := h.2
    refine va_iald hx hb hK hP 10 0 (aM10 Y A S10) rfl v_13 dX10_goes_78 ?_
    refine gVi (As := [.int a2, .int (ga S10 9 a1.toNatClampNeg)]) (rest := []) ⟨hx, hb, hml, hown, hts⟩ (kX10_hideFor l D Y A hI H.size S10 a2 (ga S10 9 a1.toNatClampNeg) _ h) (cwV 2 hts gX10_goes_X10_hideFor rfl rfl rfl (by decide +kernel) ⟨Nat.le_of_ble_eq_true rfl, Nat.le_of_ble_eq_true rfl⟩) hK hP hS (gF_le hS.1) (aM0 Y A S10) (show vwCl[10]? = some (RX10, TX10, 54) from rfl) rfl rfl hl.1 (Nat.le_of_ble_eq_true rfl) dX10_goes_79 ⟨Nat.zero_le _, Nat.zero_le _⟩ ?_
    intro r15 S14 H locs h hP hS
    refine lv_istore (lv' := [(4, .int r15), (3, .int r11), (0, .ref (A 0)), (1, .int a1), (2, .int a2)]) hx hb dX10_goes_82 hl (by decide) rfl (fun ls hl => ?_)
    refine lv_iload hx hb dX10_goes_84 (lv_at hl 0 rfl) ?_
    refine lv_if_lt (tgt := 101) hx hb dX10_goes_86 (by decide) (fun c16 => ?_) (fun c16 => ?_)
    · have h := h.1 c16
      refine lv_aload_n hx hb dX10_goes_101 rfl (lv_at hl 2 rfl) ?_
      refine va_get (ci := 10) (v := .ref (A 12)) (C := RX10) (T := TX10) (N := 54) hx hb hts k0 hown hK hP 0 (aM0 Y A S14) rfl 14 (by decide) k3 (fun _ h9 => h9) rfl dX10_goes_102 ?_
      refine lv_iload_n hx hb dX10_goes_105 rfl (lv_at hl 3 rfl) ?_
      refine lv_dup2_11 hx hb dX10_goes_106 rfl rfl ?_
      refine va_iald hx hb hK hP 12 0 (aM12 Y A S14) rfl v_13 dX10_goes_107 ?_
      refine lv_iconst (v := (1 : Int32)) hx hb dX10_goes_108 (by decide) ?_
      refine lv_iadd hx hb dX10_goes_109 ?_
      obtain ⟨S17, eS17⟩ : ∃ z : gS, z = sA S14 11 (upd (ga S14 11) a1.toNatClampNeg ((ga S14 11 a1.toNatClampNeg) + (1 : Int32))) := ⟨_, rfl⟩
      refine va_iast hx hb hK hP (hD S14) hS 12 0 (aM12 Y A S14) rfl v_13 dX10_goes_110 (fun H locs hP _ hS => ?_)
      have hP := uM12 eS17 hP
      have h := h S17 eS17
      exact tJ111  S17 h _ _ _ hP hS (lv_sub hl [2, 3, 4] rfl)
    · have h := h.2 c16
      refine lv_aload_n hx hb dX10_goes_89 rfl (lv_at hl 2 rfl) ?_
      refine lv_iload_n hx hb dX10_goes_90 rfl (lv_at hl 3 rfl) ?_
      refine lv_iload_n hx hb dX10_goes_91 rfl (lv_at hl 4 rfl) ?_
      refine lv_iconst (v := (0 : Int32)) hx hb dX10_goes_92 (by decide) ?_
      refine lv_iload hx hb dX10_goes_93 (lv_at hl 0 rfl) ?_
      refine gVv (As := [.int a1, .int a2, .int (0 : Int32), .int r15]) (rest := []) ⟨hx, hb, hml, hown, hts⟩ (kX10_lot l D Y A hI H.size S14 a1 a2 (0 : Int32) r15 _ h) (cwV 4 hts gX10_goes_X10_lot rfl rfl rfl (by decide +kernel) ⟨Nat.le_of_ble_eq_true rfl, Nat.le_of_ble_eq_true rfl⟩) hK hP hS (gF_le hS.1) (aM0 Y A S14) (show vwCl[10]? = some (RX10, TX10, 54) from rfl) rfl rfl hl.1 (Nat.le_of_ble_eq_true rfl) dX10_goes_95 ⟨Nat.zero_le _, Nat.zero_le _⟩ ?_
      intro S18 H locs h hP hS
      refine lv_goto (tgt := 111) hx hb dX10_goes_98 (by decide) ?_
      exact tJ111  S18 h _ _ _ hP hS (lv_sub hl [2, 3, 4] rfl)
  · have h := h.2 c12
    refine lv_aload_n hx hb dX10_goes_10 rfl (lv_at hl 1 rfl) ?_
    refine va_get (ci := 10) (v := .ref (A 8)) (C := RX10) (T := TX10) (N := 54) hx hb hts k0 hown hK hP 0 (aM0 Y A S10) rfl 10 (by decide) k4 (fun _ h9 => h9) rfl dX10_goes_11 ?_
    refine lv_iload_n hx hb dX10_goes_14 rfl (lv_at hl 2 rfl) ?_
    have v_19 := h.1
    have h := h.2
    refine va_iald hx hb hK hP 8 0 (aM8 Y A S10) rfl v_19 dX10_goes_15 ?_
    refine lv_bipush (v := (10 : Int32)) hx hb dX10_goes_16 (by decide) ?_
    refine lv_iload_n hx hb dX10_goes_18 rfl (lv_at hl 0 rfl) ?_
    refine lv_imul hx hb dX10_goes_19 ?_
    refine lv_icmp_ge (tgt := 50) hx hb dX10_goes_20 (by decide) (fun c20 => ?_) (fun c20 => ?_)
    · have h := h.1 c20
      refine lv_aload_n hx hb dX10_goes_50 rfl (lv_at hl 1 rfl) ?_
      refine va_get (ci := 10) (v := .ref (A 11)) (C := RX10) (T := TX10) (N := 54) hx hb hts k0 hown hK hP 0 (aM0 Y A S10) rfl 13 (by decide) k5 (fun _ h9 => h9) rfl dX10_goes_51 ?_
      refine lv_iload_n hx hb dX10_goes_54 rfl (lv_at hl 2 rfl) ?_
      refine lv_dup2_11 hx hb dX10_goes_55 rfl rfl ?_
      refine va_iald hx hb hK hP 11 0 (aM11 Y A S10) rfl v_19 dX10_goes_56 ?_
      refine lv_iconst (v := (1 : Int32)) hx hb dX10_goes_57 (by decide) ?_
      refine lv_iadd hx hb dX10_goes_58 ?_
      obtain ⟨S21, eS21⟩ : ∃ z : gS, z = sA S10 10 (upd (ga S10 10) a1.toNatClampNeg ((ga S10 10 a1.toNatClampNeg) + (1 : Int32))) := ⟨_, rfl⟩
      refine va_iast hx hb hK hP (hD S10) hS 11 0 (aM11 Y A S10) rfl v_19 dX10_goes_59 (fun H locs hP _ hS => ?_)
      have hP := uM11 eS21 hP
      have h := h S21 eS21
      exact tJ60  S21 h _ _ _ hP hS (lv_sub hl [1, 2, 3] rfl)
    · have h := h.2 c20
      refine lv_aload_n hx hb dX10_goes_23 rfl (lv_at hl 1 rfl) ?_
      refine lv_aload_n hx hb dX10_goes_24 rfl (lv_at hl 1 rfl) ?_
      refine va_get (ci := 10) (v := .ref (A 10)) (C := RX10) (T := TX10) (N := 54) hx hb hts k0 hown hK hP 0 (aM0 Y A S10) rfl 12 (by decide) k2 (fun _ h9 => h9) rfl dX10_goes_25 ?_
      refine lv_iload_n hx hb dX10_goes_28 rfl (lv_at hl 2 rfl) ?_
      refine va_iald hx hb hK hP 10 0 (aM10 Y A S10) rfl v_19 dX10_goes_29 ?_
      refine lv_aload_n hx hb dX10_goes_30 rfl (lv_at hl 1 rfl) ?_
      refine lv_iload_n hx hb dX10_goes_31 rfl (lv_at hl 3 rfl) ?_
      refine gVi (As := [.int a2]) (rest := [.int (ga S10 9 a1.toNatClampNeg), .ref (A 0)]) ⟨hx, hb, hml, hown, hts⟩ (kX10_teller l D Y A hI H.size S10 a2 _ h) (cwV 1 hts gX10_goes_X10_teller rfl rfl rfl (by decide +kernel) ⟨Nat.le_of_ble_eq_true rfl, Nat.le_of_ble_eq_true rfl⟩) hK hP hS (gF_le hS.1) (aM0 Y A S10) (show vwCl[10]? = some (RX10, TX10, 54) from rfl) rfl rfl hl.1 (Nat.le_of_ble_eq_true rfl) dX10_goes_32 ⟨Nat.zero_le _, Nat.zero_le _⟩ ?_
      intro r23 S22 H locs h hP hS
      refine gVv (As := [.int (ga S10 9 a1.toNatClampNeg), .int r23]) (rest := []) ⟨hx, hb, hml, hown, hts⟩ (kX10_partCasks l D Y A hI H.size S22 (ga S10 9 a1.toNatClampNeg) r23 _ h) (cwV 2 hts gX10_goes_X10_partCasks rfl rfl rfl (by decide +kernel) ⟨Nat.le_of_ble_eq_true rfl, Nat.le_of_ble_eq_true rfl⟩) hK hP hS (gF_le hS.1) (aM0 Y A S22) (show vwCl[10]? = some (RX10, TX10, 54) from rfl) rfl rfl hl.1 (Nat.le_of_ble_eq_true rfl) dX10_goes_35 ⟨Nat.zero_le _, Nat.zero_le _⟩ ?_
      intro S24 H locs h hP hS
      refine lv_aload_n hx hb dX10_goes_38 rfl (lv_at hl 1 rfl) ?_
      refine lv_iload_n hx hb dX10_goes_39 rfl (lv_at hl 2 rfl) ?_
      refine lv_iload_n hx hb dX10_goes_40 rfl (lv_at hl 3 rfl) ?_
      refine lv_iconst (v := (1 : Int32)) hx hb dX10_goes_41 (by decide) ?_
      refine lv_bipush (v := (-9 : Int32)) hx hb dX10_goes_42 (by decide) ?_
      refine gVv (As := [.int a1, .int a2, .int (1 : Int32), .int (-9 : Int32)]) (rest := []) ⟨hx, hb, hml, hown, hts⟩ (kX10_lot l D Y A hI H.size S24 a1 a2 (1 : Int32) (-9 : Int32) _ h) (cwV 4 hts gX10_goes_X10_lot rfl rfl rfl (by decide +kernel) ⟨Nat.le_of_ble_eq_true rfl, Nat.le_of_ble_eq_true rfl⟩) hK hP hS (gF_le hS.1) (aM0 Y A S24) (show vwCl[10]? = some (RX10, TX10, 54) from rfl) rfl rfl hl.1 (Nat.le_of_ble_eq_true rfl) dX10_goes_44 ⟨Nat.zero_le _, Nat.zero_le _⟩ ?_
      intro S25 H locs h hP hS
      refine lv_goto (tgt := 60) hx hb dX10_goes_47 (by decide) ?_
      exact tJ60  S25 h _ _ _ hP hS (lv_sub hl [1, 2, 3] rfl)

def qX10_prove_J136 (Q : gS → Prop) (K2 : Int32 × gS → Prop) (K91 : Int32 × Int32 × Int32 × gS → Prop) : Int32 × Int32 × Int32 × Int32 × gS → Prop := fun ⟨v1, v2, v3, s0, S⟩ =>
  (s0 ≤ (999 : Int32) → (vp_in v3 12 ∧ (∀ S2 : gS, S2 = sA S 16 (upd (ga S 16) v3.toNatClampNeg s0) → (∀ x4 : Int32, x4 = v3 + (1 : Int32) → (K91 (v1, v2, x4, S2)))))) ∧ (¬ s0 ≤ (999 : Int32) → (vp_in v3 12 ∧ (∀ S5 : gS, S5 = sA S 16 (upd (ga S 16) v3.toNatClampNeg (999 : Int32)) → (∀ x7 : Int32, x7 = v3 + (1 : Int32) → (K91 (v1, v2, x7, S5))))))
def qX10_prove_L91 (Q : gS → Prop) (K2 : Int32 × gS → Prop) (K91 : Int32 × Int32 × Int32 × gS → Prop) : Int32 × Int32 × Int32 × gS → Prop := fun ⟨v1, v2, v3, S⟩ =>
  ((gi S 3) ≤ v3 → (∀ x9 : Int32, x9 = v1 + (1 : Int32) → (K2 (x9, S)))) ∧ (¬ (gi S 3) ≤ v3 → (vp_in v2 6 ∧ (((ga S 27 v2.toNatClampNeg) = 0 → (∀ x12 : Int32, x12 = v1 + (1 : Int32) → (K2 (x12, S)))) ∧ (¬ (ga S 27 v2.toNatClampNeg) = 0 → (vp_in v3 12 ∧ (((ga S 13 v3.toNatClampNeg) = v2 → (qX10_prove_J136 Q K2 K91 (v1, v2, v3, ((ga S 16 v3.toNatClampNeg) + (10 : Int32)), S))) ∧ (¬ (ga S 13 v3.toNatClampNeg) = v2 → (qX10_prove_J136 Q K2 K91 (v1, v2, v3, (ga S 16 v3.toNatClampNeg), S)))))))))
def qX10_prove_J59 (Q : gS → Prop) (K2 : Int32 × gS → Prop) : Int32 × Int32 × Int32 × Int32 × Int32 × gS → Prop := fun ⟨v1, v2, s0, s1, s2, S⟩ =>
  vp_in s2 6 ∧ (∀ S15 : gS, S15 = sA S 34 (upd (ga S 34) s2.toNatClampNeg (s1 + s0)) → (vp_in v1 60 ∧ (vp_in (ga S15 31 v1.toNatClampNeg) 6 ∧ (vp_in v2 6 ∧ (((ga S15 27 v2.toNatClampNeg) = 0 → (∀ S21 : gS, S21 = sA S15 35 (upd (ga S15 35) (ga S15 31 v1.toNatClampNeg).toNatClampNeg ((ga S15 35 (ga S15 31 v1.toNatClampNeg).toNatClampNeg) + (1 : Int32))) → (lp (qX10_prove_L91 Q K2) (v1, v2, (0 : Int32), S21)))) ∧ (¬ (ga S15 27 v2.toNatClampNeg) = 0 → (∀ S22 : gS, S22 = sA S15 35 (upd (ga S15 35) (ga S15 31 v1.toNatClampNeg).toNatClampNeg ((ga S15 35 (ga S15 31 v1.toNatClampNeg).toNatClampNeg) + (0 : Int32))) → (lp (qX10_prove_L91 Q K2) (v1, v2, (0 : Int32), S22)))))))))
def qX10_prove_L2 (Q : gS → Prop) (K2 : Int32 × gS → Prop) : Int32 × gS → Prop := fun ⟨v1, S⟩ =>
  ((gi S 8) ≤ v1 → (Q S)) ∧ (¬ (gi S 8) ≤ v1 → (vp_in v1 60 ∧ (((ga S 32 v1.toNatClampNeg) = (gi S 1) → (∀ x26 : Int32, x26 = (ga S 33 v1.toNatClampNeg) → (vp_in (ga S 31 v1.toNatClampNeg) 6 ∧ (vp_in x26 6 ∧ (((ga S 27 x26.toNatClampNeg) = 0 → (qX10_prove_J59 Q K2 (v1, x26, (0 : Int32), (ga S 34 (ga S 31 v1.toNatClampNeg).toNatClampNeg), (ga S 31 v1.toNatClampNeg), S))) ∧ (¬ (ga S 27 x26.toNatClampNeg) = 0 → (qX10_prove_J59 Q K2 (v1, x26, (1 : Int32), (ga S 34 (ga S 31 v1.toNatClampNeg).toNatClampNeg), (ga S 31 v1.toNatClampNeg), S)))))))) ∧ (¬ (ga S 32 v1.toNatClampNeg) = (gi S 1) → (∀ x30 : Int32, x30 = v1 + (1 : Int32) → (K2 (x30, S)))))))
def qX10_prove (S : gS) (Q : gS → Prop) : Prop :=
  lp (qX10_prove_L2 Q) ((0 : Int32), S)
abbrev rmX10_prove : Room := { frames := 0, cells := 0, slots := 0, locals := 0 }
set_option maxHeartbeats 4000000 in
set_option maxRecDepth 100000 in
theorem kX10_prove (l : Launch) (D : va_G) (Y : Nat → ClassId) (A : Nat → Nat) (hI : iM A) (sz : Nat) (S : gS) (Q : gS → Prop) (h : qX10_prove S  Q) : Met l yX10_prove wsX10_prove rmX10_prove (gPc [.ref (A 0)] sz D vwCl (tY Y) (wM Y A S)) (va_Qv Q (fun S' t => gH D vwCl (tY Y) (wM Y A S') t) (gF A 44 sz)) 0 0 (gF A 44 sz) := by
  refine gMet_v (cc := cX10_prove) (maxL := 5) (by decide +kernel) rfl (Nat.le_of_ble_eq_true rfl) (fun p e s m args below meth c Z H locs hx hb hml hts hown hK hP hS hret ls hl => ?_)
  have hown : s.vm.findClass RX10 = some m.cls := hown
  have hl : lv_has ls 5 [(0, .ref (A 0))] := hl
  have hD : ∀ S0 : gS, va_D (gF A 44 s.heap.size) (wM Y A S0) := fun S0 => dM hI S0 (fun k hk => gF_in hk)
  have k0 : ∀ w ∈ u_ws RX10 TX10 54, w ∈ wsX10_prove := by decide +kernel
  have k1 := hts (.fieldLink RX10 62 "CoastWatchModel" "guess" "[I") (by decide +kernel)
  have k2 := hts (.fieldLink RX10 164 "CoastWatchModel" "hides" "I") (by decide +kernel)
  have k3 := hts (.fieldLink RX10 96 "CoastWatchModel" "came" "[Z") (by decide +kernel)
  have k4 := hts (.fieldLink RX10 53 "CoastWatchModel" "hideCove" "[I") (by decide +kernel)
  have k5 := hts (.fieldLink RX10 120 "CoastWatchModel" "wrong" "[I") (by decide +kernel)
  have k6 := hts (.fieldLink RX10 108 "CoastWatchModel" "wordOf" "[I") (by decide +kernel)
  have k7 := hts (.fieldLink RX10 179 "CoastWatchModel" "words" "I") (by decide +kernel)
  have k8 := hts (.fieldLink RX10 111 "CoastWatchModel" "wordNight" "[I") (by decide +kernel)
  have k9 := hts (.fieldLink RX10 173 "CoastWatchModel" "night" "I") (by decide +kernel)
  have k10 := hts (.fieldLink RX10 114 "CoastWatchModel" "wordCove" "[I") (by decide +kernel)
  have k11 := hts (.fieldLink RX10 117 "CoastWatchModel" "right" "[I") (by decide +kernel)
  have tJ136 : ∀ (K2 : Int32 × gS → Prop) (ih2 : ∀ (v1 : Int32) (S : gS), K2 (v1, S) → ∀ (H : Heap) (locs : List Loc) (ls : Array Slot), va_P D vwCl (wM Y A S) H → va_S (gF A 44 s.heap.size) s.heap H locs → lv_has ls 5 [(0, .ref (A 0)), (1, .int v1)] → W p l e rmX10_prove s m args below meth c H locs 0 0 Z (F0 m 2 ls [])) (K91 : Int32 × Int32 × Int32 × gS → Prop) (ih91 : ∀ (v1 : Int32) (v2 : Int32) (v3 : Int32) (S : gS), K91 (v1, v2, v3, S) → ∀ (H : Heap) (locs : List Loc) (ls : Array Slot), va_P D vwCl (wM Y A S) H → va_S (gF A 44 s.heap.size) s.heap H locs → lv_has ls 5 [(0, .ref (A 0)), (1, .int v1), (2, .int v2), (3, .int v3)] → W p l e rmX10_prove s m args below meth c H locs 0 0 Z (F0 m 91 ls [])) (v1 : Int32) (v2 : Int32) (v3 : Int32) (s0 : Int32) (S : gS), qX10_prove_J136 Q K2 K91 (v1, v2, v3, s0, S) → ∀ (H : Heap) (locs : List Loc) (ls : Array Slot), va_P D vwCl (wM Y A S) H → va_S (gF A 44 s.heap.size) s.heap H locs → lv_has ls 5 [(0, .ref (A 0)), (1, .int v1), (2, .int v2), (3, .int v3)] → W p l e rmX10_prove s m args below meth c H locs 0 0 Z (F0 m 136 ls [.int s0]) := by
    intro K2 ih2 K91 ih91 v1 v2 v3 s0 S h
    intro H locs ls hP hS hl
    refine lv_istore (lv' := [(4, .int s0), (0, .ref (A 0)), (1, .int v1), (2, .int v2), (3, .int v3)]) hx hb dX10_prove_136 hl (by decide) rfl (fun ls hl => ?_)
    refine lv_aload_n hx hb dX10_prove_138 rfl (lv_at hl 1 rfl) ?_
    refine va_get (ci := 10) (v := .ref (A 17)) (C := RX10) (T := TX10) (N := 54) hx hb hts k0 hown hK hP 0 (aM0 Y A S) rfl 20 (by decide) k1 (fun _ h9 => h9) rfl dX10_prove_139 ?_
    refine lv_iload_n hx hb dX10_prove_142 rfl (lv_at hl 4 rfl) ?_
    refine lv_iload hx hb dX10_prove_143 (lv_at hl 0 rfl) ?_
    refine lv_sipush (v := (999 : Int32)) hx hb dX10_prove_145 (by decide) ?_
    refine lv_icmp_le (tgt := 157) hx hb dX10_prove_148 (by decide) (fun c1 => ?_) (fun c1 => ?_)
    · have h := h.1 c1
      refine lv_iload hx hb dX10_prove_157 (lv_at hl 0 rfl) ?_
      have v_3 := h.1
      have h := h.2
      obtain ⟨S2, eS2⟩ : ∃ z : gS, z = sA S 16 (upd (ga S 16) v3.toNatClampNeg s0) := ⟨_, rfl⟩
      refine va_iast hx hb hK hP (hD S) hS 17 0 (aM17 Y A S) rfl v_3 dX10_prove_159 (fun H locs hP _ hS => ?_)
      have hP := uM17 eS2 hP
      have h := h S2 eS2
      obtain ⟨x4, ex4⟩ : ∃ z : Int32, z = v3 + (1 : Int32) := ⟨_, rfl⟩
      have h := h x4 ex4
      refine lv_iinc (v := x4) (lv' := [(3, .int x4), (4, .int s0), (0, .ref (A 0)), (1, .int v1), (2, .int v2)]) hx hb dX10_prove_160 hl (k := 4) rfl (by rw [ex4]; rfl) (by decide) rfl (fun ls hl => ?_)
      refine lv_goto (tgt := 91) hx hb dX10_prove_163 (by decide) ?_
      exact ih91 v1 v2 x4 S2 h _ _ _ hP hS (lv_sub hl [2, 3, 4, 0] rfl)
    · have h := h.2 c1
      refine lv_sipush (v := (999 : Int32)) hx hb dX10_prove_151 (by decide) ?_
      refine lv_goto (tgt := 159) hx hb dX10_prove_154 (by decide) ?_
      have v_6 := h.1
      have h := h.2
      obtain ⟨S5, eS5⟩ : ∃ z : gS, z = sA S 16 (upd (ga S 16) v3.toNatClampNeg (999 : Int32)) := ⟨_, rfl⟩
      refine va_iast hx hb hK hP (hD S) hS 17 0 (aM17 Y A S) rfl v_6 dX10_prove_159 (fun H locs hP _ hS => ?_)
      have hP := uM17 eS5 hP
      have h := h S5 eS5
      obtain ⟨x7, ex7⟩ : ∃ z : Int32, z = v3 + (1 : Int32) := ⟨_, rfl⟩
      have h := h x7 ex7
      refine lv_iinc (v := x7) (lv' := [(3, .int x7), (4, .int s0), (0, .ref (A 0)), (1, .int v1), (2, .int v2)]) hx hb dX10_prove_160 hl (k := 4) rfl (by rw [ex7]; rfl) (by decide) rfl (fun ls hl => ?_)
      refine lv_goto (tgt := 91) hx hb dX10_prove_163 (by decide) ?_
      exact ih91 v1 v2 x7 S5 h _ _ _ hP hS (lv_sub hl [2, 3, 4, 0] rfl)
  have tL91 : ∀ (K2 : Int32 × gS → Prop) (ih2 : ∀ (v1 : Int32) (S : gS), K2 (v1, S) → ∀ (H : Heap) (locs : List Loc) (ls : Array Slot), va_P D vwCl (wM Y A S) H → va_S (gF A 44 s.heap.size) s.heap H locs → lv_has ls 5 [(0, .ref (A 0)), (1, .int v1)] → W p l e rmX10_prove s m args below meth c H locs 0 0 Z (F0 m 2 ls [])) (v1 : Int32) (v2 : Int32) (v3 : Int32) (S : gS), lp (qX10_prove_L91 Q K2) (v1, v2, v3, S) → ∀ (H : Heap) (locs : List Loc) (ls : Array Slot), va_P D vwCl (wM Y A S) H → va_S (gF A 44 s.heap.size) s.heap H locs → lv_has ls 5 [(0, .ref (A 0)), (1, .int v1), (2, .int v2), (3, .int v3)] → W p l e rmX10_prove s m args below meth c H locs 0 0 Z (F0 m 91 ls []) := by
    intro K2 ih2 v1 v2 v3 S h
    refine lp_walk (G := fun a => match a with | (v1, v2, v3, S) => ∀ (H : Heap) (locs : List Loc) (ls : Array Slot), va_P D vwCl (wM Y A S) H → va_S (gF A 44 s.heap.size) s.heap H locs → lv_has ls 5 [(0, .ref (A 0)), (1, .int v1), (2, .int v2), (3, .int v3)] → W p l e rmX10_prove s m args below meth c H locs 0 0 Z (F0 m 91 ls [])) (fun K91 a ih91 h => ?_) (v1, v2, v3, S) h
    obtain ⟨v1, v2, v3, S⟩ := a
    have ih91 : ∀ (v1 : Int32) (v2 : Int32) (v3 : Int32) (S : gS), K91 (v1, v2, v3, S) → ∀ (H : Heap) (locs : List Loc) (ls : Array Slot), va_P D vwCl (wM Y A S) H → va_S (gF A 44 s.heap.size) s.heap H locs → lv_has ls 5 [(0, .ref (A 0)), (1, .int v1), (2, .int v2), (3, .int v3)] → W p l e rmX10_prove s m args below meth c H locs 0 0 Z (F0 m 91 ls []) := fun v1 v2 v3 S q => ih91 (v1, v2, v3, S) q
    intro H locs ls hP hS hl
    refine lv_iload_n hx hb dX10_prove_91 rfl (lv_at hl 3 rfl) ?_
    refine lv_aload_n hx hb dX10_prove_92 rfl (lv_at hl 0 rfl) ?_
    refine va_get (ci := 10) (v := .int (gi S 3)) (C := RX10) (T := TX10) (N := 54) hx hb hts k0 hown hK hP 0 (aM0 Y A S) rfl 16 (by decide) k2 (fun _ h9 => h9) rfl dX10_prove_93 ?_
    refine lv_icmp_ge (tgt := 166) hx hb dX10_prove_96 (by decide) (fun c8 => ?_) (fun c8 => ?_)
    · have h := h.1 c8
      obtain ⟨x9, ex9⟩ : ∃ z : Int32, z = v1 + (1 : Int32) := ⟨_, rfl⟩
      have h := h x9 ex9
      refine lv_iinc (v := x9) (lv' := [(1, .int x9), (0, .ref (A 0)), (2, .int v2), (3, .int v3)]) hx hb dX10_prove_166 hl (k := 1) rfl (by rw [ex9]; rfl) (by decide) rfl (fun ls hl => ?_)
      refine lv_goto (tgt := 2) hx hb dX10_prove_169 (by decide) ?_
      exact ih2 x9 S h _ _ _ hP hS (lv_sub hl [1, 0] rfl)
    · have h := h.2 c8
      refine lv_aload_n hx hb dX10_prove_99 rfl (lv_at hl 0 rfl) ?_
      refine va_get (ci := 10) (v := .ref (A 28)) (C := RX10) (T := TX10) (N := 54) hx hb hts k0 hown hK hP 0 (aM0 Y A S) rfl 32 (by decide) k3 (fun _ h9 => h9) rfl dX10_prove_100 ?_
      refine lv_iload_n hx hb dX10_prove_103 rfl (lv_at hl 2 rfl) ?_
      have v_10 := h.1
      have h := h.2
      refine va_zald hx hb hK hP 28 1 (aM28 Y A S) rfl v_10 dX10_prove_104 ?_
      refine lv_if_eq (tgt := 166) hx hb dX10_prove_105 (by decide) (fun c11 => ?_) (fun c11 => ?_)
      · have h := h.1 c11
        obtain ⟨x12, ex12⟩ : ∃ z : Int32, z = v1 + (1 : Int32) := ⟨_, rfl⟩
        have h := h x12 ex12
        refine lv_iinc (v := x12) (lv' := [(1, .int x12), (0, .ref (A 0)), (2, .int v2), (3, .int v3)]) hx hb dX10_prove_166 hl (k := 1) rfl (by rw [ex12]; rfl) (by decide) rfl (fun ls hl => ?_)
        refine lv_goto (tgt := 2) hx hb dX10_prove_169 (by decide) ?_
        exact ih2 x12 S h _ _ _ hP hS (lv_sub hl [1, 0] rfl)
      · have h := h.2 c11
        refine lv_aload_n hx hb dX10_prove_108 rfl (lv_at hl 0 rfl) ?_
        refine va_get (ci := 10) (v := .ref (A 14)) (C := RX10) (T := TX10) (N := 54) hx hb hts k0 hown hK hP 0 (aM0 Y A S) rfl 17 (by decide) k4 (fun _ h9 => h9) rfl dX10_prove_109 ?_
        refine lv_iload_n hx hb dX10_prove_112 rfl (lv_at hl 3 rfl) ?_
        have v_13 := h.1
        have h := h.2
        refine va_iald hx hb hK hP 14 0 (aM14 Y A S) rfl v_13 dX10_prove_113 ?_
        refine lv_iload_n hx hb dX10_prove_114 rfl (lv_at hl 2 rfl) ?_
        refine lv_icmp_ne (tgt := 130) hx hb dX10_prove_115 (by decide) (fun c14 => ?_) (fun c14 => ?_)
        · have h := h.2 c14
          refine lv_aload_n hx hb dX10_prove_130 rfl (lv_at hl 0 rfl) ?_
          refine va_get (ci := 10) (v := .ref (A 17)) (C := RX10) (T := TX10) (N := 54) hx hb hts k0 hown hK hP 0 (aM0 Y A S) rfl 20 (by decide) k1 (fun _ h9 => h9) rfl dX10_prove_131 ?_
          refine lv_iload_n hx hb dX10_prove_134 rfl (lv_at hl 3 rfl) ?_
          refine va_iald hx hb hK hP 17 0 (aM17 Y A S) rfl v_13 dX10_prove_135 ?_
          exact tJ136 K2 ih2 K91 ih91 v1 v2 v3 (ga S 16 v3.toNatClampNeg) S h _ _ _ hP hS (lv_sub hl [0, 1, 2, 3] rfl)
        · have h := h.1 c14
          refine lv_aload_n hx hb dX10_prove_118 rfl (lv_at hl 0 rfl) ?_
          refine va_get (ci := 10) (v := .ref (A 17)) (C := RX10) (T := TX10) (N := 54) hx hb hts k0 hown hK hP 0 (aM0 Y A S) rfl 20 (by decide) k1 (fun _ h9 => h9) rfl dX10_prove_119 ?_
          refine lv_iload_n hx hb dX10_prove_122 rfl (lv_at hl 3 rfl) ?_
          refine va_iald hx hb hK hP 17 0 (aM17 Y A S) rfl v_13 dX10_prove_123 ?_
          refine lv_bipush (v := (10 : Int32)) hx hb dX10_prove_124 (by decide) ?_
          refine lv_iadd hx hb dX10_prove_126 ?_
          refine lv_goto (tgt := 136) hx hb dX10_prove_127 (by decide) ?_
          exact tJ136 K2 ih2 K91 ih91 v1 v2 v3 ((ga S 16 v3.toNatClampNeg) + (10 : Int32)) S h _ _ _ hP hS (lv_sub hl [0, 1, 2, 3] rfl)
  have tJ59 : ∀ (K2 : Int32 × gS → Prop) (ih2 : ∀ (v1 : Int32) (S : gS), K2 (v1, S) → ∀ (H : Heap) (locs : List Loc) (ls : Array Slot), va_P D vwCl (wM Y A S) H → va_S (gF A 44 s.heap.size) s.heap H locs → lv_has ls 5 [(0, .ref (A 0)), (1, .int v1)] → W p l e rmX10_prove s m args below meth c H locs 0 0 Z (F0 m 2 ls [])) (v1 : Int32) (v2 : Int32) (s0 : Int32) (s1 : Int32) (s2 : Int32) (S : gS), qX10_prove_J59 Q K2 (v1, v2, s0, s1, s2, S) → ∀ (H : Heap) (locs : List Loc) (ls : Array Slot), va_P D vwCl (wM Y A S) H → va_S (gF A 44 s.heap.size) s.heap H locs → lv_has ls 5 [(0, .ref (A 0)), (1, .int v1), (2, .int v2)] → W p l e rmX10_prove s m args below meth c H locs 0 0 Z (F0 m 59 ls [.int s0, .int s1, .int s2, .ref (A 35)]) := by
    intro K2 ih2 v1 v2 s0 s1 s2 S h
    intro H locs ls hP hS hl
    refine lv_iadd hx hb dX10_prove_59 ?_
    have v_16 := h.1
    have h := h.2
    obtain ⟨S15, eS15⟩ : ∃ z : gS, z = sA S 34 (upd (ga S 34) s2.toNatClampNeg (s1 + s0)) := ⟨_, rfl⟩
    refine va_iast hx hb hK hP (hD S) hS 35 0 (aM35 Y A S) rfl v_16 dX10_prove_60 (fun H locs hP _ hS => ?_)
    have hP := uM35 eS15 hP
    have h := h S15 eS15
    refine lv_aload_n hx hb dX10_prove_61 rfl (lv_at hl 0 rfl) ?_
    refine va_get (ci := 10) (v := .ref (A 36)) (C := RX10) (T := TX10) (N := 54) hx hb hts k0 hown hK hP 0 (aM0 Y A S15) rfl 44 (by decide) k5 (fun _ h9 => h9) rfl dX10_prove_62 ?_
    refine lv_aload_n hx hb dX10_prove_65 rfl (lv_at hl 0 rfl) ?_
    refine va_get (ci := 10) (v := .ref (A 32)) (C := RX10) (T := TX10) (N := 54) hx hb hts k0 hown hK hP 0 (aM0 Y A S15) rfl 40 (by decide) k6 (fun _ h9 => h9) rfl dX10_prove_66 ?_
    refine lv_iload_n hx hb dX10_prove_69 rfl (lv_at hl 1 rfl) ?_
    have v_17 := h.1
    have h := h.2
    refine va_iald hx hb hK hP 32 0 (aM32 Y A S15) rfl v_17 dX10_prove_70 ?_
    refine lv_dup2_11 hx hb dX10_prove_71 rfl rfl ?_
    have v_18 := h.1
    have h := h.2
    refine va_iald hx hb hK hP 36 0 (aM36 Y A S15) rfl v_18 dX10_prove_72 ?_
    refine lv_aload_n hx hb dX10_prove_73 rfl (lv_at hl 0 rfl) ?_
    refine va_get (ci := 10) (v := .ref (A 28)) (C := RX10) (T := TX10) (N := 54) hx hb hts k0 hown hK hP 0 (aM0 Y A S15) rfl 32 (by decide) k3 (fun _ h9 => h9) rfl dX10_prove_74 ?_
    refine lv_iload_n hx hb dX10_prove_77 rfl (lv_at hl 2 rfl) ?_
    have v_19 := h.1
    have h := h.2
    refine va_zald hx hb hK hP 28 1 (aM28 Y A S15) rfl v_19 dX10_prove_78 ?_
    refine lv_if_eq (tgt := 86) hx hb dX10_prove_79 (by decide) (fun c20 => ?_) (fun c20 => ?_)
    · have h := h.1 c20
      refine lv_iconst (v := (1 : Int32)) hx hb dX10_prove_86 (by decide) ?_
      refine lv_iadd hx hb dX10_prove_87 ?_
      obtain ⟨S21, eS21⟩ : ∃ z : gS, z = sA S15 35 (upd (ga S15 35) (ga S15 31 v1.toNatClampNeg).toNatClampNeg ((ga S15 35 (ga S15 31 v1.toNatClampNeg).toNatClampNeg) + (1 : Int32))) := ⟨_, rfl⟩
      refine va_iast hx hb hK hP (hD S15) hS 36 0 (aM36 Y A S15) rfl v_18 dX10_prove_88 (fun H locs hP _ hS => ?_)
      have hP := uM36 eS21 hP
      have h := h S21 eS21
      refine lv_iconst (v := (0 : Int32)) hx hb dX10_prove_89 (by decide) ?_
      refine lv_istore_n (lv' := [(3, .int (0 : Int32)), (0, .ref (A 0)), (1, .int v1), (2, .int v2)]) hx hb dX10_prove_90 rfl hl (by decide) rfl (fun ls hl => ?_)
      exact tL91 K2 ih2 v1 v2 (0 : Int32) S21 h _ _ _ hP hS (lv_sub hl [1, 2, 3, 0] rfl)
    · have h := h.2 c20
      refine lv_iconst (v := (0 : Int32)) hx hb dX10_prove_82 (by decide) ?_
      refine lv_goto (tgt := 87) hx hb dX10_prove_83 (by decide) ?_
      refine lv_iadd hx hb dX10_prove_87 ?_
      obtain ⟨S22, eS22⟩ : ∃ z : gS, z = sA S15 35 (upd (ga S15 35) (ga S15 31 v1.toNatClampNeg).toNatClampNeg ((ga S15 35 (ga S15 31 v1.toNatClampNeg).toNatClampNeg) + (0 : Int32))) := ⟨_, rfl⟩
      refine va_iast hx hb hK hP (hD S15) hS 36 0 (aM36 Y A S15) rfl v_18 dX10_prove_88 (fun H locs hP _ hS => ?_)
      have hP := uM36 eS22 hP
      have h := h S22 eS22
      refine lv_iconst (v := (0 : Int32)) hx hb dX10_prove_89 (by decide) ?_
      refine lv_istore_n (lv' := [(3, .int (0 : Int32)), (0, .ref (A 0)), (1, .int v1), (2, .int v2)]) hx hb dX10_prove_90 rfl hl (by decide) rfl (fun ls hl => ?_)
      exact tL91 K2 ih2 v1 v2 (0 : Int32) S22 h _ _ _ hP hS (lv_sub hl [1, 2, 3, 0] rfl)
  have tL2 : ∀ (v1 : Int32) (S : gS), lp (qX10_prove_L2 Q) (v1, S) → ∀ (H : Heap) (locs : List Loc) (ls : Array Slot), va_P D vwCl (wM Y A S) H → va_S (gF A 44 s.heap.size) s.heap H locs → lv_has ls 5 [(0, .ref (A 0)), (1, .int v1)] → W p l e rmX10_prove s m args below meth c H locs 0 0 Z (F0 m 2 ls []) := by
    intro  v1 S h
    refine lp_walk (G := fun a => match a with | (v1, S) => ∀ (H : Heap) (locs : List Loc) (ls : Array Slot), va_P D vwCl (wM Y A S) H → va_S (gF A 44 s.heap.size) s.heap H locs → lv_has ls 5 [(0, .ref (A 0)), (1, .int v1)] → W p l e rmX10_prove s m args below meth c H locs 0 0 Z (F0 m 2 ls [])) (fun K2 a ih2 h => ?_) (v1, S) h
    obtain ⟨v1, S⟩ := a
    have ih2 : ∀ (v1 : Int32) (S : gS), K2 (v1, S) → ∀ (H : Heap) (locs : List Loc) (ls : Array Slot), va_P D vwCl (wM Y A S) H → va_S (gF A 44 s.heap.size) s.heap H locs → lv_has ls 5 [(0, .ref (A 0)), (1, .int v1)] → W p l e rmX10_prove s m args below meth c H locs 0 0 Z (F0 m 2 ls []) := fun v1 S q => ih2 (v1, S) q
    intro H locs ls hP hS hl
    refine lv_iload_n hx hb dX10_prove_2 rfl (lv_at hl 1 rfl) ?_
    refine lv_aload_n hx hb dX10_prove_3 rfl (lv_at hl 0 rfl) ?_
    refine va_get (ci := 10) (v := .int (gi S 8)) (C := RX10) (T := TX10) (N := 54) hx hb hts k0 hown hK hP 0 (aM0 Y A S) rfl 39 (by decide) k7 (fun _ h9 => h9) rfl dX10_prove_4 ?_
    refine lv_icmp_ge (tgt := 172) hx hb dX10_prove_7 (by decide) (fun c23 => ?_) (fun c23 => ?_)
    · have h := h.1 c23
      exact hret _ _ _ _ _ dX10_prove_172 h hP hS
    · have h := h.2 c23
      refine lv_aload_n hx hb dX10_prove_10 rfl (lv_at hl 0 rfl) ?_
      refine va_get (ci := 10) (v := .ref (A 33)) (C := RX10) (T := TX10) (N := 54) hx hb hts k0 hown hK hP 0 (aM0 Y A S) rfl 41 (by decide) k8 (fun _ h9 => h9) rfl dX10_prove_11 ?_
      refine lv_iload_n hx hb dX10_prove_14 rfl (lv_at hl 1 rfl) ?_
      have v_24 := h.1
      have h := h.2
      refine va_iald hx hb hK hP 33 0 (aM33 Y A S) rfl v_24 dX10_prove_15 ?_
      refine lv_aload_n hx hb dX10_prove_16 rfl (lv_at hl 0 rfl) ?_
      refine va_get (ci := 10) (v := .int (gi S 1)) (C := RX10) (T := TX10) (N := 54) hx hb hts k0 hown hK hP 0 (aM0 Y A S) rfl 1 (by decide) k9 (fun _ h9 => h9) rfl dX10_prove_17 ?_
      refine lv_icmp_eq (tgt := 26) hx hb dX10_prove_20 (by decide) (fun c25 => ?_) (fun c25 => ?_)
      · have h := h.1 c25
        refine lv_aload_n hx hb dX10_prove_26 rfl (lv_at hl 0 rfl) ?_
        refine va_get (ci := 10) (v := .ref (A 34)) (C := RX10) (T := TX10) (N := 54) hx hb hts k0 hown hK hP 0 (aM0 Y A S) rfl 42 (by decide) k10 (fun _ h9 => h9) rfl dX10_prove_27 ?_
        refine lv_iload_n hx hb dX10_prove_30 rfl (lv_at hl 1 rfl) ?_
        refine va_iald hx hb hK hP 34 0 (aM34 Y A S) rfl v_24 dX10_prove_31 ?_
        refine lv_topi (fun x26 ex26 => ?_)
        have h := h x26 ex26
        refine lv_istore_n (lv' := [(2, .int x26), (0, .ref (A 0)), (1, .int v1)]) hx hb dX10_prove_32 rfl hl (by decide) rfl (fun ls hl => ?_)
        refine lv_aload_n hx hb dX10_prove_33 rfl (lv_at hl 1 rfl) ?_
        refine va_get (ci := 10) (v := .ref (A 35)) (C := RX10) (T := TX10) (N := 54) hx hb hts k0 hown hK hP 0 (aM0 Y A S) rfl 43 (by decide) k11 (fun _ h9 => h9) rfl dX10_prove_34 ?_
        refine lv_aload_n hx hb dX10_prove_37 rfl (lv_at hl 1 rfl) ?_
        refine va_get (ci := 10) (v := .ref (A 32)) (C := RX10) (T := TX10) (N := 54) hx hb hts k0 hown hK hP 0 (aM0 Y A S) rfl 40 (by decide) k6 (fun _ h9 => h9) rfl dX10_prove_38 ?_
        refine lv_iload_n hx hb dX10_prove_41 rfl (lv_at hl 2 rfl) ?_
        refine va_iald hx hb hK hP 32 0 (aM32 Y A S) rfl v_24 dX10_prove_42 ?_
        refine lv_dup2_11 hx hb dX10_prove_43 rfl rfl ?_
        have v_27 := h.1
        have h := h.2
        refine va_iald hx hb hK hP 35 0 (aM35 Y A S) rfl v_27 dX10_prove_44 ?_
        refine lv_aload_n hx hb dX10_prove_45 rfl (lv_at hl 1 rfl) ?_
        refine va_get (ci := 10) (v := .ref (A 28)) (C := RX10) (T := TX10) (N := 54) hx hb hts k0 hown hK hP 0 (aM0 Y A S) rfl 32 (by decide) k3 (fun _ h9 => h9) rfl dX10_prove_46 ?_
        refine lv_iload_n hx hb dX10_prove_49 rfl (lv_at hl 0 rfl) ?_
        have v_28 := h.1
        have h := h.2
        refine va_zald hx hb hK hP 28 1 (aM28 Y A S) rfl v_28 dX10_prove_50 ?_
        refine lv_if_eq (tgt := 58) hx hb dX10_prove_51 (by decide) (fun c29 => ?_) (fun c29 => ?_)
        · have h := h.1 c29
          refine lv_iconst (v := (0 : Int32)) hx hb dX10_prove_58 (by decide) ?_
          exact tJ59 K2 ih2 v1 x26 (0 : Int32) (ga S 34 (ga S 31 v1.toNatClampNeg).toNatClampNeg) (ga S 31 v1.toNatClampNeg) S h _ _ _ hP hS (lv_sub hl [1, 2, 0] rfl)
        · have h := h.2 c29
          refine lv_iconst (v := (1 : Int32)) hx hb dX10_prove_54 (by decide) ?_
          refine lv_goto (tgt := 59) hx hb dX10_prove_55 (by decide) ?_
          exact tJ59 K2 ih2 v1 x26 (1 : Int32) (ga S 34 (ga S 31 v1.toNatClampNeg).toNatClampNeg) (ga S 31 v1.toNatClampNeg) S h _ _ _ hP hS (lv_sub hl [1, 2, 0] rfl)
      · have h := h.2 c25
        refine lv_goto (tgt := 166) hx hb dX10_prove_23 (by decide) ?_
        obtain ⟨x30, ex30⟩ : ∃ z : Int32, z = v1 + (1 : Int32) := ⟨_, rfl⟩
        have h := h x30 ex30
        refine lv_iinc (v := x30) (lv' := [(1, .int x30), (0, .ref (A 0))]) hx hb dX10_prove_166 hl (k := 1) rfl (by rw [ex30]; rfl) (by decide) rfl (fun ls hl => ?_)
        refine lv_goto (tgt := 2) hx hb dX10_prove_169 (by decide) ?_
        exact ih2 x30 S h _ _ _ hP hS (lv_sub hl [1, 0] rfl)
  refine lv_iconst (v := (0 : Int32)) hx hb dX10_prove_0 (by decide) ?_
  refine lv_istore_n (lv' := [(1, .int (0 : Int32)), (0, .ref (A 0))]) hx hb dX10_prove_1 rfl hl (by decide) rfl (fun ls hl => ?_)
  exact tL2  (0 : Int32) S h _ _ _ hP hS (lv_sub hl [1, 0] rfl)

def qX10_pass_L91 (Q : gS → Prop) (K91 : Int32 × gS → Prop) : Int32 × gS → Prop := fun ⟨v1, S⟩ =>
  ((48 : Int32) ≤ v1 → (qX10_prove S (fun S2 => Q S2))) ∧ (¬ (48 : Int32) ≤ v1 → (vp_in v1 48 ∧ (((ga S 12 v1.toNatClampNeg) ≤ 0 → (∀ S5 : gS, S5 = sA S 12 (upd (ga S 12) v1.toNatClampNeg ((ga S 12 v1.toNatClampNeg) - (0 : Int32))) → (∀ x6 : Int32, x6 = v1 + (1 : Int32) → (K91 (x6, S5))))) ∧ (¬ (ga S 12 v1.toNatClampNeg) ≤ 0 → (∀ S7 : gS, S7 = sA S 12 (upd (ga S 12) v1.toNatClampNeg ((ga S 12 v1.toNatClampNeg) - (1 : Int32))) → (∀ x8 : Int32, x8 = v1 + (1 : Int32) → (K91 (x8, S7))))))))
def qX10_pass_J72 (Q : gS → Prop) (K37 : Int32 × gS → Prop) : Int32 × Int32 × gS → Prop := fun ⟨v1, s0, S⟩ =>
  (s0 < 0 → (∀ x10 : Int32, x10 = v1 + (1 : Int32) → (K37 (x10, S)))) ∧ (¬ s0 < 0 → (qX10_goes S v1 s0 (fun S11 => ∀ x12 : Int32, x12 = v1 + (1 : Int32) → (K37 (x12, S11)))))
def qX10_pass_J71 (Q : gS → Prop) (K37 : Int32 × gS → Prop) : Int32 × gS → Prop := fun ⟨v1, S⟩ =>
  qX10_pass_J72 Q K37 (v1, (-1 : Int32), S)
def qX10_pass_L37 (Q : gS → Prop) (K37 : Int32 × gS → Prop) : Int32 × gS → Prop := fun ⟨v1, S⟩ =>
  ((gi S 2) ≤ v1 → (lp (qX10_pass_L91 Q) ((0 : Int32), S))) ∧ (¬ (gi S 2) ≤ v1 → (vp_in v1 8 ∧ (((ga S 9 v1.toNatClampNeg) ≤ 0 → (qX10_pass_J71 Q K37 (v1, S))) ∧ (¬ (ga S 9 v1.toNatClampNeg) ≤ 0 → (((100 : Int32) ≤ (gi S 4) → (qX10_pass_J71 Q K37 (v1, S))) ∧ (¬ (100 : Int32) ≤ (gi S 4) → (qX10_choice S v1 (fun r18 S17 => qX10_pass_J72 Q K37 (v1, r18, S17)))))))))
def qX10_pass_L16 (Q : gS → Prop) (K16 : Int32 × gS → Prop) : Int32 × gS → Prop := fun ⟨v1, S⟩ =>
  ((6 : Int32) ≤ v1 → (lp (qX10_pass_L37 Q) ((0 : Int32), S))) ∧ (¬ (6 : Int32) ≤ v1 → (vp_in v1 6 ∧ (∀ S20 : gS, S20 = sA S 27 (upd (ga S 27) v1.toNatClampNeg (vp_nar .boolean (0 : Int32))) → (∀ x22 : Int32, x22 = v1 + (1 : Int32) → (K16 (x22, S20))))))
def qX10_pass (S : gS) (Q : gS → Prop) : Prop :=
  ∀ S23 : gS, S23 = sI S 1 ((gi S 1) + (1 : Int32)) → (qX10_watch S23 (fun S24 => lp (qX10_pass_L16 Q) ((0 : Int32), S24)))
abbrev rmX10_pass : Room := { frames := 3, cells := 0, slots := 0, locals := 70 }
set_option maxHeartbeats 4000000 in
set_option maxRecDepth 100000 in
theorem kX10_pass (l : Launch) (D : va_G) (Y : Nat → ClassId) (A : Nat → Nat) (hI : iM A) (sz : Nat) (S : gS) (Q : gS → Prop) (h : qX10_pass S  Q) : Met l yX10_pass wsX10_pass rmX10_pass (gPc [.ref (A 0)] sz D vwCl (tY Y) (wM Y A S)) (va_Qv Q (fun S' t => gH D vwCl (tY Y) (wM Y A S') t) (gF A 44 sz)) 0 0 (gF A 44 sz) := by
  refine gMet_v (cc := cX10_pass) (maxL := 3) (by decide +kernel) rfl (Nat.le_of_ble_eq_true rfl) (fun p e s m args below meth c Z H locs hx hb hml hts hown hK hP hS hret ls hl => ?_)
  have hown : s.vm.findClass RX10 = some m.cls := hown
  have hl : lv_has ls 3 [(0, .ref (A 0))] := hl
  have hD : ∀ S0 : gS, va_D (gF A 44 s.heap.size) (wM Y A S0) := fun S0 => dM hI S0 (fun k hk => gF_in hk)
  have k0 : ∀ w ∈ u_ws RX10 TX10 54, w ∈ wsX10_pass := by decide +kernel
  have k1 := hts (.fieldLink RX10 50 "CoastWatchModel" "fear" "[I") (by decide +kernel)
  have k2 := hts (.fieldLink RX10 161 "CoastWatchModel" "boats" "I") (by decide +kernel)
  have k3 := hts (.fieldLink RX10 41 "CoastWatchModel" "aboard" "[I") (by decide +kernel)
  have k4 := hts (.fieldLink RX10 189 "CoastWatchModel" "lots" "I") (by decide +kernel)
  have k5 := hts (.fieldLink RX10 96 "CoastWatchModel" "came" "[Z") (by decide +kernel)
  have k6 := hts (.fieldLink RX10 173 "CoastWatchModel" "night" "I") (by decide +kernel)
  have tL91 : ∀ (v1 : Int32) (S : gS), lp (qX10_pass_L91 Q) (v1, S) → ∀ (H : Heap) (locs : List Loc) (ls : Array Slot), va_P D vwCl (wM Y A S) H → va_S (gF A 44 s.heap.size) s.heap H locs → lv_has ls 3 [(0, .ref (A 0)), (1, .int v1)] → W p l e rmX10_pass s m args below meth c H locs 0 0 Z (F0 m 91 ls []) := by
    intro  v1 S h
    refine lp_walk (G := fun a => match a with | (v1, S) => ∀ (H : Heap) (locs : List Loc) (ls : Array Slot), va_P D vwCl (wM Y A S) H → va_S (gF A 44 s.heap.size) s.heap H locs → lv_has ls 3 [(0, .ref (A 0)), (1, .int v1)] → W p l e rmX10_pass s m args below meth c H locs 0 0 Z (F0 m 91 ls [])) (fun K91 a ih91 h => ?_) (v1, S) h
    obtain ⟨v1, S⟩ := a
    have ih91 : ∀ (v1 : Int32) (S : gS), K91 (v1, S) → ∀ (H : Heap) (locs : List Loc) (ls : Array Slot), va_P D vwCl (wM Y A S) H → va_S (gF A 44 s.heap.size) s.heap H locs → lv_has ls 3 [(0, .ref (A 0)), (1, .int v1)] → W p l e rmX10_pass s m args below meth c H locs 0 0 Z (F0 m 91 ls []) := fun v1 S q => ih91 (v1, S) q
    intro H locs ls hP hS hl
    refine lv_iload_n hx hb dX10_pass_91 rfl (lv_at hl 1 rfl) ?_
    refine lv_bipush (v := (48 : Int32)) hx hb dX10_pass_92 (by decide) ?_
    refine lv_icmp_ge (tgt := 126) hx hb dX10_pass_94 (by decide) (fun c1 => ?_) (fun c1 => ?_)
    · have h := h.1 c1
      refine lv_aload_n hx hb dX10_pass_126 rfl (lv_at hl 0 rfl) ?_
      refine gVv (As := []) (rest := []) ⟨hx, hb, hml, hown, hts⟩ (kX10_prove l D Y A hI H.size S  _ h) (cwV 0 hts gX10_pass_X10_prove rfl rfl rfl (by decide +kernel) ⟨Nat.le_of_ble_eq_true rfl, Nat.le_of_ble_eq_true rfl⟩) hK hP hS (gF_le hS.1) (aM0 Y A S) (show vwCl[10]? = some (RX10, TX10, 54) from rfl) rfl rfl hl.1 (Nat.le_of_ble_eq_true rfl) dX10_pass_127 ⟨Nat.zero_le _, Nat.zero_le _⟩ ?_
      intro S2 H locs h hP hS
      exact hret _ _ _ _ _ dX10_pass_130 h hP hS
    · have h := h.2 c1
      refine lv_aload_n hx hb dX10_pass_97 rfl (lv_at hl 0 rfl) ?_
      refine va_get (ci := 10) (v := .ref (A 13)) (C := RX10) (T := TX10) (N := 54) hx hb hts k0 hown hK hP 0 (aM0 Y A S) rfl 15 (by decide) k1 (fun _ h9 => h9) rfl dX10_pass_98 ?_
      refine lv_iload_n hx hb dX10_pass_101 rfl (lv_at hl 1 rfl) ?_
      refine lv_dup2_11 hx hb dX10_pass_102 rfl rfl ?_
      have v_3 := h.1
      have h := h.2
      refine va_iald hx hb hK hP 13 0 (aM13 Y A S) rfl v_3 dX10_pass_103 ?_
      refine lv_aload_n hx hb dX10_pass_104 rfl (lv_at hl 0 rfl) ?_
      refine va_get (ci := 10) (v := .ref (A 13)) (C := RX10) (T := TX10) (N := 54) hx hb hts k0 hown hK hP 0 (aM0 Y A S) rfl 15 (by decide) k1 (fun _ h9 => h9) rfl dX10_pass_105 ?_
      refine lv_iload_n hx hb dX10_pass_108 rfl (lv_at hl 1 rfl) ?_
      refine va_iald hx hb hK hP 13 0 (aM13 Y A S) rfl v_3 dX10_pass_109 ?_
      refine lv_if_le (tgt := 117) hx hb dX10_pass_110 (by decide) (fun c4 => ?_) (fun c4 => ?_)
      · have h := h.1 c4
        refine lv_iconst (v := (0 : Int32)) hx hb dX10_pass_117 (by decide) ?_
        refine lv_isub hx hb dX10_pass_118 ?_
        obtain ⟨S5, eS5⟩ : ∃ z : gS, z = sA S 12 (upd (ga S 12) v1.toNatClampNeg ((ga S 12 v1.toNatClampNeg) - (0 : Int32))) := ⟨_, rfl⟩
        refine va_iast hx hb hK hP (hD S) hS 13 0 (aM13 Y A S) rfl v_3 dX10_pass_119 (fun H locs hP _ hS => ?_)
        have hP := uM13 eS5 hP
        have h := h S5 eS5
        obtain ⟨x6, ex6⟩ : ∃ z : Int32, z = v1 + (1 : Int32) := ⟨_, rfl⟩
        have h := h x6 ex6
        refine lv_iinc (v := x6) (lv' := [(1, .int x6), (0, .ref (A 0))]) hx hb dX10_pass_120 hl (k := 1) rfl (by rw [ex6]; rfl) (by decide) rfl (fun ls hl => ?_)
        refine lv_goto (tgt := 91) hx hb dX10_pass_123 (by decide) ?_
        exact ih91 x6 S5 h _ _ _ hP hS (lv_sub hl [1, 0] rfl)
      · have h := h.2 c4
        refine lv_iconst (v := (1 : Int32)) hx hb dX10_pass_113 (by decide) ?_
        refine lv_goto (tgt := 118) hx hb dX10_pass_114 (by decide) ?_
        refine lv_isub hx hb dX10_pass_118 ?_
        obtain ⟨S7, eS7⟩ : ∃ z : gS, z = sA S 12 (upd (ga S 12) v1.toNatClampNeg ((ga S 12 v1.toNatClampNeg) - (1 : Int32))) := ⟨_, rfl⟩
        refine va_iast hx hb hK hP (hD S) hS 13 0 (aM13 Y A S) rfl v_3 dX10_pass_119 (fun H locs hP _ hS => ?_)
        have hP := uM13 eS7 hP
        have h := h S7 eS7
        obtain ⟨x8, ex8⟩ : ∃ z : Int32, z = v1 + (1 : Int32) := ⟨_, rfl⟩
        have h := h x8 ex8
        refine lv_iinc (v := x8) (lv' := [(1, .int x8), (0, .ref (A 0))]) hx hb dX10_pass_120 hl (k := 1) rfl (by rw [ex8]; rfl) (by decide) rfl (fun ls hl => ?_)
        refine lv_goto (tgt := 91) hx hb dX10_pass_123 (by decide) ?_
        exact ih91 x8 S7 h _ _ _ hP hS (lv_sub hl [1, 0] rfl)
  have tJ72 : ∀ (K37 : Int32 × gS → Prop) (ih37 : ∀ (v1 : Int32) (S : gS), K37 (v1, S) → ∀ (H : Heap) (locs : List Loc) (ls : Array Slot), va_P D vwCl (wM Y A S) H → va_S (gF A 44 s.heap.size) s.heap H locs → lv_has ls 3 [(0, .ref (A 0)), (1, .int v1)] → W p l e rmX10_pass s m args below meth c H locs 0 0 Z (F0 m 37 ls [])) (v1 : Int32) (s0 : Int32) (S : gS), qX10_pass_J72 Q K37 (v1, s0, S) → ∀ (H : Heap) (locs : List Loc) (ls : Array Slot), va_P D vwCl (wM Y A S) H → va_S (gF A 44 s.heap.size) s.heap H locs → lv_has ls 3 [(0, .ref (A 0)), (1, .int v1)] → W p l e rmX10_pass s m args below meth c H locs 0 0 Z (F0 m 72 ls [.int s0]) := by
    intro K37 ih37 v1 s0 S h
    intro H locs ls hP hS hl
    refine lv_istore_n (lv' := [(2, .int s0), (0, .ref (A 0)), (1, .int v1)]) hx hb dX10_pass_72 rfl hl (by decide) rfl (fun ls hl => ?_)
    refine lv_iload_n hx hb dX10_pass_73 rfl (lv_at hl 0 rfl) ?_
    refine lv_if_lt (tgt := 83) hx hb dX10_pass_74 (by decide) (fun c9 => ?_) (fun c9 => ?_)
    · have h := h.1 c9
      obtain ⟨x10, ex10⟩ : ∃ z : Int32, z = v1 + (1 : Int32) := ⟨_, rfl⟩
      have h := h x10 ex10
      refine lv_iinc (v := x10) (lv' := [(1, .int x10), (2, .int s0), (0, .ref (A 0))]) hx hb dX10_pass_83 hl (k := 2) rfl (by rw [ex10]; rfl) (by decide) rfl (fun ls hl => ?_)
      refine lv_goto (tgt := 37) hx hb dX10_pass_86 (by decide) ?_
      exact ih37 x10 S h _ _ _ hP hS (lv_sub hl [2, 0] rfl)
    · have h := h.2 c9
      refine lv_aload_n hx hb dX10_pass_77 rfl (lv_at hl 1 rfl) ?_
      refine lv_iload_n hx hb dX10_pass_78 rfl (lv_at hl 2 rfl) ?_
      refine lv_iload_n hx hb dX10_pass_79 rfl (lv_at hl 0 rfl) ?_
      refine gVv (As := [.int v1, .int s0]) (rest := []) ⟨hx, hb, hml, hown, hts⟩ (kX10_goes l D Y A hI H.size S v1 s0 _ h) (cwV 2 hts gX10_pass_X10_goes rfl rfl rfl (by decide +kernel) ⟨Nat.le_of_ble_eq_true rfl, Nat.le_of_ble_eq_true rfl⟩) hK hP hS (gF_le hS.1) (aM0 Y A S) (show vwCl[10]? = some (RX10, TX10, 54) from rfl) rfl rfl hl.1 (Nat.le_of_ble_eq_true rfl) dX10_pass_80 ⟨Nat.zero_le _, Nat.zero_le _⟩ ?_
      intro S11 H locs h hP hS
      obtain ⟨x12, ex12⟩ : ∃ z : Int32, z = v1 + (1 : Int32) := ⟨_, rfl⟩
      have h := h x12 ex12
      refine lv_iinc (v := x12) (lv' := [(1, .int x12), (2, .int s0), (0, .ref (A 0))]) hx hb dX10_pass_83 hl (k := 2) rfl (by rw [ex12]; rfl) (by decide) rfl (fun ls hl => ?_)
      refine lv_goto (tgt := 37) hx hb dX10_pass_86 (by decide) ?_
      exact ih37 x12 S11 h _ _ _ hP hS (lv_sub hl [2, 0] rfl)
  have tJ71 : ∀ (K37 : Int32 × gS → Prop) (ih37 : ∀ (v1 : Int32) (S : gS), K37 (v1, S) → ∀ (H : Heap) (locs : List Loc) (ls : Array Slot), va_P D vwCl (wM Y A S) H → va_S (gF A 44 s.heap.size) s.heap H locs → lv_has ls 3 [(0, .ref (A 0)), (1, .int v1)] → W p l e rmX10_pass s m args below meth c H locs 0 0 Z (F0 m 37 ls [])) (v1 : Int32) (S : gS), qX10_pass_J71 Q K37 (v1, S) → ∀ (H : Heap) (locs : List Loc) (ls : Array Slot), va_P D vwCl (wM Y A S) H → va_S (gF A 44 s.heap.size) s.heap H locs → lv_has ls 3 [(0, .ref (A 0)), (1, .int v1)] → W p l e rmX10_pass s m args below meth c H locs 0 0 Z (F0 m 71 ls []) := by
    intro K37 ih37 v1 S h
    intro H locs ls hP hS hl
    refine lv_iconst (v := (-1 : Int32)) hx hb dX10_pass_71 (by decide) ?_
    exact tJ72 K37 ih37 v1 (-1 : Int32) S h _ _ _ hP hS (lv_sub hl [0, 1] rfl)
  have tL37 : ∀ (v1 : Int32) (S : gS), lp (qX10_pass_L37 Q) (v1, S) → ∀ (H : Heap) (locs : List Loc) (ls : Array Slot), va_P D vwCl (wM Y A S) H → va_S (gF A 44 s.heap.size) s.heap H locs → lv_has ls 3 [(0, .ref (A 0)), (1, .int v1)] → W p l e rmX10_pass s m args below meth c H locs 0 0 Z (F0 m 37 ls []) := by
    intro  v1 S h
    refine lp_walk (G := fun a => match a with | (v1, S) => ∀ (H : Heap) (locs : List Loc) (ls : Array Slot), va_P D vwCl (wM Y A S) H → va_S (gF A 44 s.heap.size) s.heap H locs → lv_has ls 3 [(0, .ref (A 0)), (1, .int v1)] → W p l e rmX10_pass s m args below meth c H locs 0 0 Z (F0 m 37 ls [])) (fun K37 a ih37 h => ?_) (v1, S) h
    obtain ⟨v1, S⟩ := a
    have ih37 : ∀ (v1 : Int32) (S : gS), K37 (v1, S) → ∀ (H : Heap) (locs : List Loc) (ls : Array Slot), va_P D vwCl (wM Y A S) H → va_S (gF A 44 s.heap.size) s.heap H locs → lv_has ls 3 [(0, .ref (A 0)), (1, .int v1)] → W p l e rmX10_pass s m args below meth c H locs 0 0 Z (F0 m 37 ls []) := fun v1 S q => ih37 (v1, S) q
    intro H locs ls hP hS hl
    refine lv_iload_n hx hb dX10_pass_37 rfl (lv_at hl 1 rfl) ?_
    refine lv_aload_n hx hb dX10_pass_38 rfl (lv_at hl 0 rfl) ?_
    refine va_get (ci := 10) (v := .int (gi S 2)) (C := RX10) (T := TX10) (N := 54) hx hb hts k0 hown hK hP 0 (aM0 Y A S) rfl 7 (by decide) k2 (fun _ h9 => h9) rfl dX10_pass_39 ?_
    refine lv_icmp_ge (tgt := 89) hx hb dX10_pass_42 (by decide) (fun c13 => ?_) (fun c13 => ?_)
    · have h := h.1 c13
      refine lv_iconst (v := (0 : Int32)) hx hb dX10_pass_89 (by decide) ?_
      refine lv_istore_n (lv' := [(1, .int (0 : Int32)), (0, .ref (A 0))]) hx hb dX10_pass_90 rfl hl (by decide) rfl (fun ls hl => ?_)
      exact tL91  (0 : Int32) S h _ _ _ hP hS (lv_sub hl [1, 0] rfl)
    · have h := h.2 c13
      refine lv_aload_n hx hb dX10_pass_45 rfl (lv_at hl 0 rfl) ?_
      refine va_get (ci := 10) (v := .ref (A 10)) (C := RX10) (T := TX10) (N := 54) hx hb hts k0 hown hK hP 0 (aM0 Y A S) rfl 12 (by decide) k3 (fun _ h9 => h9) rfl dX10_pass_46 ?_
      refine lv_iload_n hx hb dX10_pass_49 rfl (lv_at hl 1 rfl) ?_
      have v_14 := h.1
      have h := h.2
      refine va_iald hx hb hK hP 10 0 (aM10 Y A S) rfl v_14 dX10_pass_50 ?_
      refine lv_if_le (tgt := 71) hx hb dX10_pass_51 (by decide) (fun c15 => ?_) (fun c15 => ?_)
      · have h := h.1 c15
        exact tJ71 K37 ih37 v1 S h _ _ _ hP hS (lv_sub hl [0, 1] rfl)
      · have h := h.2 c15
        refine lv_aload_n hx hb dX10_pass_54 rfl (lv_at hl 0 rfl) ?_
        refine va_get (ci := 10) (v := .int (gi S 4)) (C := RX10) (T := TX10) (N := 54) hx hb hts k0 hown hK hP 0 (aM0 Y A S) rfl 21 (by decide) k4 (fun _ h9 => h9) rfl dX10_pass_55 ?_
        refine lv_bipush (v := (100 : Int32)) hx hb dX10_pass_58 (by decide) ?_
        refine lv_icmp_ge (tgt := 71) hx hb dX10_pass_60 (by decide) (fun c16 => ?_) (fun c16 => ?_)
        · have h := h.1 c16
          exact tJ71 K37 ih37 v1 S h _ _ _ hP hS (lv_sub hl [0, 1] rfl)
        · have h := h.2 c16
          refine lv_aload_n hx hb dX10_pass_63 rfl (lv_at hl 0 rfl) ?_
          refine lv_iload_n hx hb dX10_pass_64 rfl (lv_at hl 1 rfl) ?_
          refine gVi (As := [.int v1]) (rest := []) ⟨hx, hb, hml, hown, hts⟩ (kX10_choice l D Y A hI H.size S v1 _ h) (cwV 1 hts gX10_pass_X10_choice rfl rfl rfl (by decide +kernel) ⟨Nat.le_of_ble_eq_true rfl, Nat.le_of_ble_eq_true rfl⟩) hK hP hS (gF_le hS.1) (aM0 Y A S) (show vwCl[10]? = some (RX10, TX10, 54) from rfl) rfl rfl hl.1 (Nat.le_of_ble_eq_true rfl) dX10_pass_65 ⟨Nat.zero_le _, Nat.zero_le _⟩ ?_
          intro r18 S17 H locs h hP hS
          refine lv_goto (tgt := 72) hx hb dX10_pass_68 (by decide) ?_
          exact tJ72 K37 ih37 v1 r18 S17 h _ _ _ hP hS (lv_sub hl [0, 1] rfl)
  have tL16 : ∀ (v1 : Int32) (S : gS), lp (qX10_pass_L16 Q) (v1, S) → ∀ (H : Heap) (locs : List Loc) (ls : Array Slot), va_P D vwCl (wM Y A S) H → va_S (gF A 44 s.heap.size) s.heap H locs → lv_has ls 3 [(0, .ref (A 0)), (1, .int v1)] → W p l e rmX10_pass s m args below meth c H locs 0 0 Z (F0 m 16 ls []) := by
    intro  v1 S h
    refine lp_walk (G := fun a => match a with | (v1, S) => ∀ (H : Heap) (locs : List Loc) (ls : Array Slot), va_P D vwCl (wM Y A S) H → va_S (gF A 44 s.heap.size) s.heap H locs → lv_has ls 3 [(0, .ref (A 0)), (1, .int v1)] → W p l e rmX10_pass s m args below meth c H locs 0 0 Z (F0 m 16 ls [])) (fun K16 a ih16 h => ?_) (v1, S) h
    obtain ⟨v1, S⟩ := a
    have ih16 : ∀ (v1 : Int32) (S : gS), K16 (v1, S) → ∀ (H : Heap) (locs : List Loc) (ls : Array Slot), va_P D vwCl (wM Y A S) H → va_S (gF A 44 s.heap.size) s.heap H locs → lv_has ls 3 [(0, .ref (A 0)), (1, .int v1)] → W p l e rmX10_pass s m args below meth c H locs 0 0 Z (F0 m 16 ls []) := fun v1 S q => ih16 (v1, S) q
    intro H locs ls hP hS hl
    refine lv_iload_n hx hb dX10_pass_16 rfl (lv_at hl 1 rfl) ?_
    refine lv_bipush (v := (6 : Int32)) hx hb dX10_pass_17 (by decide) ?_
    refine lv_icmp_ge (tgt := 35) hx hb dX10_pass_19 (by decide) (fun c19 => ?_) (fun c19 => ?_)
    · have h := h.1 c19
      refine lv_iconst (v := (0 : Int32)) hx hb dX10_pass_35 (by decide) ?_
      refine lv_istore_n (lv' := [(1, .int (0 : Int32)), (0, .ref (A 0))]) hx hb dX10_pass_36 rfl hl (by decide) rfl (fun ls hl => ?_)
      exact tL37  (0 : Int32) S h _ _ _ hP hS (lv_sub hl [1, 0] rfl)
    · have h := h.2 c19
      refine lv_aload_n hx hb dX10_pass_22 rfl (lv_at hl 0 rfl) ?_
      refine va_get (ci := 10) (v := .ref (A 28)) (C := RX10) (T := TX10) (N := 54) hx hb hts k0 hown hK hP 0 (aM0 Y A S) rfl 32 (by decide) k5 (fun _ h9 => h9) rfl dX10_pass_23 ?_
      refine lv_iload_n hx hb dX10_pass_26 rfl (lv_at hl 1 rfl) ?_
      refine lv_iconst (v := (0 : Int32)) hx hb dX10_pass_27 (by decide) ?_
      have v_21 := h.1
      have h := h.2
      obtain ⟨S20, eS20⟩ : ∃ z : gS, z = sA S 27 (upd (ga S 27) v1.toNatClampNeg (vp_nar .boolean (0 : Int32))) := ⟨_, rfl⟩
      refine va_zast hx hb hK hP (hD S) hS 28 1 (aM28 Y A S) rfl v_21 dX10_pass_28 (fun H locs hP _ hS => ?_)
      have hP := uM28 eS20 hP
      have h := h S20 eS20
      obtain ⟨x22, ex22⟩ : ∃ z : Int32, z = v1 + (1 : Int32) := ⟨_, rfl⟩
      have h := h x22 ex22
      refine lv_iinc (v := x22) (lv' := [(1, .int x22), (0, .ref (A 0))]) hx hb dX10_pass_29 hl (k := 1) rfl (by rw [ex22]; rfl) (by decide) rfl (fun ls hl => ?_)
      refine lv_goto (tgt := 16) hx hb dX10_pass_32 (by decide) ?_
      exact ih16 x22 S20 h _ _ _ hP hS (lv_sub hl [1, 0] rfl)
  refine lv_aload_n hx hb dX10_pass_0 rfl (lv_at hl 0 rfl) ?_
  refine lv_dup hx hb dX10_pass_1 rfl ?_
  refine va_get (ci := 10) (v := .int (gi S 1)) (C := RX10) (T := TX10) (N := 54) hx hb hts k0 hown hK hP 0 (aM0 Y A S) rfl 1 (by decide) k6 (fun _ h9 => h9) rfl dX10_pass_2 ?_
  refine lv_iconst (v := (1 : Int32)) hx hb dX10_pass_5 (by decide) ?_
  refine lv_iadd hx hb dX10_pass_6 ?_
  obtain ⟨S23, eS23⟩ : ∃ z : gS, z = sI S 1 ((gi S 1) + (1 : Int32)) := ⟨_, rfl⟩
  have h := h S23 eS23
  refine va_put (ci := 10) (v := .int ((gi S 1) + (1 : Int32))) (ty := .int) (C := RX10) (T := TX10) (N := 54) hx hb hts k0 tyX10 tyX10_ok nmX10 hown hK hP (hD S) hS 0 (aM0 Y A S) rfl 1 (by decide) k6 (fun _ h9 => h9) rfl rfl rfl rfl (by simp) dX10_pass_7 (fun H locs hP _ hS => ?_)
  have hP := pM0_1 eS23 hP
  refine lv_aload_n hx hb dX10_pass_10 rfl (lv_at hl 0 rfl) ?_
  refine gVv (As := []) (rest := []) ⟨hx, hb, hml, hown, hts⟩ (kX10_watch l D Y A hI H.size S23  _ h) (cwV 0 hts gX10_pass_X10_watch rfl rfl rfl (by decide +kernel) ⟨Nat.le_of_ble_eq_true rfl, Nat.le_of_ble_eq_true rfl⟩) hK hP hS (gF_le hS.1) (aM0 Y A S23) (show vwCl[10]? = some (RX10, TX10, 54) from rfl) rfl rfl hl.1 (Nat.le_of_ble_eq_true rfl) dX10_pass_11 ⟨Nat.zero_le _, Nat.zero_le _⟩ ?_
  intro S24 H locs h hP hS
  refine lv_iconst (v := (0 : Int32)) hx hb dX10_pass_14 (by decide) ?_
  refine lv_istore_n (lv' := [(1, .int (0 : Int32)), (0, .ref (A 0))]) hx hb dX10_pass_15 rfl hl (by decide) rfl (fun ls hl => ?_)
  exact tL16  (0 : Int32) S24 h _ _ _ hP hS (lv_sub hl [1, 0] rfl)

def qX10_nights_L38 (a1 : Int32) (Q : Int32 → gS → Prop) (K38 : Int32 × Int32 × gS → Prop) : Int32 × Int32 × gS → Prop := fun ⟨v2, v3, S⟩ =>
  (a1 ≤ v3 → (Q ((gi S 4) - v2) S)) ∧ (¬ a1 ≤ v3 → (qX10_pass S (fun S2 => ∀ x3 : Int32, x3 = v3 + (1 : Int32) → (K38 (v2, x3, S2)))))
def qX10_nights (S : gS) (a1 : Int32) (Q : Int32 → gS → Prop) : Prop :=
  ((1 : Int32) ≤ a1 → ((a1 ≤ ((1000 : Int32) - (gi S 1)) → (∀ x6 : Int32, x6 = (gi S 4) → (lp (qX10_nights_L38 a1 Q) (x6, (0 : Int32), S)))) ∧ (¬ a1 ≤ ((1000 : Int32) - (gi S 1)) → (qX10_refuse S (-6 : Int32) (fun r8 S7 => Q r8 S7))))) ∧ (¬ (1 : Int32) ≤ a1 → (qX10_refuse S (-4 : Int32) (fun r10 S9 => Q r10 S9)))
abbrev rmX10_nights : Room := { frames := 4, cells := 0, slots := 0, locals := 92 }
set_option maxHeartbeats 4000000 in
set_option maxRecDepth 100000 in
theorem kX10_nights (l : Launch) (D : va_G) (Y : Nat → ClassId) (A : Nat → Nat) (hI : iM A) (sz : Nat) (S : gS) (a1 : Int32) (Q : Int32 → gS → Prop) (h : qX10_nights S a1 Q) : Met l yX10_nights wsX10_nights rmX10_nights (gPc [.ref (A 0), .int a1] sz D vwCl (tY Y) (wM Y A S)) (va_Qi Q (fun S' t => gH D vwCl (tY Y) (wM Y A S') t) (gF A 44 sz)) 0 0 (gF A 44 sz) := by
  refine gMet_i (cc := cX10_nights) (maxL := 4) (by decide +kernel) rfl (Nat.le_of_ble_eq_true rfl) (fun p e s m args below meth c Z H locs hx hb hml hts hown hK hP hS hret ls hl => ?_)
  have hown : s.vm.findClass RX10 = some m.cls := hown
  have hl : lv_has ls 4 [(0, .ref (A 0)), (1, .int a1)] := hl
  have hD : ∀ S0 : gS, va_D (gF A 44 s.heap.size) (wM Y A S0) := fun S0 => dM hI S0 (fun k hk => gF_in hk)
  have k0 : ∀ w ∈ u_ws RX10 TX10 54, w ∈ wsX10_nights := by decide +kernel
  have k1 := hts (.fieldLink RX10 189 "CoastWatchModel" "lots" "I") (by decide +kernel)
  have k2 := hts (.fieldLink RX10 173 "CoastWatchModel" "night" "I") (by decide +kernel)
  have tL38 : ∀ (v2 : Int32) (v3 : Int32) (S : gS), lp (qX10_nights_L38 a1 Q) (v2, v3, S) → ∀ (H : Heap) (locs : List Loc) (ls : Array Slot), va_P D vwCl (wM Y A S) H → va_S (gF A 44 s.heap.size) s.heap H locs → lv_has ls 4 [(0, .ref (A 0)), (1, .int a1), (2, .int v2), (3, .int v3)] → W p l e rmX10_nights s m args below meth c H locs 0 0 Z (F0 m 38 ls []) := by
    intro  v2 v3 S h
    refine lp_walk (G := fun a => match a with | (v2, v3, S) => ∀ (H : Heap) (locs : List Loc) (ls : Array Slot), va_P D vwCl (wM Y A S) H → va_S (gF A 44 s.heap.size) s.heap H locs → lv_has ls 4 [(0, .ref (A 0)), (1, .int a1), (2, .int v2), (3, .int v3)] → W p l e rmX10_nights s m args below meth c H locs 0 0 Z (F0 m 38 ls [])) (fun K38 a ih38 h => ?_) (v2, v3, S) h
    obtain ⟨v2, v3, S⟩ := a
    have ih38 : ∀ (v2 : Int32) (v3 : Int32) (S : gS), K38 (v2, v3, S) → ∀ (H : Heap) (locs : List Loc) (ls : Array Slot), va_P D vwCl (wM Y A S) H → va_S (gF A 44 s.heap.size) s.heap H locs → lv_has ls 4 [(0, .ref (A 0)), (1, .int a1), (2, .int v2), (3, .int v3)] → W p l e rmX10_nights s m args below meth c H locs 0 0 Z (F0 m 38 ls []) := fun v2 v3 S q => ih38 (v2, v3, S) q
    intro H locs ls hP hS hl
    refine lv_iload_n hx hb dX10_nights_38 rfl (lv_at hl 3 rfl) ?_
    refine lv_iload_n hx hb dX10_nights_39 rfl (lv_at hl 1 rfl) ?_
    refine lv_icmp_ge (tgt := 53) hx hb dX10_nights_40 (by decide) (fun c1 => ?_) (fun c1 => ?_)
    · have h := h.1 c1
      refine lv_aload_n hx hb dX10_nights_53 rfl (lv_at hl 0 rfl) ?_
      refine va_get (ci := 10) (v := .int (gi S 4)) (C := RX10) (T := TX10) (N := 54) hx hb hts k0 hown hK hP 0 (aM0 Y A S) rfl 21 (by decide) k1 (fun _ h9 => h9) rfl dX10_nights_54 ?_
      refine lv_iload_n hx hb dX10_nights_57 rfl (lv_at hl 2 rfl) ?_
      refine lv_isub hx hb dX10_nights_58 ?_
      exact hret _ _ _ _ _ _ dX10_nights_59 h hP hS
    · have h := h.2 c1
      refine lv_aload_n hx hb dX10_nights_43 rfl (lv_at hl 0 rfl) ?_
      refine gVv (As := []) (rest := []) ⟨hx, hb, hml, hown, hts⟩ (kX10_pass l D Y A hI H.size S  _ h) (cwV 0 hts gX10_nights_X10_pass rfl rfl rfl (by decide +kernel) ⟨Nat.le_of_ble_eq_true rfl, Nat.le_of_ble_eq_true rfl⟩) hK hP hS (gF_le hS.1) (aM0 Y A S) (show vwCl[10]? = some (RX10, TX10, 54) from rfl) rfl rfl hl.1 (Nat.le_of_ble_eq_true rfl) dX10_nights_44 ⟨Nat.zero_le _, Nat.zero_le _⟩ ?_
      intro S2 H locs h hP hS
      obtain ⟨x3, ex3⟩ : ∃ z : Int32, z = v3 + (1 : Int32) := ⟨_, rfl⟩
      have h := h x3 ex3
      refine lv_iinc (v := x3) (lv' := [(3, .int x3), (0, .ref (A 0)), (1, .int a1), (2, .int v2)]) hx hb dX10_nights_47 hl (k := 3) rfl (by rw [ex3]; rfl) (by decide) rfl (fun ls hl => ?_)
      refine lv_goto (tgt := 38) hx hb dX10_nights_50 (by decide) ?_
      exact ih38 v2 x3 S2 h _ _ _ hP hS (lv_sub hl [1, 2, 3, 0] rfl)
  refine lv_iload_n hx hb dX10_nights_0 rfl (lv_at hl 1 rfl) ?_
  refine lv_iconst (v := (1 : Int32)) hx hb dX10_nights_1 (by decide) ?_
  refine lv_icmp_ge (tgt := 12) hx hb dX10_nights_2 (by decide) (fun c4 => ?_) (fun c4 => ?_)
  · have h := h.1 c4
    refine lv_iload_n hx hb dX10_nights_12 rfl (lv_at hl 1 rfl) ?_
    refine lv_sipush (v := (1000 : Int32)) hx hb dX10_nights_13 (by decide) ?_
    refine lv_aload_n hx hb dX10_nights_16 rfl (lv_at hl 0 rfl) ?_
    refine va_get (ci := 10) (v := .int (gi S 1)) (C := RX10) (T := TX10) (N := 54) hx hb hts k0 hown hK hP 0 (aM0 Y A S) rfl 1 (by decide) k2 (fun _ h9 => h9) rfl dX10_nights_17 ?_
    refine lv_isub hx hb dX10_nights_20 ?_
    refine lv_icmp_le (tgt := 31) hx hb dX10_nights_21 (by decide) (fun c5 => ?_) (fun c5 => ?_)
    · have h := h.1 c5
      refine lv_aload_n hx hb dX10_nights_31 rfl (lv_at hl 0 rfl) ?_
      refine va_get (ci := 10) (v := .int (gi S 4)) (C := RX10) (T := TX10) (N := 54) hx hb hts k0 hown hK hP 0 (aM0 Y A S) rfl 21 (by decide) k1 (fun _ h9 => h9) rfl dX10_nights_32 ?_
      refine lv_topi (fun x6 ex6 => ?_)
      have h := h x6 ex6
      refine lv_istore_n (lv' := [(2, .int x6), (0, .ref (A 0)), (1, .int a1)]) hx hb dX10_nights_35 rfl hl (by decide) rfl (fun ls hl => ?_)
      refine lv_iconst (v := (0 : Int32)) hx hb dX10_nights_36 (by decide) ?_
      refine lv_istore_n (lv' := [(3, .int (0 : Int32)), (2, .int x6), (0, .ref (A 0)), (1, .int a1)]) hx hb dX10_nights_37 rfl hl (by decide) rfl (fun ls hl => ?_)
      exact tL38  x6 (0 : Int32) S h _ _ _ hP hS (lv_sub hl [2, 3, 1, 0] rfl)
    · have h := h.2 c5
      refine lv_aload_n hx hb dX10_nights_24 rfl (lv_at hl 0 rfl) ?_
      refine lv_bipush (v := (-6 : Int32)) hx hb dX10_nights_25 (by decide) ?_
      refine gVi (As := [.int (-6 : Int32)]) (rest := []) ⟨hx, hb, hml, hown, hts⟩ (kX10_refuse l D Y A hI H.size S (-6 : Int32) _ h) (cwV 1 hts gX10_nights_X10_refuse rfl rfl rfl (by decide +kernel) ⟨Nat.le_of_ble_eq_true rfl, Nat.le_of_ble_eq_true rfl⟩) hK hP hS (gF_le hS.1) (aM0 Y A S) (show vwCl[10]? = some (RX10, TX10, 54) from rfl) rfl rfl hl.1 (Nat.le_of_ble_eq_true rfl) dX10_nights_27 ⟨Nat.zero_le _, Nat.zero_le _⟩ ?_
      intro r8 S7 H locs h hP hS
      exact hret _ _ _ _ _ _ dX10_nights_30 h hP hS
  · have h := h.2 c4
    refine lv_aload_n hx hb dX10_nights_5 rfl (lv_at hl 0 rfl) ?_
    refine lv_bipush (v := (-4 : Int32)) hx hb dX10_nights_6 (by decide) ?_
    refine gVi (As := [.int (-4 : Int32)]) (rest := []) ⟨hx, hb, hml, hown, hts⟩ (kX10_refuse l D Y A hI H.size S (-4 : Int32) _ h) (cwV 1 hts gX10_nights_X10_refuse rfl rfl rfl (by decide +kernel) ⟨Nat.le_of_ble_eq_true rfl, Nat.le_of_ble_eq_true rfl⟩) hK hP hS (gF_le hS.1) (aM0 Y A S) (show vwCl[10]? = some (RX10, TX10, 54) from rfl) rfl rfl hl.1 (Nat.le_of_ble_eq_true rfl) dX10_nights_8 ⟨Nat.zero_le _, Nat.zero_le _⟩ ?_
    intro r10 S9 H locs h hP hS
    exact hret _ _ _ _ _ _ dX10_nights_11 h hP hS

def qX10_search_L24 (a1 : Int32) (Q : Int32 → gS → Prop) (K24 : Int32 × Int32 × gS → Prop) : Int32 × Int32 × gS → Prop := fun ⟨v2, v3, S⟩ =>
  ((gi S 4) ≤ v3 → (vp_in a1 12 ∧ (∀ S3 : gS, S3 = sA S 16 (upd (ga S 16) a1.toNatClampNeg ((ga S 16 a1.toNatClampNeg) / (2 : Int32))) → (Q v2 S3)))) ∧ (¬ (gi S 4) ≤ v3 → (vp_in v3 100 ∧ (((ga S 21 v3.toNatClampNeg) = 0 → (((ga S 22 v3.toNatClampNeg) = a1 → (qX10_partCasks S (ga S 18 v3.toNatClampNeg) (-1 : Int32) (fun S9 => ∀ S10 : gS, S10 = sA S9 21 (upd (ga S9 21) v3.toNatClampNeg (2 : Int32)) → (∀ x11 : Int32, x11 = (v2 + (ga S10 18 v3.toNatClampNeg)) → (∀ x12 : Int32, x12 = v3 + (1 : Int32) → (K24 (x11, x12, S10))))))) ∧ (¬ (ga S 22 v3.toNatClampNeg) = a1 → (∀ x8 : Int32, x8 = v3 + (1 : Int32) → (K24 (v2, x8, S)))))) ∧ (¬ (ga S 21 v3.toNatClampNeg) = 0 → (∀ x6 : Int32, x6 = v3 + (1 : Int32) → (K24 (v2, x6, S)))))))
def qX10_search (S : gS) (a1 : Int32) (Q : Int32 → gS → Prop) : Prop :=
  qX10_in S a1 (0 : Int32) ((gi S 3) - (1 : Int32)) (fun r14 S13 => (r14 = 0 → (qX10_refuse S13 (-1 : Int32) (fun r17 S16 => Q r17 S16))) ∧ (¬ r14 = 0 → (lp (qX10_search_L24 a1 Q) ((0 : Int32), (0 : Int32), S13))))
abbrev rmX10_search : Room := { frames := 1, cells := 0, slots := 0, locals := 26 }
set_option maxHeartbeats 4000000 in
set_option maxRecDepth 100000 in
theorem kX10_search (l : Launch) (D : va_G) (Y : Nat → ClassId) (A : Nat → Nat) (hI : iM A) (sz : Nat) (S : gS) (a1 : Int32) (Q : Int32 → gS → Prop) (h : qX10_search S a1 Q) : Met l yX10_search wsX10_search rmX10_search (gPc [.ref (A 0), .int a1] sz D vwCl (tY Y) (wM Y A S)) (va_Qi Q (fun S' t => gH D vwCl (tY Y) (wM Y A S') t) (gF A 44 sz)) 0 0 (gF A 44 sz) := by
  refine gMet_i (cc := cX10_search) (maxL := 4) (by decide +kernel) rfl (Nat.le_of_ble_eq_true rfl) (fun p e s m args below meth c Z H locs hx hb hml hts hown hK hP hS hret ls hl => ?_)
  have hown : s.vm.findClass RX10 = some m.cls := hown
  have hl : lv_has ls 4 [(0, .ref (A 0)), (1, .int a1)] := hl
  have hD : ∀ S0 : gS, va_D (gF A 44 s.heap.size) (wM Y A S0) := fun S0 => dM hI S0 (fun k hk => gF_in hk)
  have k0 : ∀ w ∈ u_ws RX10 TX10 54, w ∈ wsX10_search := by decide +kernel
  have k1 := hts (.fieldLink RX10 189 "CoastWatchModel" "lots" "I") (by decide +kernel)
  have k2 := hts (.fieldLink RX10 62 "CoastWatchModel" "guess" "[I") (by decide +kernel)
  have k3 := hts (.fieldLink RX10 77 "CoastWatchModel" "lotLies" "[I") (by decide +kernel)
  have k4 := hts (.fieldLink RX10 80 "CoastWatchModel" "lotHide" "[I") (by decide +kernel)
  have k5 := hts (.fieldLink RX10 68 "CoastWatchModel" "lotCasks" "[I") (by decide +kernel)
  have k6 := hts (.fieldLink RX10 164 "CoastWatchModel" "hides" "I") (by decide +kernel)
  have tL24 : ∀ (v2 : Int32) (v3 : Int32) (S : gS), lp (qX10_search_L24 a1 Q) (v2, v3, S) → ∀ (H : Heap) (locs : List Loc) (ls : Array Slot), va_P D vwCl (wM Y A S) H → va_S (gF A 44 s.heap.size) s.heap H locs → lv_has ls 4 [(0, .ref (A 0)), (1, .int a1), (2, .int v2), (3, .int v3)] → W p l e rmX10_search s m args below meth c H locs 0 0 Z (F0 m 24 ls []) := by
    intro  v2 v3 S h
    refine lp_walk (G := fun a => match a with | (v2, v3, S) => ∀ (H : Heap) (locs : List Loc) (ls : Array Slot), va_P D vwCl (wM Y A S) H → va_S (gF A 44 s.heap.size) s.heap H locs → lv_has ls 4 [(0, .ref (A 0)), (1, .int a1), (2, .int v2), (3, .int v3)] → W p l e rmX10_search s m args below meth c H locs 0 0 Z (F0 m 24 ls [])) (fun K24 a ih24 h => ?_) (v2, v3, S) h
    obtain ⟨v2, v3, S⟩ := a
    have ih24 : ∀ (v2 : Int32) (v3 : Int32) (S : gS), K24 (v2, v3, S) → ∀ (H : Heap) (locs : List Loc) (ls : Array Slot), va_P D vwCl (wM Y A S) H → va_S (gF A 44 s.heap.size) s.heap H locs → lv_has ls 4 [(0, .ref (A 0)), (1, .int a1), (2, .int v2), (3, .int v3)] → W p l e rmX10_search s m args below meth c H locs 0 0 Z (F0 m 24 ls []) := fun v2 v3 S q => ih24 (v2, v3, S) q
    intro H locs ls hP hS hl
    refine lv_iload_n hx hb dX10_search_24 rfl (lv_at hl 3 rfl) ?_
    refine lv_aload_n hx hb dX10_search_25 rfl (lv_at hl 0 rfl) ?_
    refine va_get (ci := 10) (v := .int (gi S 4)) (C := RX10) (T := TX10) (N := 54) hx hb hts k0 hown hK hP 0 (aM0 Y A S) rfl 21 (by decide) k1 (fun _ h9 => h9) rfl dX10_search_26 ?_
    refine lv_icmp_ge (tgt := 84) hx hb dX10_search_29 (by decide) (fun c1 => ?_) (fun c1 => ?_)
    · have h := h.1 c1
      refine lv_aload_n hx hb dX10_search_84 rfl (lv_at hl 0 rfl) ?_
      refine va_get (ci := 10) (v := .ref (A 17)) (C := RX10) (T := TX10) (N := 54) hx hb hts k0 hown hK hP 0 (aM0 Y A S) rfl 20 (by decide) k2 (fun _ h9 => h9) rfl dX10_search_85 ?_
      refine lv_iload_n hx hb dX10_search_88 rfl (lv_at hl 1 rfl) ?_
      refine lv_dup2_11 hx hb dX10_search_89 rfl rfl ?_
      have v_2 := h.1
      have h := h.2
      refine va_iald hx hb hK hP 17 0 (aM17 Y A S) rfl v_2 dX10_search_90 ?_
      refine lv_iconst (v := (2 : Int32)) hx hb dX10_search_91 (by decide) ?_
      refine lv_idiv hx hb dX10_search_92 (by decide) ?_
      obtain ⟨S3, eS3⟩ : ∃ z : gS, z = sA S 16 (upd (ga S 16) a1.toNatClampNeg ((ga S 16 a1.toNatClampNeg) / (2 : Int32))) := ⟨_, rfl⟩
      refine va_iast hx hb hK hP (hD S) hS 17 0 (aM17 Y A S) rfl v_2 dX10_search_93 (fun H locs hP _ hS => ?_)
      have hP := uM17 eS3 hP
      have h := h S3 eS3
      refine lv_iload_n hx hb dX10_search_94 rfl (lv_at hl 2 rfl) ?_
      exact hret _ _ _ _ _ _ dX10_search_95 h hP hS
    · have h := h.2 c1
      refine lv_aload_n hx hb dX10_search_32 rfl (lv_at hl 0 rfl) ?_
      refine va_get (ci := 10) (v := .ref (A 22)) (C := RX10) (T := TX10) (N := 54) hx hb hts k0 hown hK hP 0 (aM0 Y A S) rfl 26 (by decide) k3 (fun _ h9 => h9) rfl dX10_search_33 ?_
      refine lv_iload_n hx hb dX10_search_36 rfl (lv_at hl 3 rfl) ?_
      have v_4 := h.1
      have h := h.2
      refine va_iald hx hb hK hP 22 0 (aM22 Y A S) rfl v_4 dX10_search_37 ?_
      refine lv_if_ne (tgt := 78) hx hb dX10_search_38 (by decide) (fun c5 => ?_) (fun c5 => ?_)
      · have h := h.2 c5
        obtain ⟨x6, ex6⟩ : ∃ z : Int32, z = v3 + (1 : Int32) := ⟨_, rfl⟩
        have h := h x6 ex6
        refine lv_iinc (v := x6) (lv' := [(3, .int x6), (0, .ref (A 0)), (1, .int a1), (2, .int v2)]) hx hb dX10_search_78 hl (k := 3) rfl (by rw [ex6]; rfl) (by decide) rfl (fun ls hl => ?_)
        refine lv_goto (tgt := 24) hx hb dX10_search_81 (by decide) ?_
        exact ih24 v2 x6 S h _ _ _ hP hS (lv_sub hl [1, 2, 3, 0] rfl)
      · have h := h.1 c5
        refine lv_aload_n hx hb dX10_search_41 rfl (lv_at hl 0 rfl) ?_
        refine va_get (ci := 10) (v := .ref (A 23)) (C := RX10) (T := TX10) (N := 54) hx hb hts k0 hown hK hP 0 (aM0 Y A S) rfl 27 (by decide) k4 (fun _ h9 => h9) rfl dX10_search_42 ?_
        refine lv_iload_n hx hb dX10_search_45 rfl (lv_at hl 3 rfl) ?_
        refine va_iald hx hb hK hP 23 0 (aM23 Y A S) rfl v_4 dX10_search_46 ?_
        refine lv_iload_n hx hb dX10_search_47 rfl (lv_at hl 1 rfl) ?_
        refine lv_icmp_ne (tgt := 78) hx hb dX10_search_48 (by decide) (fun c7 => ?_) (fun c7 => ?_)
        · have h := h.2 c7
          obtain ⟨x8, ex8⟩ : ∃ z : Int32, z = v3 + (1 : Int32) := ⟨_, rfl⟩
          have h := h x8 ex8
          refine lv_iinc (v := x8) (lv' := [(3, .int x8), (0, .ref (A 0)), (1, .int a1), (2, .int v2)]) hx hb dX10_search_78 hl (k := 3) rfl (by rw [ex8]; rfl) (by decide) rfl (fun ls hl => ?_)
          refine lv_goto (tgt := 24) hx hb dX10_search_81 (by decide) ?_
          exact ih24 v2 x8 S h _ _ _ hP hS (lv_sub hl [1, 2, 3, 0] rfl)
        · have h := h.1 c7
          refine lv_aload_n hx hb dX10_search_51 rfl (lv_at hl 0 rfl) ?_
          refine lv_aload_n hx hb dX10_search_52 rfl (lv_at hl 0 rfl) ?_
          refine va_get (ci := 10) (v := .ref (A 19)) (C := RX10) (T := TX10) (N := 54) hx hb hts k0 hown hK hP 0 (aM0 Y A S) rfl 23 (by decide) k5 (fun _ h9 => h9) rfl dX10_search_53 ?_
          refine lv_iload_n hx hb dX10_search_56 rfl (lv_at hl 3 rfl) ?_
          refine va_iald hx hb hK hP 19 0 (aM19 Y A S) rfl v_4 dX10_search_57 ?_
          refine lv_iconst (v := (-1 : Int32)) hx hb dX10_search_58 (by decide) ?_
          refine gVv (As := [.int (ga S 18 v3.toNatClampNeg), .int (-1 : Int32)]) (rest := []) ⟨hx, hb, hml, hown, hts⟩ (kX10_partCasks l D Y A hI H.size S (ga S 18 v3.toNatClampNeg) (-1 : Int32) _ h) (cwV 2 hts gX10_search_X10_partCasks rfl rfl rfl (by decide +kernel) ⟨Nat.le_of_ble_eq_true rfl, Nat.le_of_ble_eq_true rfl⟩) hK hP hS (gF_le hS.1) (aM0 Y A S) (show vwCl[10]? = some (RX10, TX10, 54) from rfl) rfl rfl hl.1 (Nat.le_of_ble_eq_true rfl) dX10_search_59 ⟨Nat.zero_le _, Nat.zero_le _⟩ ?_
          intro S9 H locs h hP hS
          refine lv_aload_n hx hb dX10_search_62 rfl (lv_at hl 0 rfl) ?_
          refine va_get (ci := 10) (v := .ref (A 22)) (C := RX10) (T := TX10) (N := 54) hx hb hts k0 hown hK hP 0 (aM0 Y A S9) rfl 26 (by decide) k3 (fun _ h9 => h9) rfl dX10_search_63 ?_
          refine lv_iload_n hx hb dX10_search_66 rfl (lv_at hl 3 rfl) ?_
          refine lv_iconst (v := (2 : Int32)) hx hb dX10_search_67 (by decide) ?_
          obtain ⟨S10, eS10⟩ : ∃ z : gS, z = sA S9 21 (upd (ga S9 21) v3.toNatClampNeg (2 : Int32)) := ⟨_, rfl⟩
          refine va_iast hx hb hK hP (hD S9) hS 22 0 (aM22 Y A S9) rfl v_4 dX10_search_68 (fun H locs hP _ hS => ?_)
          have hP := uM22 eS10 hP
          have h := h S10 eS10
          refine lv_iload_n hx hb dX10_search_69 rfl (lv_at hl 2 rfl) ?_
          refine lv_aload_n hx hb dX10_search_70 rfl (lv_at hl 0 rfl) ?_
          refine va_get (ci := 10) (v := .ref (A 19)) (C := RX10) (T := TX10) (N := 54) hx hb hts k0 hown hK hP 0 (aM0 Y A S10) rfl 23 (by decide) k5 (fun _ h9 => h9) rfl dX10_search_71 ?_
          refine lv_iload_n hx hb dX10_search_74 rfl (lv_at hl 3 rfl) ?_
          refine va_iald hx hb hK hP 19 0 (aM19 Y A S10) rfl v_4 dX10_search_75 ?_
          refine lv_iadd hx hb dX10_search_76 ?_
          refine lv_topi (fun x11 ex11 => ?_)
          have h := h x11 ex11
          refine lv_istore_n (lv' := [(2, .int x11), (0, .ref (A 0)), (1, .int a1), (3, .int v3)]) hx hb dX10_search_77 rfl hl (by decide) rfl (fun ls hl => ?_)
          obtain ⟨x12, ex12⟩ : ∃ z : Int32, z = v3 + (1 : Int32) := ⟨_, rfl⟩
          have h := h x12 ex12
          refine lv_iinc (v := x12) (lv' := [(3, .int x12), (2, .int x11), (0, .ref (A 0)), (1, .int a1)]) hx hb dX10_search_78 hl (k := 3) rfl (by rw [ex12]; rfl) (by decide) rfl (fun ls hl => ?_)
          refine lv_goto (tgt := 24) hx hb dX10_search_81 (by decide) ?_
          exact ih24 x11 x12 S10 h _ _ _ hP hS (lv_sub hl [2, 3, 1, 0] rfl)
  refine lv_iload_n hx hb dX10_search_0 rfl (lv_at hl 1 rfl) ?_
  refine lv_iconst (v := (0 : Int32)) hx hb dX10_search_1 (by decide) ?_
  refine lv_aload_n hx hb dX10_search_2 rfl (lv_at hl 0 rfl) ?_
  refine va_get (ci := 10) (v := .int (gi S 3)) (C := RX10) (T := TX10) (N := 54) hx hb hts k0 hown hK hP 0 (aM0 Y A S) rfl 16 (by decide) k6 (fun _ h9 => h9) rfl dX10_search_3 ?_
  refine lv_iconst (v := (1 : Int32)) hx hb dX10_search_6 (by decide) ?_
  refine lv_isub hx hb dX10_search_7 ?_
  refine gSi (As := [.int a1, .int (0 : Int32), .int ((gi S 3) - (1 : Int32))]) (rest := []) ⟨hx, hb, hml, hown, hts⟩ (kX10_in l D Y A hI H.size S a1 (0 : Int32) ((gi S 3) - (1 : Int32)) _ h) (va_cwS 3 hts gX10_search_X10_in rfl rfl rfl (by decide +kernel) ⟨Nat.le_of_ble_eq_true rfl, Nat.le_of_ble_eq_true rfl⟩) hK hP hS (gF_le hS.1) rfl rfl hl.1 (Nat.le_of_ble_eq_true rfl) dX10_search_8 ⟨Nat.zero_le _, Nat.zero_le _⟩ ?_
  intro r14 S13 H locs h hP hS
  refine lv_if_ne (tgt := 20) hx hb dX10_search_11 (by decide) (fun c15 => ?_) (fun c15 => ?_)
  · have h := h.2 c15
    refine lv_iconst (v := (0 : Int32)) hx hb dX10_search_20 (by decide) ?_
    refine lv_istore_n (lv' := [(2, .int (0 : Int32)), (0, .ref (A 0)), (1, .int a1)]) hx hb dX10_search_21 rfl hl (by decide) rfl (fun ls hl => ?_)
    refine lv_iconst (v := (0 : Int32)) hx hb dX10_search_22 (by decide) ?_
    refine lv_istore_n (lv' := [(3, .int (0 : Int32)), (2, .int (0 : Int32)), (0, .ref (A 0)), (1, .int a1)]) hx hb dX10_search_23 rfl hl (by decide) rfl (fun ls hl => ?_)
    exact tL24  (0 : Int32) (0 : Int32) S13 h _ _ _ hP hS (lv_sub hl [2, 3, 1, 0] rfl)
  · have h := h.1 c15
    refine lv_aload_n hx hb dX10_search_14 rfl (lv_at hl 0 rfl) ?_
    refine lv_iconst (v := (-1 : Int32)) hx hb dX10_search_15 (by decide) ?_
    refine gVi (As := [.int (-1 : Int32)]) (rest := []) ⟨hx, hb, hml, hown, hts⟩ (kX10_refuse l D Y A hI H.size S13 (-1 : Int32) _ h) (cwV 1 hts gX10_search_X10_refuse rfl rfl rfl (by decide +kernel) ⟨Nat.le_of_ble_eq_true rfl, Nat.le_of_ble_eq_true rfl⟩) hK hP hS (gF_le hS.1) (aM0 Y A S13) (show vwCl[10]? = some (RX10, TX10, 54) from rfl) rfl rfl hl.1 (Nat.le_of_ble_eq_true rfl) dX10_search_16 ⟨Nat.zero_le _, Nat.zero_le _⟩ ?_
    intro r17 S16 H locs h hP hS
    exact hret _ _ _ _ _ _ dX10_search_19 h hP hS

def qX10_ones_L4 (a0 : Int32) (Q : Int32 → gS → Prop) (K4 : Int32 × Int32 × gS → Prop) : Int32 × Int32 × gS → Prop := fun ⟨v1, v2, S⟩ =>
  (v2 ≤ 0 → (Q v1 S)) ∧ (¬ v2 ≤ 0 → (∀ x2 : Int32, x2 = (v1 + (v2 - v2 / (2 : Int32) * (2 : Int32))) → (∀ x3 : Int32, x3 = (v2 / (2 : Int32)) → (K4 (x2, x3, S)))))
def qX10_ones (S : gS) (a0 : Int32) (Q : Int32 → gS → Prop) : Prop :=
  lp (qX10_ones_L4 a0 Q) ((0 : Int32), a0, S)
abbrev rmX10_ones : Room := { frames := 0, cells := 0, slots := 0, locals := 0 }
set_option maxHeartbeats 4000000 in
set_option maxRecDepth 100000 in
theorem kX10_ones (l : Launch) (D : va_G) (Y : Nat → ClassId) (A : Nat → Nat) (hI : iM A) (sz : Nat) (S : gS) (a0 : Int32) (Q : Int32 → gS → Prop) (h : qX10_ones S a0 Q) : Met l yX10_ones wsX10_ones rmX10_ones (gPc [.int a0] sz D vwCl (tY Y) (wM Y A S)) (va_Qi Q (fun S' t => gH D vwCl (tY Y) (wM Y A S') t) (gF A 44 sz)) 0 0 (gF A 44 sz) := by
  refine gMet_i (cc := cX10_ones) (maxL := 3) (by decide +kernel) rfl (Nat.le_of_ble_eq_true rfl) (fun p e s m args below meth c Z H locs hx hb hml hts hown hK hP hS hret ls hl => ?_)
  have hown : s.vm.findClass RX10 = some m.cls := hown
  have hl : lv_has ls 3 [(0, .int a0)] := hl
  have hD : ∀ S0 : gS, va_D (gF A 44 s.heap.size) (wM Y A S0) := fun S0 => dM hI S0 (fun k hk => gF_in hk)
  have tL4 : ∀ (v1 : Int32) (v2 : Int32) (S : gS), lp (qX10_ones_L4 a0 Q) (v1, v2, S) → ∀ (H : Heap) (locs : List Loc) (ls : Array Slot), va_P D vwCl (wM Y A S) H → va_S (gF A 44 s.heap.size) s.heap H locs → lv_has ls 3 [(1, .int v1), (2, .int v2)] → W p l e rmX10_ones s m args below meth c H locs 0 0 Z (F0 m 4 ls []) := by
    intro  v1 v2 S h
    refine lp_walk (G := fun a => match a with | (v1, v2, S) => ∀ (H : Heap) (locs : List Loc) (ls : Array Slot), va_P D vwCl (wM Y A S) H → va_S (gF A 44 s.heap.size) s.heap H locs → lv_has ls 3 [(1, .int v1), (2, .int v2)] → W p l e rmX10_ones s m args below meth c H locs 0 0 Z (F0 m 4 ls [])) (fun K4 a ih4 h => ?_) (v1, v2, S) h
    obtain ⟨v1, v2, S⟩ := a
    have ih4 : ∀ (v1 : Int32) (v2 : Int32) (S : gS), K4 (v1, v2, S) → ∀ (H : Heap) (locs : List Loc) (ls : Array Slot), va_P D vwCl (wM Y A S) H → va_S (gF A 44 s.heap.size) s.heap H locs → lv_has ls 3 [(1, .int v1), (2, .int v2)] → W p l e rmX10_ones s m args below meth c H locs 0 0 Z (F0 m 4 ls []) := fun v1 v2 S q => ih4 (v1, v2, S) q
    intro H locs ls hP hS hl
    refine lv_iload_n hx hb dX10_ones_4 rfl (lv_at hl 1 rfl) ?_
    refine lv_if_le (tgt := 21) hx hb dX10_ones_5 (by decide) (fun c1 => ?_) (fun c1 => ?_)
    · have h := h.1 c1
      refine lv_iload_n hx hb dX10_ones_21 rfl (lv_at hl 0 rfl) ?_
      exact hret _ _ _ _ _ _ dX10_ones_22 h hP hS
    · have h := h.2 c1
      refine lv_iload_n hx hb dX10_ones_8 rfl (lv_at hl 0 rfl) ?_
      refine lv_iload_n hx hb dX10_ones_9 rfl (lv_at hl 1 rfl) ?_
      refine lv_iconst (v := (2 : Int32)) hx hb dX10_ones_10 (by decide) ?_
      refine lv_irem hx hb dX10_ones_11 (by decide) ?_
      refine lv_iadd hx hb dX10_ones_12 ?_
      refine lv_topi (fun x2 ex2 => ?_)
      have h := h x2 ex2
      refine lv_istore_n (lv' := [(1, .int x2), (2, .int v2)]) hx hb dX10_ones_13 rfl hl (by decide) rfl (fun ls hl => ?_)
      refine lv_iload_n hx hb dX10_ones_14 rfl (lv_at hl 1 rfl) ?_
      refine lv_iconst (v := (2 : Int32)) hx hb dX10_ones_15 (by decide) ?_
      refine lv_idiv hx hb dX10_ones_16 (by decide) ?_
      refine lv_topi (fun x3 ex3 => ?_)
      have h := h x3 ex3
      refine lv_istore_n (lv' := [(2, .int x3), (1, .int x2)]) hx hb dX10_ones_17 rfl hl (by decide) rfl (fun ls hl => ?_)
      refine lv_goto (tgt := 4) hx hb dX10_ones_18 (by decide) ?_
      exact ih4 x2 x3 S h _ _ _ hP hS (lv_sub hl [1, 0] rfl)
  refine lv_iconst (v := (0 : Int32)) hx hb dX10_ones_0 (by decide) ?_
  refine lv_istore_n (lv' := [(1, .int (0 : Int32)), (0, .int a0)]) hx hb dX10_ones_1 rfl hl (by decide) rfl (fun ls hl => ?_)
  refine lv_iload_n hx hb dX10_ones_2 rfl (lv_at hl 1 rfl) ?_
  refine lv_istore_n (lv' := [(2, .int a0), (1, .int (0 : Int32)), (0, .int a0)]) hx hb dX10_ones_3 rfl hl (by decide) rfl (fun ls hl => ?_)
  exact tL4  (0 : Int32) a0 S h _ _ _ hP hS (lv_sub hl [1, 0] rfl)

def qX10_best_J84 (a1 : Int32) (Q : Int32 → gS → Prop) (K31 : Int32 × Int32 × Int32 × gS → Prop) (K51 : Int32 × Int32 × Int32 × Int32 × Int32 × Int32 × gS → Prop) : Int32 × Int32 × Int32 × Int32 × Int32 × Int32 × Int32 × gS → Prop := fun ⟨v2, v3, v4, v6, v7, s0, s1, S⟩ =>
  ∀ x1 : Int32, x1 = (s1 + s0) → ((((v4 >>> (v7 &&& 31)) &&& (1 : Int32)) = (1 : Int32) → (vp_in v7 12 ∧ (∀ x6 : Int32, x6 = (v6 + (ga S 16 v7.toNatClampNeg)) → (∀ x7 : Int32, x7 = v7 + (1 : Int32) → (K51 (v2, v3, v4, x1, x6, x7, S)))))) ∧ (¬ ((v4 >>> (v7 &&& 31)) &&& (1 : Int32)) = (1 : Int32) → (∀ x3 : Int32, x3 = (v6 + (0 : Int32)) → (∀ x4 : Int32, x4 = v7 + (1 : Int32) → (K51 (v2, v3, v4, x1, x3, x4, S))))))
def qX10_best_L51 (a1 : Int32) (Q : Int32 → gS → Prop) (K31 : Int32 × Int32 × Int32 × gS → Prop) (K51 : Int32 × Int32 × Int32 × Int32 × Int32 × Int32 × gS → Prop) : Int32 × Int32 × Int32 × Int32 × Int32 × Int32 × gS → Prop := fun ⟨v2, v3, v4, v5, v6, v7, S⟩ =>
  ((gi S 3) ≤ v7 → ((a1 < v5 → (∀ x10 : Int32, x10 = v4 + (1 : Int32) → (K31 (v2, v3, x10, S)))) ∧ (¬ a1 < v5 → ((v3 < v6 → (∀ x12 : Int32, x12 = v4 + (1 : Int32) → (K31 (v4, v6, x12, S)))) ∧ (¬ v3 < v6 → ((v6 = v3 → (qX10_ones S v4 (fun r16 S15 => qX10_ones S15 v2 (fun r18 S17 => (r18 ≤ r16 → (∀ x20 : Int32, x20 = v4 + (1 : Int32) → (K31 (v2, v3, x20, S17)))) ∧ (¬ r18 ≤ r16 → (∀ x21 : Int32, x21 = v4 + (1 : Int32) → (K31 (v4, v6, x21, S17)))))))) ∧ (¬ v6 = v3 → (∀ x14 : Int32, x14 = v4 + (1 : Int32) → (K31 (v2, v3, x14, S)))))))))) ∧ (¬ (gi S 3) ≤ v7 → ((((v4 >>> (v7 &&& 31)) &&& (1 : Int32)) = (1 : Int32) → (vp_in v7 12 ∧ (qX10_best_J84 a1 Q K31 K51 (v2, v3, v4, v6, v7, (ga S 15 v7.toNatClampNeg), v5, S)))) ∧ (¬ ((v4 >>> (v7 &&& 31)) &&& (1 : Int32)) = (1 : Int32) → (qX10_best_J84 a1 Q K31 K51 (v2, v3, v4, v6, v7, (0 : Int32), v5, S)))))
def qX10_best_L31 (a1 : Int32) (Q : Int32 → gS → Prop) (K31 : Int32 × Int32 × Int32 × gS → Prop) : Int32 × Int32 × Int32 × gS → Prop := fun ⟨v2, v3, v4, S⟩ =>
  (((1 : Int32) <<< ((gi S 3) &&& 31)) ≤ v4 → (Q v2 S)) ∧ (¬ ((1 : Int32) <<< ((gi S 3) &&& 31)) ≤ v4 → (lp (qX10_best_L51 a1 Q K31) (v2, v3, v4, (0 : Int32), (0 : Int32), (0 : Int32), S)))
def qX10_best (S : gS) (a1 : Int32) (Q : Int32 → gS → Prop) : Prop :=
  (0 ≤ a1 → ((a1 ≤ (100 : Int32) → (lp (qX10_best_L31 a1 Q) ((0 : Int32), (0 : Int32), (1 : Int32), S))) ∧ (¬ a1 ≤ (100 : Int32) → (qX10_refuse S (-6 : Int32) (fun r28 S27 => Q r28 S27))))) ∧ (¬ 0 ≤ a1 → (qX10_refuse S (-4 : Int32) (fun r30 S29 => Q r30 S29)))
abbrev rmX10_best : Room := { frames := 1, cells := 0, slots := 0, locals := 22 }
set_option maxHeartbeats 4000000 in
set_option maxRecDepth 100000 in
theorem kX10_best (l : Launch) (D : va_G) (Y : Nat → ClassId) (A : Nat → Nat) (hI : iM A) (sz : Nat) (S : gS) (a1 : Int32) (Q : Int32 → gS → Prop) (h : qX10_best S a1 Q) : Met l yX10_best wsX10_best rmX10_best (gPc [.ref (A 0), .int a1] sz D vwCl (tY Y) (wM Y A S)) (va_Qi Q (fun S' t => gH D vwCl (tY Y) (wM Y A S') t) (gF A 44 sz)) 0 0 (gF A 44 sz) := by
  refine gMet_i (cc := cX10_best) (maxL := 8) (by decide +kernel) rfl (Nat.le_of_ble_eq_true rfl) (fun p e s m args below meth c Z H locs hx hb hml hts hown hK hP hS hret ls hl => ?_)
  have hown : s.vm.findClass RX10 = some m.cls := hown
  have hl : lv_has ls 8 [(0, .ref (A 0)), (1, .int a1)] := hl
  have hD : ∀ S0 : gS, va_D (gF A 44 s.heap.size) (wM Y A S0) := fun S0 => dM hI S0 (fun k hk => gF_in hk)
  have k0 : ∀ w ∈ u_ws RX10 TX10 54, w ∈ wsX10_best := by decide +kernel
  have k1 := hts (.fieldLink RX10 62 "CoastWatchModel" "guess" "[I") (by decide +kernel)
  have k2 := hts (.fieldLink RX10 164 "CoastWatchModel" "hides" "I") (by decide +kernel)
  have k3 := hts (.fieldLink RX10 59 "CoastWatchModel" "hideCost" "[I") (by decide +kernel)
  have tJ84 : ∀ (K31 : Int32 × Int32 × Int32 × gS → Prop) (ih31 : ∀ (v2 : Int32) (v3 : Int32) (v4 : Int32) (S : gS), K31 (v2, v3, v4, S) → ∀ (H : Heap) (locs : List Loc) (ls : Array Slot), va_P D vwCl (wM Y A S) H → va_S (gF A 44 s.heap.size) s.heap H locs → lv_has ls 8 [(0, .ref (A 0)), (1, .int a1), (2, .int v2), (3, .int v3), (4, .int v4)] → W p l e rmX10_best s m args below meth c H locs 0 0 Z (F0 m 31 ls [])) (K51 : Int32 × Int32 × Int32 × Int32 × Int32 × Int32 × gS → Prop) (ih51 : ∀ (v2 : Int32) (v3 : Int32) (v4 : Int32) (v5 : Int32) (v6 : Int32) (v7 : Int32) (S : gS), K51 (v2, v3, v4, v5, v6, v7, S) → ∀ (H : Heap) (locs : List Loc) (ls : Array Slot), va_P D vwCl (wM Y A S) H → va_S (gF A 44 s.heap.size) s.heap H locs → lv_has ls 8 [(0, .ref (A 0)), (1, .int a1), (2, .int v2), (3, .int v3), (4, .int v4), (5, .int v5), (6, .int v6), (7, .int v7)] → W p l e rmX10_best s m args below meth c H locs 0 0 Z (F0 m 51 ls [])) (v2 : Int32) (v3 : Int32) (v4 : Int32) (v6 : Int32) (v7 : Int32) (s0 : Int32) (s1 : Int32) (S : gS), qX10_best_J84 a1 Q K31 K51 (v2, v3, v4, v6, v7, s0, s1, S) → ∀ (H : Heap) (locs : List Loc) (ls : Array Slot), va_P D vwCl (wM Y A S) H → va_S (gF A 44 s.heap.size) s.heap H locs → lv_has ls 8 [(0, .ref (A 0)), (1, .int a1), (2, .int v2), (3, .int v3), (4, .int v4), (6, .int v6), (7, .int v7)] → W p l e rmX10_best s m args below meth c H locs 0 0 Z (F0 m 84 ls [.int s0, .int s1]) := by
    intro K31 ih31 K51 ih51 v2 v3 v4 v6 v7 s0 s1 S h
    intro H locs ls hP hS hl
    refine lv_iadd hx hb dX10_best_84 ?_
    refine lv_topi (fun x1 ex1 => ?_)
    have h := h x1 ex1
    refine lv_istore (lv' := [(5, .int x1), (0, .ref (A 0)), (1, .int a1), (2, .int v2), (3, .int v3), (4, .int v4), (6, .int v6), (7, .int v7)]) hx hb dX10_best_85 hl (by decide) rfl (fun ls hl => ?_)
    refine lv_iload hx hb dX10_best_87 (lv_at hl 6 rfl) ?_
    refine lv_iload hx hb dX10_best_89 (lv_at hl 5 rfl) ?_
    refine lv_iload hx hb dX10_best_91 (lv_at hl 7 rfl) ?_
    refine lv_ishr hx hb dX10_best_93 ?_
    refine lv_iconst (v := (1 : Int32)) hx hb dX10_best_94 (by decide) ?_
    refine lv_iand hx hb dX10_best_95 ?_
    refine lv_iconst (v := (1 : Int32)) hx hb dX10_best_96 (by decide) ?_
    refine lv_icmp_ne (tgt := 110) hx hb dX10_best_97 (by decide) (fun c2 => ?_) (fun c2 => ?_)
    · have h := h.2 c2
      refine lv_iconst (v := (0 : Int32)) hx hb dX10_best_110 (by decide) ?_
      refine lv_iadd hx hb dX10_best_111 ?_
      refine lv_topi (fun x3 ex3 => ?_)
      have h := h x3 ex3
      refine lv_istore (lv' := [(6, .int x3), (5, .int x1), (0, .ref (A 0)), (1, .int a1), (2, .int v2), (3, .int v3), (4, .int v4), (7, .int v7)]) hx hb dX10_best_112 hl (by decide) rfl (fun ls hl => ?_)
      obtain ⟨x4, ex4⟩ : ∃ z : Int32, z = v7 + (1 : Int32) := ⟨_, rfl⟩
      have h := h x4 ex4
      refine lv_iinc (v := x4) (lv' := [(7, .int x4), (6, .int x3), (5, .int x1), (0, .ref (A 0)), (1, .int a1), (2, .int v2), (3, .int v3), (4, .int v4)]) hx hb dX10_best_114 hl (k := 7) rfl (by rw [ex4]; rfl) (by decide) rfl (fun ls hl => ?_)
      refine lv_goto (tgt := 51) hx hb dX10_best_117 (by decide) ?_
      exact ih51 v2 v3 v4 x1 x3 x4 S h _ _ _ hP hS (lv_sub hl [3, 4, 5, 6, 7, 2, 1, 0] rfl)
    · have h := h.1 c2
      refine lv_aload_n hx hb dX10_best_100 rfl (lv_at hl 1 rfl) ?_
      refine va_get (ci := 10) (v := .ref (A 17)) (C := RX10) (T := TX10) (N := 54) hx hb hts k0 hown hK hP 0 (aM0 Y A S) rfl 20 (by decide) k1 (fun _ h9 => h9) rfl dX10_best_101 ?_
      refine lv_iload hx hb dX10_best_104 (lv_at hl 7 rfl) ?_
      have v_5 := h.1
      have h := h.2
      refine va_iald hx hb hK hP 17 0 (aM17 Y A S) rfl v_5 dX10_best_106 ?_
      refine lv_goto (tgt := 111) hx hb dX10_best_107 (by decide) ?_
      refine lv_iadd hx hb dX10_best_111 ?_
      refine lv_topi (fun x6 ex6 => ?_)
      have h := h x6 ex6
      refine lv_istore (lv' := [(6, .int x6), (5, .int x1), (0, .ref (A 0)), (1, .int a1), (2, .int v2), (3, .int v3), (4, .int v4), (7, .int v7)]) hx hb dX10_best_112 hl (by decide) rfl (fun ls hl => ?_)
      obtain ⟨x7, ex7⟩ : ∃ z : Int32, z = v7 + (1 : Int32) := ⟨_, rfl⟩
      have h := h x7 ex7
      refine lv_iinc (v := x7) (lv' := [(7, .int x7), (6, .int x6), (5, .int x1), (0, .ref (A 0)), (1, .int a1), (2, .int v2), (3, .int v3), (4, .int v4)]) hx hb dX10_best_114 hl (k := 7) rfl (by rw [ex7]; rfl) (by decide) rfl (fun ls hl => ?_)
      refine lv_goto (tgt := 51) hx hb dX10_best_117 (by decide) ?_
      exact ih51 v2 v3 v4 x1 x6 x7 S h _ _ _ hP hS (lv_sub hl [3, 4, 5, 6, 7, 2, 1, 0] rfl)
  have tL51 : ∀ (K31 : Int32 × Int32 × Int32 × gS → Prop) (ih31 : ∀ (v2 : Int32) (v3 : Int32) (v4 : Int32) (S : gS), K31 (v2, v3, v4, S) → ∀ (H : Heap) (locs : List Loc) (ls : Array Slot), va_P D vwCl (wM Y A S) H → va_S (gF A 44 s.heap.size) s.heap H locs → lv_has ls 8 [(0, .ref (A 0)), (1, .int a1), (2, .int v2), (3, .int v3), (4, .int v4)] → W p l e rmX10_best s m args below meth c H locs 0 0 Z (F0 m 31 ls [])) (v2 : Int32) (v3 : Int32) (v4 : Int32) (v5 : Int32) (v6 : Int32) (v7 : Int32) (S : gS), lp (qX10_best_L51 a1 Q K31) (v2, v3, v4, v5, v6, v7, S) → ∀ (H : Heap) (locs : List Loc) (ls : Array Slot), va_P D vwCl (wM Y A S) H → va_S (gF A 44 s.heap.size) s.heap H locs → lv_has ls 8 [(0, .ref (A 0)), (1, .int a1), (2, .int v2), (3, .int v3), (4, .int v4), (5, .int v5), (6, .int v6), (7, .int v7)] → W p l e rmX10_best s m args below meth c H locs 0 0 Z (F0 m 51 ls []) := by
    intro K31 ih31 v2 v3 v4 v5 v6 v7 S h
    refine lp_walk (G := fun a => match a with | (v2, v3, v4, v5, v6, v7, S) => ∀ (H : Heap) (locs : List Loc) (ls : Array Slot), va_P D vwCl (wM Y A S) H → va_S (gF A 44 s.heap.size) s.heap H locs → lv_has ls 8 [(0, .ref (A 0)), (1, .int a1), (2, .int v2), (3, .int v3), (4, .int v4), (5, .int v5), (6, .int v6), (7, .int v7)] → W p l e rmX10_best s m args below meth c H locs 0 0 Z (F0 m 51 ls [])) (fun K51 a ih51 h => ?_) (v2, v3, v4, v5, v6, v7, S) h
    obtain ⟨v2, v3, v4, v5, v6, v7, S⟩ := a
    have ih51 : ∀ (v2 : Int32) (v3 : Int32) (v4 : Int32) (v5 : Int32) (v6 : Int32) (v7 : Int32) (S : gS), K51 (v2, v3, v4, v5, v6, v7, S) → ∀ (H : Heap) (locs : List Loc) (ls : Array Slot), va_P D vwCl (wM Y A S) H → va_S (gF A 44 s.heap.size) s.heap H locs → lv_has ls 8 [(0, .ref (A 0)), (1, .int a1), (2, .int v2), (3, .int v3), (4, .int v4), (5, .int v5), (6, .int v6), (7, .int v7)] → W p l e rmX10_best s m args below meth c H locs 0 0 Z (F0 m 51 ls []) := fun v2 v3 v4 v5 v6 v7 S q => ih51 (v2, v3, v4, v5, v6, v7, S) q
    intro H locs ls hP hS hl
    refine lv_iload hx hb dX10_best_51 (lv_at hl 7 rfl) ?_
    refine lv_aload_n hx hb dX10_best_53 rfl (lv_at hl 0 rfl) ?_
    refine va_get (ci := 10) (v := .int (gi S 3)) (C := RX10) (T := TX10) (N := 54) hx hb hts k0 hown hK hP 0 (aM0 Y A S) rfl 16 (by decide) k2 (fun _ h9 => h9) rfl dX10_best_54 ?_
    refine lv_icmp_ge (tgt := 120) hx hb dX10_best_57 (by decide) (fun c8 => ?_) (fun c8 => ?_)
    · have h := h.1 c8
      refine lv_iload hx hb dX10_best_120 (lv_at hl 5 rfl) ?_
      refine lv_iload_n hx hb dX10_best_122 rfl (lv_at hl 1 rfl) ?_
      refine lv_icmp_gt (tgt := 156) hx hb dX10_best_123 (by decide) (fun c9 => ?_) (fun c9 => ?_)
      · have h := h.1 c9
        obtain ⟨x10, ex10⟩ : ∃ z : Int32, z = v4 + (1 : Int32) := ⟨_, rfl⟩
        have h := h x10 ex10
        refine lv_iinc (v := x10) (lv' := [(4, .int x10), (0, .ref (A 0)), (1, .int a1), (2, .int v2), (3, .int v3), (5, .int v5), (6, .int v6), (7, .int v7)]) hx hb dX10_best_156 hl (k := 4) rfl (by rw [ex10]; rfl) (by decide) rfl (fun ls hl => ?_)
        refine lv_goto (tgt := 31) hx hb dX10_best_159 (by decide) ?_
        exact ih31 v2 v3 x10 S h _ _ _ hP hS (lv_sub hl [1, 2, 3, 4, 0] rfl)
      · have h := h.2 c9
        refine lv_iload hx hb dX10_best_126 (lv_at hl 6 rfl) ?_
        refine lv_iload_n hx hb dX10_best_128 rfl (lv_at hl 3 rfl) ?_
        refine lv_icmp_gt (tgt := 150) hx hb dX10_best_129 (by decide) (fun c11 => ?_) (fun c11 => ?_)
        · have h := h.1 c11
          refine lv_iload hx hb dX10_best_150 (lv_at hl 4 rfl) ?_
          refine lv_istore_n (lv' := [(2, .int v4), (0, .ref (A 0)), (1, .int a1), (3, .int v3), (4, .int v4), (5, .int v5), (6, .int v6), (7, .int v7)]) hx hb dX10_best_152 rfl hl (by decide) rfl (fun ls hl => ?_)
          refine lv_iload hx hb dX10_best_153 (lv_at hl 6 rfl) ?_
          refine lv_istore_n (lv' := [(3, .int v6), (2, .int v4), (0, .ref (A 0)), (1, .int a1), (4, .int v4), (5, .int v5), (6, .int v6), (7, .int v7)]) hx hb dX10_best_155 rfl hl (by decide) rfl (fun ls hl => ?_)
          obtain ⟨x12, ex12⟩ : ∃ z : Int32, z = v4 + (1 : Int32) := ⟨_, rfl⟩
          have h := h x12 ex12
          refine lv_iinc (v := x12) (lv' := [(4, .int x12), (3, .int v6), (2, .int v4), (0, .ref (A 0)), (1, .int a1), (5, .int v5), (6, .int v6), (7, .int v7)]) hx hb dX10_best_156 hl (k := 4) rfl (by rw [ex12]; rfl) (by decide) rfl (fun ls hl => ?_)
          refine lv_goto (tgt := 31) hx hb dX10_best_159 (by decide) ?_
          exact ih31 v4 v6 x12 S h _ _ _ hP hS (lv_sub hl [3, 4, 2, 1, 0] rfl)
        · have h := h.2 c11
          refine lv_iload hx hb dX10_best_132 (lv_at hl 6 rfl) ?_
          refine lv_iload_n hx hb dX10_best_134 rfl (lv_at hl 3 rfl) ?_
          refine lv_icmp_ne (tgt := 156) hx hb dX10_best_135 (by decide) (fun c13 => ?_) (fun c13 => ?_)
          · have h := h.2 c13
            obtain ⟨x14, ex14⟩ : ∃ z : Int32, z = v4 + (1 : Int32) := ⟨_, rfl⟩
            have h := h x14 ex14
            refine lv_iinc (v := x14) (lv' := [(4, .int x14), (0, .ref (A 0)), (1, .int a1), (2, .int v2), (3, .int v3), (5, .int v5), (6, .int v6), (7, .int v7)]) hx hb dX10_best_156 hl (k := 4) rfl (by rw [ex14]; rfl) (by decide) rfl (fun ls hl => ?_)
            refine lv_goto (tgt := 31) hx hb dX10_best_159 (by decide) ?_
            exact ih31 v2 v3 x14 S h _ _ _ hP hS (lv_sub hl [1, 2, 3, 4, 0] rfl)
          · have h := h.1 c13
            refine lv_iload hx hb dX10_best_138 (lv_at hl 4 rfl) ?_
            refine gSi (As := [.int v4]) (rest := []) ⟨hx, hb, hml, hown, hts⟩ (kX10_ones l D Y A hI H.size S v4 _ h) (va_cwS 1 hts gX10_best_X10_ones rfl rfl rfl (by decide +kernel) ⟨Nat.le_of_ble_eq_true rfl, Nat.le_of_ble_eq_true rfl⟩) hK hP hS (gF_le hS.1) rfl rfl hl.1 (Nat.le_of_ble_eq_true rfl) dX10_best_140 ⟨Nat.zero_le _, Nat.zero_le _⟩ ?_
            intro r16 S15 H locs h hP hS
            refine lv_iload_n hx hb dX10_best_143 rfl (lv_at hl 2 rfl) ?_
            refine gSi (As := [.int v2]) (rest := [.int r16]) ⟨hx, hb, hml, hown, hts⟩ (kX10_ones l D Y A hI H.size S15 v2 _ h) (va_cwS 1 hts gX10_best_X10_ones rfl rfl rfl (by decide +kernel) ⟨Nat.le_of_ble_eq_true rfl, Nat.le_of_ble_eq_true rfl⟩) hK hP hS (gF_le hS.1) rfl rfl hl.1 (Nat.le_of_ble_eq_true rfl) dX10_best_144 ⟨Nat.zero_le _, Nat.zero_le _⟩ ?_
            intro r18 S17 H locs h hP hS
            refine lv_icmp_ge (tgt := 156) hx hb dX10_best_147 (by decide) (fun c19 => ?_) (fun c19 => ?_)
            · have h := h.1 c19
              obtain ⟨x20, ex20⟩ : ∃ z : Int32, z = v4 + (1 : Int32) := ⟨_, rfl⟩
              have h := h x20 ex20
              refine lv_iinc (v := x20) (lv' := [(4, .int x20), (0, .ref (A 0)), (1, .int a1), (2, .int v2), (3, .int v3), (5, .int v5), (6, .int v6), (7, .int v7)]) hx hb dX10_best_156 hl (k := 4) rfl (by rw [ex20]; rfl) (by decide) rfl (fun ls hl => ?_)
              refine lv_goto (tgt := 31) hx hb dX10_best_159 (by decide) ?_
              exact ih31 v2 v3 x20 S17 h _ _ _ hP hS (lv_sub hl [1, 2, 3, 4, 0] rfl)
            · have h := h.2 c19
              refine lv_iload hx hb dX10_best_150 (lv_at hl 4 rfl) ?_
              refine lv_istore_n (lv' := [(2, .int v4), (0, .ref (A 0)), (1, .int a1), (3, .int v3), (4, .int v4), (5, .int v5), (6, .int v6), (7, .int v7)]) hx hb dX10_best_152 rfl hl (by decide) rfl (fun ls hl => ?_)
              refine lv_iload hx hb dX10_best_153 (lv_at hl 6 rfl) ?_
              refine lv_istore_n (lv' := [(3, .int v6), (2, .int v4), (0, .ref (A 0)), (1, .int a1), (4, .int v4), (5, .int v5), (6, .int v6), (7, .int v7)]) hx hb dX10_best_155 rfl hl (by decide) rfl (fun ls hl => ?_)
              obtain ⟨x21, ex21⟩ : ∃ z : Int32, z = v4 + (1 : Int32) := ⟨_, rfl⟩
              have h := h x21 ex21
              refine lv_iinc (v := x21) (lv' := [(4, .int x21), (3, .int v6), (2, .int v4), (0, .ref (A 0)), (1, .int a1), (5, .int v5), (6, .int v6), (7, .int v7)]) hx hb dX10_best_156 hl (k := 4) rfl (by rw [ex21]; rfl) (by decide) rfl (fun ls hl => ?_)
              refine lv_goto (tgt := 31) hx hb dX10_best_159 (by decide) ?_
              exact ih31 v4 v6 x21 S17 h _ _ _ hP hS (lv_sub hl [3, 4, 2, 1, 0] rfl)
    · have h := h.2 c8
      refine lv_iload hx hb dX10_best_60 (lv_at hl 5 rfl) ?_
      refine lv_iload hx hb dX10_best_62 (lv_at hl 4 rfl) ?_
      refine lv_iload hx hb dX10_best_64 (lv_at hl 7 rfl) ?_
      refine lv_ishr hx hb dX10_best_66 ?_
      refine lv_iconst (v := (1 : Int32)) hx hb dX10_best_67 (by decide) ?_
      refine lv_iand hx hb dX10_best_68 ?_
      refine lv_iconst (v := (1 : Int32)) hx hb dX10_best_69 (by decide) ?_
      refine lv_icmp_ne (tgt := 83) hx hb dX10_best_70 (by decide) (fun c22 => ?_) (fun c22 => ?_)
      · have h := h.2 c22
        refine lv_iconst (v := (0 : Int32)) hx hb dX10_best_83 (by decide) ?_
        exact tJ84 K31 ih31 K51 ih51 v2 v3 v4 v6 v7 (0 : Int32) v5 S h _ _ _ hP hS (lv_sub hl [0, 1, 2, 3, 4, 6, 7] rfl)
      · have h := h.1 c22
        refine lv_aload_n hx hb dX10_best_73 rfl (lv_at hl 0 rfl) ?_
        refine va_get (ci := 10) (v := .ref (A 16)) (C := RX10) (T := TX10) (N := 54) hx hb hts k0 hown hK hP 0 (aM0 Y A S) rfl 19 (by decide) k3 (fun _ h9 => h9) rfl dX10_best_74 ?_
        refine lv_iload hx hb dX10_best_77 (lv_at hl 7 rfl) ?_
        have v_23 := h.1
        have h := h.2
        refine va_iald hx hb hK hP 16 0 (aM16 Y A S) rfl v_23 dX10_best_79 ?_
        refine lv_goto (tgt := 84) hx hb dX10_best_80 (by decide) ?_
        exact tJ84 K31 ih31 K51 ih51 v2 v3 v4 v6 v7 (ga S 15 v7.toNatClampNeg) v5 S h _ _ _ hP hS (lv_sub hl [0, 1, 2, 3, 4, 6, 7] rfl)
  have tL31 : ∀ (v2 : Int32) (v3 : Int32) (v4 : Int32) (S : gS), lp (qX10_best_L31 a1 Q) (v2, v3, v4, S) → ∀ (H : Heap) (locs : List Loc) (ls : Array Slot), va_P D vwCl (wM Y A S) H → va_S (gF A 44 s.heap.size) s.heap H locs → lv_has ls 8 [(0, .ref (A 0)), (1, .int a1), (2, .int v2), (3, .int v3), (4, .int v4)] → W p l e rmX10_best s m args below meth c H locs 0 0 Z (F0 m 31 ls []) := by
    intro  v2 v3 v4 S h
    refine lp_walk (G := fun a => match a with | (v2, v3, v4, S) => ∀ (H : Heap) (locs : List Loc) (ls : Array Slot), va_P D vwCl (wM Y A S) H → va_S (gF A 44 s.heap.size) s.heap H locs → lv_has ls 8 [(0, .ref (A 0)), (1, .int a1), (2, .int v2), (3, .int v3), (4, .int v4)] → W p l e rmX10_best s m args below meth c H locs 0 0 Z (F0 m 31 ls [])) (fun K31 a ih31 h => ?_) (v2, v3, v4, S) h
    obtain ⟨v2, v3, v4, S⟩ := a
    have ih31 : ∀ (v2 : Int32) (v3 : Int32) (v4 : Int32) (S : gS), K31 (v2, v3, v4, S) → ∀ (H : Heap) (locs : List Loc) (ls : Array Slot), va_P D vwCl (wM Y A S) H → va_S (gF A 44 s.heap.size) s.heap H locs → lv_has ls 8 [(0, .ref (A 0)), (1, .int a1), (2, .int v2), (3, .int v3), (4, .int v4)] → W p l e rmX10_best s m args below meth c H locs 0 0 Z (F0 m 31 ls []) := fun v2 v3 v4 S q => ih31 (v2, v3, v4, S) q
    intro H locs ls hP hS hl
    refine lv_iload hx hb dX10_best_31 (lv_at hl 4 rfl) ?_
    refine lv_iconst (v := (1 : Int32)) hx hb dX10_best_33 (by decide) ?_
    refine lv_aload_n hx hb dX10_best_34 rfl (lv_at hl 0 rfl) ?_
    refine va_get (ci := 10) (v := .int (gi S 3)) (C := RX10) (T := TX10) (N := 54) hx hb hts k0 hown hK hP 0 (aM0 Y A S) rfl 16 (by decide) k2 (fun _ h9 => h9) rfl dX10_best_35 ?_
    refine lv_ishl hx hb dX10_best_38 ?_
    refine lv_icmp_ge (tgt := 162) hx hb dX10_best_39 (by decide) (fun c24 => ?_) (fun c24 => ?_)
    · have h := h.1 c24
      refine lv_iload_n hx hb dX10_best_162 rfl (lv_at hl 2 rfl) ?_
      exact hret _ _ _ _ _ _ dX10_best_163 h hP hS
    · have h := h.2 c24
      refine lv_iconst (v := (0 : Int32)) hx hb dX10_best_42 (by decide) ?_
      refine lv_istore (lv' := [(5, .int (0 : Int32)), (0, .ref (A 0)), (1, .int a1), (2, .int v2), (3, .int v3), (4, .int v4)]) hx hb dX10_best_43 hl (by decide) rfl (fun ls hl => ?_)
      refine lv_iconst (v := (0 : Int32)) hx hb dX10_best_45 (by decide) ?_
      refine lv_istore (lv' := [(6, .int (0 : Int32)), (5, .int (0 : Int32)), (0, .ref (A 0)), (1, .int a1), (2, .int v2), (3, .int v3), (4, .int v4)]) hx hb dX10_best_46 hl (by decide) rfl (fun ls hl => ?_)
      refine lv_iconst (v := (0 : Int32)) hx hb dX10_best_48 (by decide) ?_
      refine lv_istore (lv' := [(7, .int (0 : Int32)), (6, .int (0 : Int32)), (5, .int (0 : Int32)), (0, .ref (A 0)), (1, .int a1), (2, .int v2), (3, .int v3), (4, .int v4)]) hx hb dX10_best_49 hl (by decide) rfl (fun ls hl => ?_)
      exact tL51 K31 ih31 v2 v3 v4 (0 : Int32) (0 : Int32) (0 : Int32) S h _ _ _ hP hS (lv_sub hl [3, 4, 5, 6, 7, 2, 1, 0] rfl)
  refine lv_iload_n hx hb dX10_best_0 rfl (lv_at hl 1 rfl) ?_
  refine lv_if_ge (tgt := 11) hx hb dX10_best_1 (by decide) (fun c25 => ?_) (fun c25 => ?_)
  · have h := h.1 c25
    refine lv_iload_n hx hb dX10_best_11 rfl (lv_at hl 1 rfl) ?_
    refine lv_bipush (v := (100 : Int32)) hx hb dX10_best_12 (by decide) ?_
    refine lv_icmp_le (tgt := 24) hx hb dX10_best_14 (by decide) (fun c26 => ?_) (fun c26 => ?_)
    · have h := h.1 c26
      refine lv_iconst (v := (0 : Int32)) hx hb dX10_best_24 (by decide) ?_
      refine lv_istore_n (lv' := [(2, .int (0 : Int32)), (0, .ref (A 0)), (1, .int a1)]) hx hb dX10_best_25 rfl hl (by decide) rfl (fun ls hl => ?_)
      refine lv_iconst (v := (0 : Int32)) hx hb dX10_best_26 (by decide) ?_
      refine lv_istore_n (lv' := [(3, .int (0 : Int32)), (2, .int (0 : Int32)), (0, .ref (A 0)), (1, .int a1)]) hx hb dX10_best_27 rfl hl (by decide) rfl (fun ls hl => ?_)
      refine lv_iconst (v := (1 : Int32)) hx hb dX10_best_28 (by decide) ?_
      refine lv_istore (lv' := [(4, .int (1 : Int32)), (3, .int (0 : Int32)), (2, .int (0 : Int32)), (0, .ref (A 0)), (1, .int a1)]) hx hb dX10_best_29 hl (by decide) rfl (fun ls hl => ?_)
      exact tL31  (0 : Int32) (0 : Int32) (1 : Int32) S h _ _ _ hP hS (lv_sub hl [3, 4, 2, 1, 0] rfl)
    · have h := h.2 c26
      refine lv_aload_n hx hb dX10_best_17 rfl (lv_at hl 0 rfl) ?_
      refine lv_bipush (v := (-6 : Int32)) hx hb dX10_best_18 (by decide) ?_
      refine gVi (As := [.int (-6 : Int32)]) (rest := []) ⟨hx, hb, hml, hown, hts⟩ (kX10_refuse l D Y A hI H.size S (-6 : Int32) _ h) (cwV 1 hts gX10_best_X10_refuse rfl rfl rfl (by decide +kernel) ⟨Nat.le_of_ble_eq_true rfl, Nat.le_of_ble_eq_true rfl⟩) hK hP hS (gF_le hS.1) (aM0 Y A S) (show vwCl[10]? = some (RX10, TX10, 54) from rfl) rfl rfl hl.1 (Nat.le_of_ble_eq_true rfl) dX10_best_20 ⟨Nat.zero_le _, Nat.zero_le _⟩ ?_
      intro r28 S27 H locs h hP hS
      exact hret _ _ _ _ _ _ dX10_best_23 h hP hS
  · have h := h.2 c25
    refine lv_aload_n hx hb dX10_best_4 rfl (lv_at hl 0 rfl) ?_
    refine lv_bipush (v := (-4 : Int32)) hx hb dX10_best_5 (by decide) ?_
    refine gVi (As := [.int (-4 : Int32)]) (rest := []) ⟨hx, hb, hml, hown, hts⟩ (kX10_refuse l D Y A hI H.size S (-4 : Int32) _ h) (cwV 1 hts gX10_best_X10_refuse rfl rfl rfl (by decide +kernel) ⟨Nat.le_of_ble_eq_true rfl, Nat.le_of_ble_eq_true rfl⟩) hK hP hS (gF_le hS.1) (aM0 Y A S) (show vwCl[10]? = some (RX10, TX10, 54) from rfl) rfl rfl hl.1 (Nat.le_of_ble_eq_true rfl) dX10_best_7 ⟨Nat.zero_le _, Nat.zero_le _⟩ ?_
    intro r30 S29 H locs h hP hS
    exact hret _ _ _ _ _ _ dX10_best_10 h hP hS

def qX10_divisor_L17 (a0 : Int64) (a2 : Int64) (Q : Int64 → gS → Prop) (K17 : Int64 × Int64 × gS → Prop) : Int64 × Int64 × gS → Prop := fun ⟨v4, v6, S⟩ =>
  ((lg_cmp v6 (0 : Int64)) = 0 → (Q v4 S)) ∧ (¬ (lg_cmp v6 (0 : Int64)) = 0 → (¬ v6 = 0 ∧ (∀ x3 : Int64, x3 = (v4 - v4 / v6 * v6) → (K17 (v6, x3, S)))))
def qX10_divisor (S : gS) (a0 : Int64) (a2 : Int64) (Q : Int64 → gS → Prop) : Prop :=
  (0 ≤ (lg_cmp a0 (0 : Int64)) → (lp (qX10_divisor_L17 a0 a2 Q) (a0, a2, S))) ∧ (¬ 0 ≤ (lg_cmp a0 (0 : Int64)) → (∀ x5 : Int64, x5 = (-a0) → (lp (qX10_divisor_L17 a0 a2 Q) (x5, a2, S))))
abbrev rmX10_divisor : Room := { frames := 0, cells := 0, slots := 0, locals := 0 }
set_option maxHeartbeats 4000000 in
set_option maxRecDepth 100000 in
theorem kX10_divisor (l : Launch) (D : va_G) (Y : Nat → ClassId) (A : Nat → Nat) (hI : iM A) (sz : Nat) (S : gS) (a0 : Int64) (a2 : Int64) (Q : Int64 → gS → Prop) (h : qX10_divisor S a0 a2 Q) : Met l yX10_divisor wsX10_divisor rmX10_divisor (gPc [.long a0, .long a2] sz D vwCl (tY Y) (wM Y A S)) (va_Ql Q (fun S' t => gH D vwCl (tY Y) (wM Y A S') t) (gF A 44 sz)) 0 0 (gF A 44 sz) := by
  refine gMet_l (cc := cX10_divisor) (maxL := 10) (by decide +kernel) rfl (Nat.le_of_ble_eq_true rfl) (fun p e s m args below meth c Z H locs hx hb hml hts hown hK hP hS hret ls hl => ?_)
  have hown : s.vm.findClass RX10 = some m.cls := hown
  have hl : lv_has ls 10 [(0, .long a0), (2, .long a2)] := hl
  have hD : ∀ S0 : gS, va_D (gF A 44 s.heap.size) (wM Y A S0) := fun S0 => dM hI S0 (fun k hk => gF_in hk)
  have tL17 : ∀ (v4 : Int64) (v6 : Int64) (S : gS), lp (qX10_divisor_L17 a0 a2 Q) (v4, v6, S) → ∀ (H : Heap) (locs : List Loc) (ls : Array Slot), va_P D vwCl (wM Y A S) H → va_S (gF A 44 s.heap.size) s.heap H locs → lv_has ls 10 [(4, .long v4), (6, .long v6)] → W p l e rmX10_divisor s m args below meth c H locs 0 0 Z (F0 m 17 ls []) := by
    intro  v4 v6 S h
    refine lp_walk (G := fun a => match a with | (v4, v6, S) => ∀ (H : Heap) (locs : List Loc) (ls : Array Slot), va_P D vwCl (wM Y A S) H → va_S (gF A 44 s.heap.size) s.heap H locs → lv_has ls 10 [(4, .long v4), (6, .long v6)] → W p l e rmX10_divisor s m args below meth c H locs 0 0 Z (F0 m 17 ls [])) (fun K17 a ih17 h => ?_) (v4, v6, S) h
    obtain ⟨v4, v6, S⟩ := a
    have ih17 : ∀ (v4 : Int64) (v6 : Int64) (S : gS), K17 (v4, v6, S) → ∀ (H : Heap) (locs : List Loc) (ls : Array Slot), va_P D vwCl (wM Y A S) H → va_S (gF A 44 s.heap.size) s.heap H locs → lv_has ls 10 [(4, .long v4), (6, .long v6)] → W p l e rmX10_divisor s m args below meth c H locs 0 0 Z (F0 m 17 ls []) := fun v4 v6 S q => ih17 (v4, v6, S) q
    intro H locs ls hP hS hl
    refine lv_lload hx hb dX10_divisor_17 (lv_at hl 1 rfl) ?_
    refine lv_lconst (v := (0 : Int64)) hx hb dX10_divisor_19 (by decide) ?_
    refine W.lcmp hx hb dX10_divisor_20 ?_
    refine lv_if_eq (tgt := 42) hx hb dX10_divisor_21 (by decide) (fun c1 => ?_) (fun c1 => ?_)
    · have h := h.1 c1
      refine lv_lload hx hb dX10_divisor_42 (lv_at hl 0 rfl) ?_
      exact hret _ _ _ _ _ _ dX10_divisor_44 h hP hS
    · have h := h.2 c1
      refine lv_lload hx hb dX10_divisor_24 (lv_at hl 0 rfl) ?_
      refine lv_lload hx hb dX10_divisor_26 (lv_at hl 1 rfl) ?_
      have n_2 := h.1
      have h := h.2
      refine lv_lrem hx hb dX10_divisor_28 n_2 ?_
      refine lv_topl (fun x3 ex3 => ?_)
      have h := h x3 ex3
      refine lv_lstore (lv' := [(8, .long x3), (4, .long v4), (6, .long v6)]) hx hb dX10_divisor_29 hl (by decide) rfl (fun ls hl => ?_)
      refine lv_lload hx hb dX10_divisor_31 (lv_at hl 2 rfl) ?_
      refine lv_lstore (lv' := [(4, .long v6), (8, .long x3), (6, .long v6)]) hx hb dX10_divisor_33 hl (by decide) rfl (fun ls hl => ?_)
      refine lv_lload hx hb dX10_divisor_35 (lv_at hl 1 rfl) ?_
      refine lv_lstore (lv' := [(6, .long x3), (4, .long v6), (8, .long x3)]) hx hb dX10_divisor_37 hl (by decide) rfl (fun ls hl => ?_)
      refine lv_goto (tgt := 17) hx hb dX10_divisor_39 (by decide) ?_
      exact ih17 v6 x3 S h _ _ _ hP hS (lv_sub hl [1, 0] rfl)
  refine lv_lload_n hx hb dX10_divisor_0 rfl (lv_at hl 0 rfl) ?_
  refine lv_lconst (v := (0 : Int64)) hx hb dX10_divisor_1 (by decide) ?_
  refine W.lcmp hx hb dX10_divisor_2 ?_
  refine lv_if_ge (tgt := 11) hx hb dX10_divisor_3 (by decide) (fun c4 => ?_) (fun c4 => ?_)
  · have h := h.1 c4
    refine lv_lload_n hx hb dX10_divisor_11 rfl (lv_at hl 0 rfl) ?_
    refine lv_lstore (lv' := [(4, .long a0), (0, .long a0), (2, .long a2)]) hx hb dX10_divisor_12 hl (by decide) rfl (fun ls hl => ?_)
    refine lv_lload_n hx hb dX10_divisor_14 rfl (lv_at hl 2 rfl) ?_
    refine lv_lstore (lv' := [(6, .long a2), (4, .long a0), (0, .long a0), (2, .long a2)]) hx hb dX10_divisor_15 hl (by decide) rfl (fun ls hl => ?_)
    exact tL17  a0 a2 S h _ _ _ hP hS (lv_sub hl [1, 0] rfl)
  · have h := h.2 c4
    refine lv_lload_n hx hb dX10_divisor_6 rfl (lv_at hl 0 rfl) ?_
    refine lv_lneg hx hb dX10_divisor_7 ?_
    refine lv_goto (tgt := 12) hx hb dX10_divisor_8 (by decide) ?_
    refine lv_topl (fun x5 ex5 => ?_)
    have h := h x5 ex5
    refine lv_lstore (lv' := [(4, .long x5), (0, .long a0), (2, .long a2)]) hx hb dX10_divisor_12 hl (by decide) rfl (fun ls hl => ?_)
    refine lv_lload_n hx hb dX10_divisor_14 rfl (lv_at hl 2 rfl) ?_
    refine lv_lstore (lv' := [(6, .long a2), (4, .long x5), (0, .long a0), (2, .long a2)]) hx hb dX10_divisor_15 hl (by decide) rfl (fun ls hl => ?_)
    exact tL17  x5 a2 S h _ _ _ hP hS (lv_sub hl [1, 0] rfl)

def qX10_side (S : gS) (a0 : Int64) (a2 : Int64) (a4 : Int32) (Q : Int64 → gS → Prop) : Prop :=
  qX10_divisor S a0 a2 (fun r2 S1 => (a4 = 0 → (¬ r2 = 0 ∧ (Q (a0 / r2) S1))) ∧ (¬ a4 = 0 → (¬ r2 = 0 ∧ (Q (a2 / r2) S1))))
abbrev rmX10_side : Room := { frames := 1, cells := 0, slots := 0, locals := 29 }
set_option maxHeartbeats 4000000 in
set_option maxRecDepth 100000 in
theorem kX10_side (l : Launch) (D : va_G) (Y : Nat → ClassId) (A : Nat → Nat) (hI : iM A) (sz : Nat) (S : gS) (a0 : Int64) (a2 : Int64) (a4 : Int32) (Q : Int64 → gS → Prop) (h : qX10_side S a0 a2 a4 Q) : Met l yX10_side wsX10_side rmX10_side (gPc [.long a0, .long a2, .int a4] sz D vwCl (tY Y) (wM Y A S)) (va_Ql Q (fun S' t => gH D vwCl (tY Y) (wM Y A S') t) (gF A 44 sz)) 0 0 (gF A 44 sz) := by
  refine gMet_l (cc := cX10_side) (maxL := 7) (by decide +kernel) rfl (Nat.le_of_ble_eq_true rfl) (fun p e s m args below meth c Z H locs hx hb hml hts hown hK hP hS hret ls hl => ?_)
  have hown : s.vm.findClass RX10 = some m.cls := hown
  have hl : lv_has ls 7 [(0, .long a0), (2, .long a2), (4, .int a4)] := hl
  have hD : ∀ S0 : gS, va_D (gF A 44 s.heap.size) (wM Y A S0) := fun S0 => dM hI S0 (fun k hk => gF_in hk)
  refine lv_lload_n hx hb dX10_side_0 rfl (lv_at hl 0 rfl) ?_
  refine lv_lload_n hx hb dX10_side_1 rfl (lv_at hl 1 rfl) ?_
  refine gSl (As := [.long a0, .long a2]) (rest := []) ⟨hx, hb, hml, hown, hts⟩ (kX10_divisor l D Y A hI H.size S a0 a2 _ h) (va_cwS 2 hts gX10_side_X10_divisor rfl rfl rfl (by decide +kernel) ⟨Nat.le_of_ble_eq_true rfl, Nat.le_of_ble_eq_true rfl⟩) hK hP hS (gF_le hS.1) rfl rfl hl.1 (Nat.le_of_ble_eq_true rfl) dX10_side_2 ⟨Nat.zero_le _, Nat.zero_le _⟩ ?_
  intro r2 S1 H locs h hP hS
  refine lv_lstore (lv' := [(5, .long r2), (0, .long a0), (2, .long a2), (4, .int a4)]) hx hb dX10_side_5 hl (by decide) rfl (fun ls hl => ?_)
  refine lv_iload hx hb dX10_side_7 (lv_at hl 3 rfl) ?_
  refine lv_if_ne (tgt := 19) hx hb dX10_side_9 (by decide) (fun c3 => ?_) (fun c3 => ?_)
  · have h := h.2 c3
    refine lv_lload_n hx hb dX10_side_19 rfl (lv_at hl 2 rfl) ?_
    refine lv_lload hx hb dX10_side_20 (lv_at hl 0 rfl) ?_
    have n_4 := h.1
    have h := h.2
    refine lv_ldiv hx hb dX10_side_22 n_4 ?_
    exact hret _ _ _ _ _ _ dX10_side_23 h hP hS
  · have h := h.1 c3
    refine lv_lload_n hx hb dX10_side_12 rfl (lv_at hl 1 rfl) ?_
    refine lv_lload hx hb dX10_side_13 (lv_at hl 0 rfl) ?_
    have n_5 := h.1
    have h := h.2
    refine lv_ldiv hx hb dX10_side_15 n_5 ?_
    refine lv_goto (tgt := 23) hx hb dX10_side_16 (by decide) ?_
    exact hret _ _ _ _ _ _ dX10_side_23 h hP hS

def qX10_belief_J162 (a1 : Int32) (a2 : Int32) (a3 : Int32) (Q : Int64 → gS → Prop) (K67 : Int64 × Int64 × Int32 × gS → Prop) : Int64 × Int32 × Int32 × Int64 × Int64 × gS → Prop := fun ⟨v6, v8, v9, s0, s1, S⟩ =>
  ∀ x1 : Int64, x1 = (s1 * s0) → ((v9 = 0 → (∀ x3 : Int64, x3 = (v6 * (1 : Int64)) → (∀ x4 : Int32, x4 = v8 + (1 : Int32) → (K67 (x1, x3, x4, S))))) ∧ (¬ v9 = 0 → (vp_in v8 6 ∧ (∀ x6 : Int64, x6 = (v6 * (((ga S 34 v8.toNatClampNeg) + (ga S 35 v8.toNatClampNeg)) + (2 : Int32)).toInt64) → (∀ x7 : Int32, x7 = v8 + (1 : Int32) → (K67 (x1, x6, x7, S)))))))
def qX10_belief_L80 (a1 : Int32) (a2 : Int32) (a3 : Int32) (Q : Int64 → gS → Prop) (K67 : Int64 × Int64 × Int32 × gS → Prop) (K80 : Int64 × Int64 × Int32 × Int32 × Int32 × gS → Prop) : Int64 × Int64 × Int32 × Int32 × Int32 × gS → Prop := fun ⟨v4, v6, v8, v9, v10, S⟩ =>
  ((gi S 8) ≤ v10 → ((v9 = 0 → (qX10_belief_J162 a1 a2 a3 Q K67 (v6, v8, v9, (1 : Int64), v4, S))) ∧ (¬ v9 = 0 → (vp_in v8 6 ∧ (qX10_belief_J162 a1 a2 a3 Q K67 (v6, v8, v9, ((ga S 35 v8.toNatClampNeg) + (1 : Int32)).toInt64, v4, S)))))) ∧ (¬ (gi S 8) ≤ v10 → ((v9 = 0 → (vp_in v10 60 ∧ (((ga S 31 v10.toNatClampNeg) = v8 → (((ga S 32 v10.toNatClampNeg) = a2 → (((ga S 33 v10.toNatClampNeg) = a1 → (∀ x20 : Int32, x20 = v10 + (1 : Int32) → (K80 (v4, v6, v8, (1 : Int32), x20, S)))) ∧ (¬ (ga S 33 v10.toNatClampNeg) = a1 → (∀ x19 : Int32, x19 = v10 + (1 : Int32) → (K80 (v4, v6, v8, (0 : Int32), x19, S)))))) ∧ (¬ (ga S 32 v10.toNatClampNeg) = a2 → (∀ x17 : Int32, x17 = v10 + (1 : Int32) → (K80 (v4, v6, v8, (0 : Int32), x17, S)))))) ∧ (¬ (ga S 31 v10.toNatClampNeg) = v8 → (∀ x15 : Int32, x15 = v10 + (1 : Int32) → (K80 (v4, v6, v8, (0 : Int32), x15, S))))))) ∧ (¬ v9 = 0 → (∀ x12 : Int32, x12 = v10 + (1 : Int32) → (K80 (v4, v6, v8, (1 : Int32), x12, S))))))
def qX10_belief_L67 (a1 : Int32) (a2 : Int32) (a3 : Int32) (Q : Int64 → gS → Prop) (K67 : Int64 × Int64 × Int32 × gS → Prop) : Int64 × Int64 × Int32 × gS → Prop := fun ⟨v4, v6, v8, S⟩ =>
  ((6 : Int32) ≤ v8 → (qX10_side S (v6 - v4) v6 a3 (fun r23 S22 => Q r23 S22))) ∧ (¬ (6 : Int32) ≤ v8 → (lp (qX10_belief_L80 a1 a2 a3 Q K67) (v4, v6, v8, (0 : Int32), (0 : Int32), S)))
def qX10_belief (S : gS) (a1 : Int32) (a2 : Int32) (a3 : Int32) (Q : Int64 → gS → Prop) : Prop :=
  qX10_isCove S a1 (fun r25 S24 => (r25 = 0 → (qX10_refuse S24 (-1 : Int32) (fun r39 S38 => Q r39.toInt64 S38))) ∧ (¬ r25 = 0 → ((0 ≤ a2 → ((a2 ≤ (1000 : Int32) → (qX10_in S24 a3 (0 : Int32) (1 : Int32) (fun r30 S29 => (r30 = 0 → (qX10_refuse S29 (-2 : Int32) (fun r33 S32 => Q r33.toInt64 S32))) ∧ (¬ r30 = 0 → (lp (qX10_belief_L67 a1 a2 a3 Q) ((1 : Int64), (1 : Int64), (0 : Int32), S29)))))) ∧ (¬ a2 ≤ (1000 : Int32) → (qX10_refuse S24 (-6 : Int32) (fun r35 S34 => Q r35.toInt64 S34))))) ∧ (¬ 0 ≤ a2 → (qX10_refuse S24 (-4 : Int32) (fun r37 S36 => Q r37.toInt64 S36))))))
abbrev rmX10_belief : Room := { frames := 2, cells := 0, slots := 0, locals := 55 }
set_option maxHeartbeats 4000000 in
set_option maxRecDepth 100000 in
theorem kX10_belief (l : Launch) (D : va_G) (Y : Nat → ClassId) (A : Nat → Nat) (hI : iM A) (sz : Nat) (S : gS) (a1 : Int32) (a2 : Int32) (a3 : Int32) (Q : Int64 → gS → Prop) (h : qX10_belief S a1 a2 a3 Q) : Met l yX10_belief wsX10_belief rmX10_belief (gPc [.ref (A 0), .int a1, .int a2, .int a3] sz D vwCl (tY Y) (wM Y A S)) (va_Ql Q (fun S' t => gH D vwCl (tY Y) (wM Y A S') t) (gF A 44 sz)) 0 0 (gF A 44 sz) := by
  refine gMet_l (cc := cX10_belief) (maxL := 11) (by decide +kernel) rfl (Nat.le_of_ble_eq_true rfl) (fun p e s m args below meth c Z H locs hx hb hml hts hown hK hP hS hret ls hl => ?_)
  have hown : s.vm.findClass RX10 = some m.cls := hown
  have hl : lv_has ls 11 [(0, .ref (A 0)), (1, .int a1), (2, .int a2), (3, .int a3)] := hl
  have hD : ∀ S0 : gS, va_D (gF A 44 s.heap.size) (wM Y A S0) := fun S0 => dM hI S0 (fun k hk => gF_in hk)
  have k0 : ∀ w ∈ u_ws RX10 TX10 54, w ∈ wsX10_belief := by decide +kernel
  have k1 := hts (.fieldLink RX10 117 "CoastWatchModel" "right" "[I") (by decide +kernel)
  have k2 := hts (.fieldLink RX10 120 "CoastWatchModel" "wrong" "[I") (by decide +kernel)
  have k3 := hts (.fieldLink RX10 179 "CoastWatchModel" "words" "I") (by decide +kernel)
  have k4 := hts (.fieldLink RX10 108 "CoastWatchModel" "wordOf" "[I") (by decide +kernel)
  have k5 := hts (.fieldLink RX10 111 "CoastWatchModel" "wordNight" "[I") (by decide +kernel)
  have k6 := hts (.fieldLink RX10 114 "CoastWatchModel" "wordCove" "[I") (by decide +kernel)
  have tJ162 : ∀ (K67 : Int64 × Int64 × Int32 × gS → Prop) (ih67 : ∀ (v4 : Int64) (v6 : Int64) (v8 : Int32) (S : gS), K67 (v4, v6, v8, S) → ∀ (H : Heap) (locs : List Loc) (ls : Array Slot), va_P D vwCl (wM Y A S) H → va_S (gF A 44 s.heap.size) s.heap H locs → lv_has ls 11 [(0, .ref (A 0)), (1, .int a1), (2, .int a2), (3, .int a3), (4, .long v4), (6, .long v6), (8, .int v8)] → W p l e rmX10_belief s m args below meth c H locs 0 0 Z (F0 m 67 ls [])) (v6 : Int64) (v8 : Int32) (v9 : Int32) (s0 : Int64) (s1 : Int64) (S : gS), qX10_belief_J162 a1 a2 a3 Q K67 (v6, v8, v9, s0, s1, S) → ∀ (H : Heap) (locs : List Loc) (ls : Array Slot), va_P D vwCl (wM Y A S) H → va_S (gF A 44 s.heap.size) s.heap H locs → lv_has ls 11 [(0, .ref (A 0)), (1, .int a1), (2, .int a2), (3, .int a3), (6, .long v6), (8, .int v8), (9, .int v9)] → W p l e rmX10_belief s m args below meth c H locs 0 0 Z (F0 m 162 ls [.long s0, .long s1]) := by
    intro K67 ih67 v6 v8 v9 s0 s1 S h
    intro H locs ls hP hS hl
    refine lv_lmul hx hb dX10_belief_162 ?_
    refine lv_topl (fun x1 ex1 => ?_)
    have h := h x1 ex1
    refine lv_lstore (lv' := [(4, .long x1), (0, .ref (A 0)), (1, .int a1), (2, .int a2), (3, .int a3), (6, .long v6), (8, .int v8), (9, .int v9)]) hx hb dX10_belief_163 hl (by decide) rfl (fun ls hl => ?_)
    refine lv_lload hx hb dX10_belief_165 (lv_at hl 5 rfl) ?_
    refine lv_iload hx hb dX10_belief_167 (lv_at hl 7 rfl) ?_
    refine lv_if_eq (tgt := 193) hx hb dX10_belief_169 (by decide) (fun c2 => ?_) (fun c2 => ?_)
    · have h := h.1 c2
      refine lv_lconst (v := (1 : Int64)) hx hb dX10_belief_193 (by decide) ?_
      refine lv_lmul hx hb dX10_belief_194 ?_
      refine lv_topl (fun x3 ex3 => ?_)
      have h := h x3 ex3
      refine lv_lstore (lv' := [(6, .long x3), (4, .long x1), (0, .ref (A 0)), (1, .int a1), (2, .int a2), (3, .int a3), (8, .int v8), (9, .int v9)]) hx hb dX10_belief_195 hl (by decide) rfl (fun ls hl => ?_)
      obtain ⟨x4, ex4⟩ : ∃ z : Int32, z = v8 + (1 : Int32) := ⟨_, rfl⟩
      have h := h x4 ex4
      refine lv_iinc (v := x4) (lv' := [(8, .int x4), (6, .long x3), (4, .long x1), (0, .ref (A 0)), (1, .int a1), (2, .int a2), (3, .int a3), (9, .int v9)]) hx hb dX10_belief_197 hl (k := 6) rfl (by rw [ex4]; rfl) (by decide) rfl (fun ls hl => ?_)
      refine lv_goto (tgt := 67) hx hb dX10_belief_200 (by decide) ?_
      exact ih67 x1 x3 x4 S h _ _ _ hP hS (lv_sub hl [3, 4, 5, 6, 2, 1, 0] rfl)
    · have h := h.2 c2
      refine lv_aload_n hx hb dX10_belief_172 rfl (lv_at hl 1 rfl) ?_
      refine va_get (ci := 10) (v := .ref (A 35)) (C := RX10) (T := TX10) (N := 54) hx hb hts k0 hown hK hP 0 (aM0 Y A S) rfl 43 (by decide) k1 (fun _ h9 => h9) rfl dX10_belief_173 ?_
      refine lv_iload hx hb dX10_belief_176 (lv_at hl 6 rfl) ?_
      have v_5 := h.1
      have h := h.2
      refine va_iald hx hb hK hP 35 0 (aM35 Y A S) rfl v_5 dX10_belief_178 ?_
      refine lv_aload_n hx hb dX10_belief_179 rfl (lv_at hl 1 rfl) ?_
      refine va_get (ci := 10) (v := .ref (A 36)) (C := RX10) (T := TX10) (N := 54) hx hb hts k0 hown hK hP 0 (aM0 Y A S) rfl 44 (by decide) k2 (fun _ h9 => h9) rfl dX10_belief_180 ?_
      refine lv_iload hx hb dX10_belief_183 (lv_at hl 6 rfl) ?_
      refine va_iald hx hb hK hP 36 0 (aM36 Y A S) rfl v_5 dX10_belief_185 ?_
      refine lv_iadd hx hb dX10_belief_186 ?_
      refine lv_iconst (v := (2 : Int32)) hx hb dX10_belief_187 (by decide) ?_
      refine lv_iadd hx hb dX10_belief_188 ?_
      refine lv_i2l hx hb dX10_belief_189 rfl ?_
      refine lv_goto (tgt := 194) hx hb dX10_belief_190 (by decide) ?_
      refine lv_lmul hx hb dX10_belief_194 ?_
      refine lv_topl (fun x6 ex6 => ?_)
      have h := h x6 ex6
      refine lv_lstore (lv' := [(6, .long x6), (4, .long x1), (0, .ref (A 0)), (1, .int a1), (2, .int a2), (3, .int a3), (8, .int v8), (9, .int v9)]) hx hb dX10_belief_195 hl (by decide) rfl (fun ls hl => ?_)
      obtain ⟨x7, ex7⟩ : ∃ z : Int32, z = v8 + (1 : Int32) := ⟨_, rfl⟩
      have h := h x7 ex7
      refine lv_iinc (v := x7) (lv' := [(8, .int x7), (6, .long x6), (4, .long x1), (0, .ref (A 0)), (1, .int a1), (2, .int a2), (3, .int a3), (9, .int v9)]) hx hb dX10_belief_197 hl (k := 6) rfl (by rw [ex7]; rfl) (by decide) rfl (fun ls hl => ?_)
      refine lv_goto (tgt := 67) hx hb dX10_belief_200 (by decide) ?_
      exact ih67 x1 x6 x7 S h _ _ _ hP hS (lv_sub hl [3, 4, 5, 6, 2, 1, 0] rfl)
  have tL80 : ∀ (K67 : Int64 × Int64 × Int32 × gS → Prop) (ih67 : ∀ (v4 : Int64) (v6 : Int64) (v8 : Int32) (S : gS), K67 (v4, v6, v8, S) → ∀ (H : Heap) (locs : List Loc) (ls : Array Slot), va_P D vwCl (wM Y A S) H → va_S (gF A 44 s.heap.size) s.heap H locs → lv_has ls 11 [(0, .ref (A 0)), (1, .int a1), (2, .int a2), (3, .int a3), (4, .long v4), (6, .long v6), (8, .int v8)] → W p l e rmX10_belief s m args below meth c H locs 0 0 Z (F0 m 67 ls [])) (v4 : Int64) (v6 : Int64) (v8 : Int32) (v9 : Int32) (v10 : Int32) (S : gS), lp (qX10_belief_L80 a1 a2 a3 Q K67) (v4, v6, v8, v9, v10, S) → ∀ (H : Heap) (locs : List Loc) (ls : Array Slot), va_P D vwCl (wM Y A S) H → va_S (gF A 44 s.heap.size) s.heap H locs → lv_has ls 11 [(0, .ref (A 0)), (1, .int a1), (2, .int a2), (3, .int a3), (4, .long v4), (6, .long v6), (8, .int v8), (9, .int v9), (10, .int v10)] → W p l e rmX10_belief s m args below meth c H locs 0 0 Z (F0 m 80 ls []) := by
    intro K67 ih67 v4 v6 v8 v9 v10 S h
    refine lp_walk (G := fun a => match a with | (v4, v6, v8, v9, v10, S) => ∀ (H : Heap) (locs : List Loc) (ls : Array Slot), va_P D vwCl (wM Y A S) H → va_S (gF A 44 s.heap.size) s.heap H locs → lv_has ls 11 [(0, .ref (A 0)), (1, .int a1), (2, .int a2), (3, .int a3), (4, .long v4), (6, .long v6), (8, .int v8), (9, .int v9), (10, .int v10)] → W p l e rmX10_belief s m args below meth c H locs 0 0 Z (F0 m 80 ls [])) (fun K80 a ih80 h => ?_) (v4, v6, v8, v9, v10, S) h
    obtain ⟨v4, v6, v8, v9, v10, S⟩ := a
    have ih80 : ∀ (v4 : Int64) (v6 : Int64) (v8 : Int32) (v9 : Int32) (v10 : Int32) (S : gS), K80 (v4, v6, v8, v9, v10, S) → ∀ (H : Heap) (locs : List Loc) (ls : Array Slot), va_P D vwCl (wM Y A S) H → va_S (gF A 44 s.heap.size) s.heap H locs → lv_has ls 11 [(0, .ref (A 0)), (1, .int a1), (2, .int a2), (3, .int a3), (4, .long v4), (6, .long v6), (8, .int v8), (9, .int v9), (10, .int v10)] → W p l e rmX10_belief s m args below meth c H locs 0 0 Z (F0 m 80 ls []) := fun v4 v6 v8 v9 v10 S q => ih80 (v4, v6, v8, v9, v10, S) q
    intro H locs ls hP hS hl
    refine lv_iload hx hb dX10_belief_80 (lv_at hl 8 rfl) ?_
    refine lv_aload_n hx hb dX10_belief_82 rfl (lv_at hl 0 rfl) ?_
    refine va_get (ci := 10) (v := .int (gi S 8)) (C := RX10) (T := TX10) (N := 54) hx hb hts k0 hown hK hP 0 (aM0 Y A S) rfl 39 (by decide) k3 (fun _ h9 => h9) rfl dX10_belief_83 ?_
    refine lv_icmp_ge (tgt := 141) hx hb dX10_belief_86 (by decide) (fun c8 => ?_) (fun c8 => ?_)
    · have h := h.1 c8
      refine lv_lload hx hb dX10_belief_141 (lv_at hl 4 rfl) ?_
      refine lv_iload hx hb dX10_belief_143 (lv_at hl 7 rfl) ?_
      refine lv_if_eq (tgt := 161) hx hb dX10_belief_145 (by decide) (fun c9 => ?_) (fun c9 => ?_)
      · have h := h.1 c9
        refine lv_lconst (v := (1 : Int64)) hx hb dX10_belief_161 (by decide) ?_
        exact tJ162 K67 ih67 v6 v8 v9 (1 : Int64) v4 S h _ _ _ hP hS (lv_sub hl [0, 1, 2, 3, 5, 6, 7] rfl)
      · have h := h.2 c9
        refine lv_aload_n hx hb dX10_belief_148 rfl (lv_at hl 0 rfl) ?_
        refine va_get (ci := 10) (v := .ref (A 36)) (C := RX10) (T := TX10) (N := 54) hx hb hts k0 hown hK hP 0 (aM0 Y A S) rfl 44 (by decide) k2 (fun _ h9 => h9) rfl dX10_belief_149 ?_
        refine lv_iload hx hb dX10_belief_152 (lv_at hl 6 rfl) ?_
        have v_10 := h.1
        have h := h.2
        refine va_iald hx hb hK hP 36 0 (aM36 Y A S) rfl v_10 dX10_belief_154 ?_
        refine lv_iconst (v := (1 : Int32)) hx hb dX10_belief_155 (by decide) ?_
        refine lv_iadd hx hb dX10_belief_156 ?_
        refine lv_i2l hx hb dX10_belief_157 rfl ?_
        refine lv_goto (tgt := 162) hx hb dX10_belief_158 (by decide) ?_
        exact tJ162 K67 ih67 v6 v8 v9 (((ga S 35 v8.toNatClampNeg) + (1 : Int32)).toInt64) v4 S h _ _ _ hP hS (lv_sub hl [0, 1, 2, 3, 5, 6, 7] rfl)
    · have h := h.2 c8
      refine lv_iload hx hb dX10_belief_89 (lv_at hl 7 rfl) ?_
      refine lv_if_ne (tgt := 128) hx hb dX10_belief_91 (by decide) (fun c11 => ?_) (fun c11 => ?_)
      · have h := h.2 c11
        refine lv_iconst (v := (1 : Int32)) hx hb dX10_belief_128 (by decide) ?_
        refine lv_goto (tgt := 133) hx hb dX10_belief_129 (by decide) ?_
        refine lv_istore (lv' := [(9, .int (1 : Int32)), (0, .ref (A 0)), (1, .int a1), (2, .int a2), (3, .int a3), (4, .long v4), (6, .long v6), (8, .int v8), (10, .int v10)]) hx hb dX10_belief_133 hl (by decide) rfl (fun ls hl => ?_)
        obtain ⟨x12, ex12⟩ : ∃ z : Int32, z = v10 + (1 : Int32) := ⟨_, rfl⟩
        have h := h x12 ex12
        refine lv_iinc (v := x12) (lv' := [(10, .int x12), (9, .int (1 : Int32)), (0, .ref (A 0)), (1, .int a1), (2, .int a2), (3, .int a3), (4, .long v4), (6, .long v6), (8, .int v8)]) hx hb dX10_belief_135 hl (k := 8) rfl (by rw [ex12]; rfl) (by decide) rfl (fun ls hl => ?_)
        refine lv_goto (tgt := 80) hx hb dX10_belief_138 (by decide) ?_
        exact ih80 v4 v6 v8 (1 : Int32) x12 S h _ _ _ hP hS (lv_sub hl [2, 3, 4, 5, 6, 7, 8, 1, 0] rfl)
      · have h := h.1 c11
        refine lv_aload_n hx hb dX10_belief_94 rfl (lv_at hl 0 rfl) ?_
        refine va_get (ci := 10) (v := .ref (A 32)) (C := RX10) (T := TX10) (N := 54) hx hb hts k0 hown hK hP 0 (aM0 Y A S) rfl 40 (by decide) k4 (fun _ h9 => h9) rfl dX10_belief_95 ?_
        refine lv_iload hx hb dX10_belief_98 (lv_at hl 8 rfl) ?_
        have v_13 := h.1
        have h := h.2
        refine va_iald hx hb hK hP 32 0 (aM32 Y A S) rfl v_13 dX10_belief_100 ?_
        refine lv_iload hx hb dX10_belief_101 (lv_at hl 6 rfl) ?_
        refine lv_icmp_ne (tgt := 132) hx hb dX10_belief_103 (by decide) (fun c14 => ?_) (fun c14 => ?_)
        · have h := h.2 c14
          refine lv_iconst (v := (0 : Int32)) hx hb dX10_belief_132 (by decide) ?_
          refine lv_istore (lv' := [(9, .int (0 : Int32)), (0, .ref (A 0)), (1, .int a1), (2, .int a2), (3, .int a3), (4, .long v4), (6, .long v6), (8, .int v8), (10, .int v10)]) hx hb dX10_belief_133 hl (by decide) rfl (fun ls hl => ?_)
          obtain ⟨x15, ex15⟩ : ∃ z : Int32, z = v10 + (1 : Int32) := ⟨_, rfl⟩
          have h := h x15 ex15
          refine lv_iinc (v := x15) (lv' := [(10, .int x15), (9, .int (0 : Int32)), (0, .ref (A 0)), (1, .int a1), (2, .int a2), (3, .int a3), (4, .long v4), (6, .long v6), (8, .int v8)]) hx hb dX10_belief_135 hl (k := 8) rfl (by rw [ex15]; rfl) (by decide) rfl (fun ls hl => ?_)
          refine lv_goto (tgt := 80) hx hb dX10_belief_138 (by decide) ?_
          exact ih80 v4 v6 v8 (0 : Int32) x15 S h _ _ _ hP hS (lv_sub hl [2, 3, 4, 5, 6, 7, 8, 1, 0] rfl)
        · have h := h.1 c14
          refine lv_aload_n hx hb dX10_belief_106 rfl (lv_at hl 0 rfl) ?_
          refine va_get (ci := 10) (v := .ref (A 33)) (C := RX10) (T := TX10) (N := 54) hx hb hts k0 hown hK hP 0 (aM0 Y A S) rfl 41 (by decide) k5 (fun _ h9 => h9) rfl dX10_belief_107 ?_
          refine lv_iload hx hb dX10_belief_110 (lv_at hl 8 rfl) ?_
          refine va_iald hx hb hK hP 33 0 (aM33 Y A S) rfl v_13 dX10_belief_112 ?_
          refine lv_iload_n hx hb dX10_belief_113 rfl (lv_at hl 2 rfl) ?_
          refine lv_icmp_ne (tgt := 132) hx hb dX10_belief_114 (by decide) (fun c16 => ?_) (fun c16 => ?_)
          · have h := h.2 c16
            refine lv_iconst (v := (0 : Int32)) hx hb dX10_belief_132 (by decide) ?_
            refine lv_istore (lv' := [(9, .int (0 : Int32)), (0, .ref (A 0)), (1, .int a1), (2, .int a2), (3, .int a3), (4, .long v4), (6, .long v6), (8, .int v8), (10, .int v10)]) hx hb dX10_belief_133 hl (by decide) rfl (fun ls hl => ?_)
            obtain ⟨x17, ex17⟩ : ∃ z : Int32, z = v10 + (1 : Int32) := ⟨_, rfl⟩
            have h := h x17 ex17
            refine lv_iinc (v := x17) (lv' := [(10, .int x17), (9, .int (0 : Int32)), (0, .ref (A 0)), (1, .int a1), (2, .int a2), (3, .int a3), (4, .long v4), (6, .long v6), (8, .int v8)]) hx hb dX10_belief_135 hl (k := 8) rfl (by rw [ex17]; rfl) (by decide) rfl (fun ls hl => ?_)
            refine lv_goto (tgt := 80) hx hb dX10_belief_138 (by decide) ?_
            exact ih80 v4 v6 v8 (0 : Int32) x17 S h _ _ _ hP hS (lv_sub hl [2, 3, 4, 5, 6, 7, 8, 1, 0] rfl)
          · have h := h.1 c16
            refine lv_aload_n hx hb dX10_belief_117 rfl (lv_at hl 0 rfl) ?_
            refine va_get (ci := 10) (v := .ref (A 34)) (C := RX10) (T := TX10) (N := 54) hx hb hts k0 hown hK hP 0 (aM0 Y A S) rfl 42 (by decide) k6 (fun _ h9 => h9) rfl dX10_belief_118 ?_
            refine lv_iload hx hb dX10_belief_121 (lv_at hl 8 rfl) ?_
            refine va_iald hx hb hK hP 34 0 (aM34 Y A S) rfl v_13 dX10_belief_123 ?_
            refine lv_iload_n hx hb dX10_belief_124 rfl (lv_at hl 1 rfl) ?_
            refine lv_icmp_ne (tgt := 132) hx hb dX10_belief_125 (by decide) (fun c18 => ?_) (fun c18 => ?_)
            · have h := h.2 c18
              refine lv_iconst (v := (0 : Int32)) hx hb dX10_belief_132 (by decide) ?_
              refine lv_istore (lv' := [(9, .int (0 : Int32)), (0, .ref (A 0)), (1, .int a1), (2, .int a2), (3, .int a3), (4, .long v4), (6, .long v6), (8, .int v8), (10, .int v10)]) hx hb dX10_belief_133 hl (by decide) rfl (fun ls hl => ?_)
              obtain ⟨x19, ex19⟩ : ∃ z : Int32, z = v10 + (1 : Int32) := ⟨_, rfl⟩
              have h := h x19 ex19
              refine lv_iinc (v := x19) (lv' := [(10, .int x19), (9, .int (0 : Int32)), (0, .ref (A 0)), (1, .int a1), (2, .int a2), (3, .int a3), (4, .long v4), (6, .long v6), (8, .int v8)]) hx hb dX10_belief_135 hl (k := 8) rfl (by rw [ex19]; rfl) (by decide) rfl (fun ls hl => ?_)
              refine lv_goto (tgt := 80) hx hb dX10_belief_138 (by decide) ?_
              exact ih80 v4 v6 v8 (0 : Int32) x19 S h _ _ _ hP hS (lv_sub hl [2, 3, 4, 5, 6, 7, 8, 1, 0] rfl)
            · have h := h.1 c18
              refine lv_iconst (v := (1 : Int32)) hx hb dX10_belief_128 (by decide) ?_
              refine lv_goto (tgt := 133) hx hb dX10_belief_129 (by decide) ?_
              refine lv_istore (lv' := [(9, .int (1 : Int32)), (0, .ref (A 0)), (1, .int a1), (2, .int a2), (3, .int a3), (4, .long v4), (6, .long v6), (8, .int v8), (10, .int v10)]) hx hb dX10_belief_133 hl (by decide) rfl (fun ls hl => ?_)
              obtain ⟨x20, ex20⟩ : ∃ z : Int32, z = v10 + (1 : Int32) := ⟨_, rfl⟩
              have h := h x20 ex20
              refine lv_iinc (v := x20) (lv' := [(10, .int x20), (9, .int (1 : Int32)), (0, .ref (A 0)), (1, .int a1), (2, .int a2), (3, .int a3), (4, .long v4), (6, .long v6), (8, .int v8)]) hx hb dX10_belief_135 hl (k := 8) rfl (by rw [ex20]; rfl) (by decide) rfl (fun ls hl => ?_)
              refine lv_goto (tgt := 80) hx hb dX10_belief_138 (by decide) ?_
              exact ih80 v4 v6 v8 (1 : Int32) x20 S h _ _ _ hP hS (lv_sub hl [2, 3, 4, 5, 6, 7, 8, 1, 0] rfl)
  have tL67 : ∀ (v4 : Int64) (v6 : Int64) (v8 : Int32) (S : gS), lp (qX10_belief_L67 a1 a2 a3 Q) (v4, v6, v8, S) → ∀ (H : Heap) (locs : List Loc) (ls : Array Slot), va_P D vwCl (wM Y A S) H → va_S (gF A 44 s.heap.size) s.heap H locs → lv_has ls 11 [(0, .ref (A 0)), (1, .int a1), (2, .int a2), (3, .int a3), (4, .long v4), (6, .long v6), (8, .int v8)] → W p l e rmX10_belief s m args below meth c H locs 0 0 Z (F0 m 67 ls []) := by
    intro  v4 v6 v8 S h
    refine lp_walk (G := fun a => match a with | (v4, v6, v8, S) => ∀ (H : Heap) (locs : List Loc) (ls : Array Slot), va_P D vwCl (wM Y A S) H → va_S (gF A 44 s.heap.size) s.heap H locs → lv_has ls 11 [(0, .ref (A 0)), (1, .int a1), (2, .int a2), (3, .int a3), (4, .long v4), (6, .long v6), (8, .int v8)] → W p l e rmX10_belief s m args below meth c H locs 0 0 Z (F0 m 67 ls [])) (fun K67 a ih67 h => ?_) (v4, v6, v8, S) h
    obtain ⟨v4, v6, v8, S⟩ := a
    have ih67 : ∀ (v4 : Int64) (v6 : Int64) (v8 : Int32) (S : gS), K67 (v4, v6, v8, S) → ∀ (H : Heap) (locs : List Loc) (ls : Array Slot), va_P D vwCl (wM Y A S) H → va_S (gF A 44 s.heap.size) s.heap H locs → lv_has ls 11 [(0, .ref (A 0)), (1, .int a1), (2, .int a2), (3, .int a3), (4, .long v4), (6, .long v6), (8, .int v8)] → W p l e rmX10_belief s m args below meth c H locs 0 0 Z (F0 m 67 ls []) := fun v4 v6 v8 S q => ih67 (v4, v6, v8, S) q
    intro H locs ls hP hS hl
    refine lv_iload hx hb dX10_belief_67 (lv_at hl 6 rfl) ?_
    refine lv_bipush (v := (6 : Int32)) hx hb dX10_belief_69 (by decide) ?_
    refine lv_icmp_ge (tgt := 203) hx hb dX10_belief_71 (by decide) (fun c21 => ?_) (fun c21 => ?_)
    · have h := h.1 c21
      refine lv_lload hx hb dX10_belief_203 (lv_at hl 5 rfl) ?_
      refine lv_lload hx hb dX10_belief_205 (lv_at hl 4 rfl) ?_
      refine lv_lsub hx hb dX10_belief_207 ?_
      refine lv_lload hx hb dX10_belief_208 (lv_at hl 5 rfl) ?_
      refine lv_iload_n hx hb dX10_belief_210 rfl (lv_at hl 3 rfl) ?_
      refine gSl (As := [.long (v6 - v4), .long v6, .int a3]) (rest := []) ⟨hx, hb, hml, hown, hts⟩ (kX10_side l D Y A hI H.size S (v6 - v4) v6 a3 _ h) (va_cwS 3 hts gX10_belief_X10_side rfl rfl rfl (by decide +kernel) ⟨Nat.le_of_ble_eq_true rfl, Nat.le_of_ble_eq_true rfl⟩) hK hP hS (gF_le hS.1) rfl rfl hl.1 (Nat.le_of_ble_eq_true rfl) dX10_belief_211 ⟨Nat.zero_le _, Nat.zero_le _⟩ ?_
      intro r23 S22 H locs h hP hS
      exact hret _ _ _ _ _ _ dX10_belief_214 h hP hS
    · have h := h.2 c21
      refine lv_iconst (v := (0 : Int32)) hx hb dX10_belief_74 (by decide) ?_
      refine lv_istore (lv' := [(9, .int (0 : Int32)), (0, .ref (A 0)), (1, .int a1), (2, .int a2), (3, .int a3), (4, .long v4), (6, .long v6), (8, .int v8)]) hx hb dX10_belief_75 hl (by decide) rfl (fun ls hl => ?_)
      refine lv_iconst (v := (0 : Int32)) hx hb dX10_belief_77 (by decide) ?_
      refine lv_istore (lv' := [(10, .int (0 : Int32)), (9, .int (0 : Int32)), (0, .ref (A 0)), (1, .int a1), (2, .int a2), (3, .int a3), (4, .long v4), (6, .long v6), (8, .int v8)]) hx hb dX10_belief_78 hl (by decide) rfl (fun ls hl => ?_)
      exact tL80 K67 ih67 v4 v6 v8 (0 : Int32) (0 : Int32) S h _ _ _ hP hS (lv_sub hl [2, 3, 4, 5, 6, 7, 8, 1, 0] rfl)
  refine lv_iload_n hx hb dX10_belief_0 rfl (lv_at hl 1 rfl) ?_
  refine gSi (As := [.int a1]) (rest := []) ⟨hx, hb, hml, hown, hts⟩ (kX10_isCove l D Y A hI H.size S a1 _ h) (va_cwS 1 hts gX10_belief_X10_isCove rfl rfl rfl (by decide +kernel) ⟨Nat.le_of_ble_eq_true rfl, Nat.le_of_ble_eq_true rfl⟩) hK hP hS (gF_le hS.1) rfl rfl hl.1 (Nat.le_of_ble_eq_true rfl) dX10_belief_1 ⟨Nat.zero_le _, Nat.zero_le _⟩ ?_
  intro r25 S24 H locs h hP hS
  refine lv_if_ne (tgt := 14) hx hb dX10_belief_4 (by decide) (fun c26 => ?_) (fun c26 => ?_)
  · have h := h.2 c26
    refine lv_iload_n hx hb dX10_belief_14 rfl (lv_at hl 2 rfl) ?_
    refine lv_if_ge (tgt := 26) hx hb dX10_belief_15 (by decide) (fun c27 => ?_) (fun c27 => ?_)
    · have h := h.1 c27
      refine lv_iload_n hx hb dX10_belief_26 rfl (lv_at hl 2 rfl) ?_
      refine lv_sipush (v := (1000 : Int32)) hx hb dX10_belief_27 (by decide) ?_
      refine lv_icmp_le (tgt := 41) hx hb dX10_belief_30 (by decide) (fun c28 => ?_) (fun c28 => ?_)
      · have h := h.1 c28
        refine lv_iload_n hx hb dX10_belief_41 rfl (lv_at hl 3 rfl) ?_
        refine lv_iconst (v := (0 : Int32)) hx hb dX10_belief_42 (by decide) ?_
        refine lv_iconst (v := (1 : Int32)) hx hb dX10_belief_43 (by decide) ?_
        refine gSi (As := [.int a3, .int (0 : Int32), .int (1 : Int32)]) (rest := []) ⟨hx, hb, hml, hown, hts⟩ (kX10_in l D Y A hI H.size S24 a3 (0 : Int32) (1 : Int32) _ h) (va_cwS 3 hts gX10_belief_X10_in rfl rfl rfl (by decide +kernel) ⟨Nat.le_of_ble_eq_true rfl, Nat.le_of_ble_eq_true rfl⟩) hK hP hS (gF_le hS.1) rfl rfl hl.1 (Nat.le_of_ble_eq_true rfl) dX10_belief_44 ⟨Nat.zero_le _, Nat.zero_le _⟩ ?_
        intro r30 S29 H locs h hP hS
        refine lv_if_ne (tgt := 58) hx hb dX10_belief_47 (by decide) (fun c31 => ?_) (fun c31 => ?_)
        · have h := h.2 c31
          refine lv_lconst (v := (1 : Int64)) hx hb dX10_belief_58 (by decide) ?_
          refine lv_lstore (lv' := [(4, .long (1 : Int64)), (0, .ref (A 0)), (1, .int a1), (2, .int a2), (3, .int a3)]) hx hb dX10_belief_59 hl (by decide) rfl (fun ls hl => ?_)
          refine lv_lconst (v := (1 : Int64)) hx hb dX10_belief_61 (by decide) ?_
          refine lv_lstore (lv' := [(6, .long (1 : Int64)), (4, .long (1 : Int64)), (0, .ref (A 0)), (1, .int a1), (2, .int a2), (3, .int a3)]) hx hb dX10_belief_62 hl (by decide) rfl (fun ls hl => ?_)
          refine lv_iconst (v := (0 : Int32)) hx hb dX10_belief_64 (by decide) ?_
          refine lv_istore (lv' := [(8, .int (0 : Int32)), (6, .long (1 : Int64)), (4, .long (1 : Int64)), (0, .ref (A 0)), (1, .int a1), (2, .int a2), (3, .int a3)]) hx hb dX10_belief_65 hl (by decide) rfl (fun ls hl => ?_)
          exact tL67  (1 : Int64) (1 : Int64) (0 : Int32) S29 h _ _ _ hP hS (lv_sub hl [3, 4, 5, 6, 2, 1, 0] rfl)
        · have h := h.1 c31
          refine lv_aload_n hx hb dX10_belief_50 rfl (lv_at hl 0 rfl) ?_
          refine lv_bipush (v := (-2 : Int32)) hx hb dX10_belief_51 (by decide) ?_
          refine gVi (As := [.int (-2 : Int32)]) (rest := []) ⟨hx, hb, hml, hown, hts⟩ (kX10_refuse l D Y A hI H.size S29 (-2 : Int32) _ h) (cwV 1 hts gX10_belief_X10_refuse rfl rfl rfl (by decide +kernel) ⟨Nat.le_of_ble_eq_true rfl, Nat.le_of_ble_eq_true rfl⟩) hK hP hS (gF_le hS.1) (aM0 Y A S29) (show vwCl[10]? = some (RX10, TX10, 54) from rfl) rfl rfl hl.1 (Nat.le_of_ble_eq_true rfl) dX10_belief_53 ⟨Nat.zero_le _, Nat.zero_le _⟩ ?_
          intro r33 S32 H locs h hP hS
          refine lv_i2l hx hb dX10_belief_56 rfl ?_
          exact hret _ _ _ _ _ _ dX10_belief_57 h hP hS
      · have h := h.2 c28
        refine lv_aload_n hx hb dX10_belief_33 rfl (lv_at hl 0 rfl) ?_
        refine lv_bipush (v := (-6 : Int32)) hx hb dX10_belief_34 (by decide) ?_
        refine gVi (As := [.int (-6 : Int32)]) (rest := []) ⟨hx, hb, hml, hown, hts⟩ (kX10_refuse l D Y A hI H.size S24 (-6 : Int32) _ h) (cwV 1 hts gX10_belief_X10_refuse rfl rfl rfl (by decide +kernel) ⟨Nat.le_of_ble_eq_true rfl, Nat.le_of_ble_eq_true rfl⟩) hK hP hS (gF_le hS.1) (aM0 Y A S24) (show vwCl[10]? = some (RX10, TX10, 54) from rfl) rfl rfl hl.1 (Nat.le_of_ble_eq_true rfl) dX10_belief_36 ⟨Nat.zero_le _, Nat.zero_le _⟩ ?_
        intro r35 S34 H locs h hP hS
        refine lv_i2l hx hb dX10_belief_39 rfl ?_
        exact hret _ _ _ _ _ _ dX10_belief_40 h hP hS
    · have h := h.2 c27
      refine lv_aload_n hx hb dX10_belief_18 rfl (lv_at hl 0 rfl) ?_
      refine lv_bipush (v := (-4 : Int32)) hx hb dX10_belief_19 (by decide) ?_
      refine gVi (As := [.int (-4 : Int32)]) (rest := []) ⟨hx, hb, hml, hown, hts⟩ (kX10_refuse l D Y A hI H.size S24 (-4 : Int32) _ h) (cwV 1 hts gX10_belief_X10_refuse rfl rfl rfl (by decide +kernel) ⟨Nat.le_of_ble_eq_true rfl, Nat.le_of_ble_eq_true rfl⟩) hK hP hS (gF_le hS.1) (aM0 Y A S24) (show vwCl[10]? = some (RX10, TX10, 54) from rfl) rfl rfl hl.1 (Nat.le_of_ble_eq_true rfl) dX10_belief_21 ⟨Nat.zero_le _, Nat.zero_le _⟩ ?_
      intro r37 S36 H locs h hP hS
      refine lv_i2l hx hb dX10_belief_24 rfl ?_
      exact hret _ _ _ _ _ _ dX10_belief_25 h hP hS
  · have h := h.1 c26
    refine lv_aload_n hx hb dX10_belief_7 rfl (lv_at hl 0 rfl) ?_
    refine lv_iconst (v := (-1 : Int32)) hx hb dX10_belief_8 (by decide) ?_
    refine gVi (As := [.int (-1 : Int32)]) (rest := []) ⟨hx, hb, hml, hown, hts⟩ (kX10_refuse l D Y A hI H.size S24 (-1 : Int32) _ h) (cwV 1 hts gX10_belief_X10_refuse rfl rfl rfl (by decide +kernel) ⟨Nat.le_of_ble_eq_true rfl, Nat.le_of_ble_eq_true rfl⟩) hK hP hS (gF_le hS.1) (aM0 Y A S24) (show vwCl[10]? = some (RX10, TX10, 54) from rfl) rfl rfl hl.1 (Nat.le_of_ble_eq_true rfl) dX10_belief_9 ⟨Nat.zero_le _, Nat.zero_le _⟩ ?_
    intro r39 S38 H locs h hP hS
    refine lv_i2l hx hb dX10_belief_12 rfl ?_
    exact hret _ _ _ _ _ _ dX10_belief_13 h hP hS

def qX10_weight (S : gS) (a1 : Int32) (a2 : Int32) (Q : Int32 → gS → Prop) : Prop :=
  qX10_in S a1 (0 : Int32) (5 : Int32) (fun r2 S1 => (r2 = 0 → (qX10_refuse S1 (-1 : Int32) (fun r13 S12 => Q r13 S12))) ∧ (¬ r2 = 0 → (qX10_in S1 a2 (0 : Int32) (1 : Int32) (fun r5 S4 => (r5 = 0 → (qX10_refuse S4 (-2 : Int32) (fun r11 S10 => Q r11 S10))) ∧ (¬ r5 = 0 → (vp_in a1 6 ∧ (qX10_side S4 (((ga S4 34 a1.toNatClampNeg) + (1 : Int32)).toInt64) ((((ga S4 34 a1.toNatClampNeg) + (ga S4 35 a1.toNatClampNeg)) + (2 : Int32)).toInt64) a2 (fun r9 S8 => Q r9.toInt32 S8))))))))
abbrev rmX10_weight : Room := { frames := 2, cells := 0, slots := 0, locals := 55 }
set_option maxHeartbeats 4000000 in
set_option maxRecDepth 100000 in
theorem kX10_weight (l : Launch) (D : va_G) (Y : Nat → ClassId) (A : Nat → Nat) (hI : iM A) (sz : Nat) (S : gS) (a1 : Int32) (a2 : Int32) (Q : Int32 → gS → Prop) (h : qX10_weight S a1 a2 Q) : Met l yX10_weight wsX10_weight rmX10_weight (gPc [.ref (A 0), .int a1, .int a2] sz D vwCl (tY Y) (wM Y A S)) (va_Qi Q (fun S' t => gH D vwCl (tY Y) (wM Y A S') t) (gF A 44 sz)) 0 0 (gF A 44 sz) := by
  refine gMet_i (cc := cX10_weight) (maxL := 3) (by decide +kernel) rfl (Nat.le_of_ble_eq_true rfl) (fun p e s m args below meth c Z H locs hx hb hml hts hown hK hP hS hret ls hl => ?_)
  have hown : s.vm.findClass RX10 = some m.cls := hown
  have hl : lv_has ls 3 [(0, .ref (A 0)), (1, .int a1), (2, .int a2)] := hl
  have hD : ∀ S0 : gS, va_D (gF A 44 s.heap.size) (wM Y A S0) := fun S0 => dM hI S0 (fun k hk => gF_in hk)
  have k0 : ∀ w ∈ u_ws RX10 TX10 54, w ∈ wsX10_weight := by decide +kernel
  have k1 := hts (.fieldLink RX10 117 "CoastWatchModel" "right" "[I") (by decide +kernel)
  have k2 := hts (.fieldLink RX10 120 "CoastWatchModel" "wrong" "[I") (by decide +kernel)
  refine lv_iload_n hx hb dX10_weight_0 rfl (lv_at hl 1 rfl) ?_
  refine lv_iconst (v := (0 : Int32)) hx hb dX10_weight_1 (by decide) ?_
  refine lv_iconst (v := (5 : Int32)) hx hb dX10_weight_2 (by decide) ?_
  refine gSi (As := [.int a1, .int (0 : Int32), .int (5 : Int32)]) (rest := []) ⟨hx, hb, hml, hown, hts⟩ (kX10_in l D Y A hI H.size S a1 (0 : Int32) (5 : Int32) _ h) (va_cwS 3 hts gX10_weight_X10_in rfl rfl rfl (by decide +kernel) ⟨Nat.le_of_ble_eq_true rfl, Nat.le_of_ble_eq_true rfl⟩) hK hP hS (gF_le hS.1) rfl rfl hl.1 (Nat.le_of_ble_eq_true rfl) dX10_weight_3 ⟨Nat.zero_le _, Nat.zero_le _⟩ ?_
  intro r2 S1 H locs h hP hS
  refine lv_if_ne (tgt := 15) hx hb dX10_weight_6 (by decide) (fun c3 => ?_) (fun c3 => ?_)
  · have h := h.2 c3
    refine lv_iload_n hx hb dX10_weight_15 rfl (lv_at hl 2 rfl) ?_
    refine lv_iconst (v := (0 : Int32)) hx hb dX10_weight_16 (by decide) ?_
    refine lv_iconst (v := (1 : Int32)) hx hb dX10_weight_17 (by decide) ?_
    refine gSi (As := [.int a2, .int (0 : Int32), .int (1 : Int32)]) (rest := []) ⟨hx, hb, hml, hown, hts⟩ (kX10_in l D Y A hI H.size S1 a2 (0 : Int32) (1 : Int32) _ h) (va_cwS 3 hts gX10_weight_X10_in rfl rfl rfl (by decide +kernel) ⟨Nat.le_of_ble_eq_true rfl, Nat.le_of_ble_eq_true rfl⟩) hK hP hS (gF_le hS.1) rfl rfl hl.1 (Nat.le_of_ble_eq_true rfl) dX10_weight_18 ⟨Nat.zero_le _, Nat.zero_le _⟩ ?_
    intro r5 S4 H locs h hP hS
    refine lv_if_ne (tgt := 31) hx hb dX10_weight_21 (by decide) (fun c6 => ?_) (fun c6 => ?_)
    · have h := h.2 c6
      refine lv_aload_n hx hb dX10_weight_31 rfl (lv_at hl 0 rfl) ?_
      refine va_get (ci := 10) (v := .ref (A 35)) (C := RX10) (T := TX10) (N := 54) hx hb hts k0 hown hK hP 0 (aM0 Y A S4) rfl 43 (by decide) k1 (fun _ h9 => h9) rfl dX10_weight_32 ?_
      refine lv_iload_n hx hb dX10_weight_35 rfl (lv_at hl 1 rfl) ?_
      have v_7 := h.1
      have h := h.2
      refine va_iald hx hb hK hP 35 0 (aM35 Y A S4) rfl v_7 dX10_weight_36 ?_
      refine lv_iconst (v := (1 : Int32)) hx hb dX10_weight_37 (by decide) ?_
      refine lv_iadd hx hb dX10_weight_38 ?_
      refine lv_i2l hx hb dX10_weight_39 rfl ?_
      refine lv_aload_n hx hb dX10_weight_40 rfl (lv_at hl 0 rfl) ?_
      refine va_get (ci := 10) (v := .ref (A 35)) (C := RX10) (T := TX10) (N := 54) hx hb hts k0 hown hK hP 0 (aM0 Y A S4) rfl 43 (by decide) k1 (fun _ h9 => h9) rfl dX10_weight_41 ?_
      refine lv_iload_n hx hb dX10_weight_44 rfl (lv_at hl 1 rfl) ?_
      refine va_iald hx hb hK hP 35 0 (aM35 Y A S4) rfl v_7 dX10_weight_45 ?_
      refine lv_aload_n hx hb dX10_weight_46 rfl (lv_at hl 0 rfl) ?_
      refine va_get (ci := 10) (v := .ref (A 36)) (C := RX10) (T := TX10) (N := 54) hx hb hts k0 hown hK hP 0 (aM0 Y A S4) rfl 44 (by decide) k2 (fun _ h9 => h9) rfl dX10_weight_47 ?_
      refine lv_iload_n hx hb dX10_weight_50 rfl (lv_at hl 1 rfl) ?_
      refine va_iald hx hb hK hP 36 0 (aM36 Y A S4) rfl v_7 dX10_weight_51 ?_
      refine lv_iadd hx hb dX10_weight_52 ?_
      refine lv_iconst (v := (2 : Int32)) hx hb dX10_weight_53 (by decide) ?_
      refine lv_iadd hx hb dX10_weight_54 ?_
      refine lv_i2l hx hb dX10_weight_55 rfl ?_
      refine lv_iload_n hx hb dX10_weight_56 rfl (lv_at hl 2 rfl) ?_
      refine gSl (As := [.long (((ga S4 34 a1.toNatClampNeg) + (1 : Int32)).toInt64), .long ((((ga S4 34 a1.toNatClampNeg) + (ga S4 35 a1.toNatClampNeg)) + (2 : Int32)).toInt64), .int a2]) (rest := []) ⟨hx, hb, hml, hown, hts⟩ (kX10_side l D Y A hI H.size S4 (((ga S4 34 a1.toNatClampNeg) + (1 : Int32)).toInt64) ((((ga S4 34 a1.toNatClampNeg) + (ga S4 35 a1.toNatClampNeg)) + (2 : Int32)).toInt64) a2 _ h) (va_cwS 3 hts gX10_weight_X10_side rfl rfl rfl (by decide +kernel) ⟨Nat.le_of_ble_eq_true rfl, Nat.le_of_ble_eq_true rfl⟩) hK hP hS (gF_le hS.1) rfl rfl hl.1 (Nat.le_of_ble_eq_true rfl) dX10_weight_57 ⟨Nat.zero_le _, Nat.zero_le _⟩ ?_
      intro r9 S8 H locs h hP hS
      refine lv_l2i hx hb dX10_weight_60 rfl ?_
      exact hret _ _ _ _ _ _ dX10_weight_61 h hP hS
    · have h := h.1 c6
      refine lv_aload_n hx hb dX10_weight_24 rfl (lv_at hl 0 rfl) ?_
      refine lv_bipush (v := (-2 : Int32)) hx hb dX10_weight_25 (by decide) ?_
      refine gVi (As := [.int (-2 : Int32)]) (rest := []) ⟨hx, hb, hml, hown, hts⟩ (kX10_refuse l D Y A hI H.size S4 (-2 : Int32) _ h) (cwV 1 hts gX10_weight_X10_refuse rfl rfl rfl (by decide +kernel) ⟨Nat.le_of_ble_eq_true rfl, Nat.le_of_ble_eq_true rfl⟩) hK hP hS (gF_le hS.1) (aM0 Y A S4) (show vwCl[10]? = some (RX10, TX10, 54) from rfl) rfl rfl hl.1 (Nat.le_of_ble_eq_true rfl) dX10_weight_27 ⟨Nat.zero_le _, Nat.zero_le _⟩ ?_
      intro r11 S10 H locs h hP hS
      exact hret _ _ _ _ _ _ dX10_weight_30 h hP hS
  · have h := h.1 c3
    refine lv_aload_n hx hb dX10_weight_9 rfl (lv_at hl 0 rfl) ?_
    refine lv_iconst (v := (-1 : Int32)) hx hb dX10_weight_10 (by decide) ?_
    refine gVi (As := [.int (-1 : Int32)]) (rest := []) ⟨hx, hb, hml, hown, hts⟩ (kX10_refuse l D Y A hI H.size S1 (-1 : Int32) _ h) (cwV 1 hts gX10_weight_X10_refuse rfl rfl rfl (by decide +kernel) ⟨Nat.le_of_ble_eq_true rfl, Nat.le_of_ble_eq_true rfl⟩) hK hP hS (gF_le hS.1) (aM0 Y A S1) (show vwCl[10]? = some (RX10, TX10, 54) from rfl) rfl rfl hl.1 (Nat.le_of_ble_eq_true rfl) dX10_weight_11 ⟨Nat.zero_le _, Nat.zero_le _⟩ ?_
    intro r13 S12 H locs h hP hS
    exact hret _ _ _ _ _ _ dX10_weight_14 h hP hS

def qX10_play_J252 (a1 : Int32) (a2 : Int32) (Q : gS → Prop) (K93 : Int32 × gS → Prop) : Int32 × Int64 × Int64 × Int32 × Int32 × gS → Prop := fun ⟨v3, v6, v8, v10, s0, S⟩ =>
  (v10 = 0 → (∀ x2 : Int32, x2 = v3 + (1 : Int32) → (K93 (x2, S)))) ∧ (¬ v10 = 0 → ((s0 = 0 → (∀ x4 : Int32, x4 = v3 + (1 : Int32) → (K93 (x4, S)))) ∧ (¬ s0 = 0 → (∀ S5 : gS, S5 = sL S 0 v6 → (∀ S6 : gS, S6 = sL S5 1 v8 → (∀ x7 : Int32, x7 = v3 + (1 : Int32) → (K93 (x7, S6))))))))
def qX10_play_J247 (a1 : Int32) (a2 : Int32) (Q : gS → Prop) (K93 : Int32 × gS → Prop) : Int32 × Int64 × Int64 × Int32 × gS → Prop := fun ⟨v3, v6, v8, v10, S⟩ =>
  qX10_play_J252 a1 a2 Q K93 (v3, v6, v8, v10, (1 : Int32), S)
def qX10_play_J223 (a1 : Int32) (a2 : Int32) (Q : gS → Prop) (K93 : Int32 × gS → Prop) : Int32 × Int64 × Int64 × Int32 × gS → Prop := fun ⟨v3, v6, v8, s0, S⟩ =>
  (v3 = (6 : Int32) → (qX10_play_J247 a1 a2 Q K93 (v3, v6, v8, s0, S))) ∧ (¬ v3 = (6 : Int32) → (vp_in v3 6 ∧ ((0 < (lg_cmp ((ga S 42 v3.toNatClampNeg).toInt64 * v8) v6) → (qX10_play_J252 a1 a2 Q K93 (v3, v6, v8, s0, (0 : Int32), S))) ∧ (¬ 0 < (lg_cmp ((ga S 42 v3.toNatClampNeg).toInt64 * v8) v6) → (qX10_play_J247 a1 a2 Q K93 (v3, v6, v8, s0, S))))))
def qX10_play_L150 (a1 : Int32) (a2 : Int32) (Q : gS → Prop) (K93 : Int32 × gS → Prop) (K150 : Int32 × Int64 × Int64 × Int64 × Int32 × gS → Prop) : Int32 × Int64 × Int64 × Int64 × Int32 × gS → Prop := fun ⟨v3, v4, v6, v8, v10, S⟩ =>
  (v3 ≤ v10 → (vp_in (v3 - (1 : Int32)) 6 ∧ (((lg_cmp ((ga S 42 (v3 - (1 : Int32)).toNatClampNeg).toInt64 * v8) v6) ≤ 0 → (qX10_play_J223 a1 a2 Q K93 (v3, v6, v8, (0 : Int32), S))) ∧ (¬ (lg_cmp ((ga S 42 (v3 - (1 : Int32)).toNatClampNeg).toInt64 * v8) v6) ≤ 0 → (qX10_play_J223 a1 a2 Q K93 (v3, v6, v8, (1 : Int32), S)))))) ∧ (¬ v3 ≤ v10 → (vp_in v10 6 ∧ (¬ ((ga S 42 v10.toNatClampNeg) + a2).toInt64 = 0 ∧ (∀ x16 : Int64, x16 = (v4 / ((ga S 42 v10.toNatClampNeg) + a2).toInt64) → (∀ x17 : Int64, x17 = (v6 + ((ga S 42 v10.toNatClampNeg).toInt64 * x16)) → (∀ x18 : Int64, x18 = (v8 + x16) → (∀ x19 : Int32, x19 = v10 + (1 : Int32) → (K150 (v3, v4, x17, x18, x19, S)))))))))
def qX10_play_L109 (a1 : Int32) (a2 : Int32) (Q : gS → Prop) (K93 : Int32 × gS → Prop) (K109 : Int32 × Int64 × Int32 × gS → Prop) : Int32 × Int64 × Int32 × gS → Prop := fun ⟨v3, v4, v6, S⟩ =>
  (v3 ≤ v6 → (∀ x21 : Int64, x21 = ((-a1).toInt64 * v4) → (lp (qX10_play_L150 a1 a2 Q K93) (v3, v4, x21, (0 : Int64), (0 : Int32), S)))) ∧ (¬ v3 ≤ v6 → (vp_in v6 6 ∧ (∀ x23 : Int64, x23 = (v4 * ((ga S 42 v6.toNatClampNeg) + a2).toInt64) → (∀ x24 : Int32, x24 = v6 + (1 : Int32) → (K109 (v3, x23, x24, S))))))
def qX10_play_L93 (a1 : Int32) (a2 : Int32) (Q : gS → Prop) (K93 : Int32 × gS → Prop) : Int32 × gS → Prop := fun ⟨v3, S⟩ =>
  ((6 : Int32) < v3 → (Q S)) ∧ (¬ (6 : Int32) < v3 → ((a1 ≤ 0 → (Q S)) ∧ (¬ a1 ≤ 0 → (lp (qX10_play_L109 a1 a2 Q K93) (v3, (1 : Int64), (0 : Int32), S)))))
def qX10_play_J56 (a1 : Int32) (a2 : Int32) (Q : gS → Prop) (K2 : Int32 × gS → Prop) : Int32 × Int32 × gS → Prop := fun ⟨v3, v4, S⟩ =>
  vp_in v3 6 ∧ (vp_in v4 6 ∧ (∀ S28 : gS, S28 = sA S 42 (upd (ga S 42) v4.toNatClampNeg (ga S 1 v3.toNatClampNeg)) → (∀ x30 : Int32, x30 = v3 + (1 : Int32) → (K2 (x30, S28)))))
def qX10_play_L11 (a1 : Int32) (a2 : Int32) (Q : gS → Prop) (K2 : Int32 × gS → Prop) (K11 : Int32 × Int32 × gS → Prop) : Int32 × Int32 × gS → Prop := fun ⟨v3, v4, S⟩ =>
  (v4 ≤ 0 → (qX10_play_J56 a1 a2 Q K2 (v3, v4, S))) ∧ (¬ v4 ≤ 0 → (vp_in (v4 - (1 : Int32)) 6 ∧ (vp_in v3 6 ∧ (((ga S 1 v3.toNatClampNeg) ≤ (ga S 42 (v4 - (1 : Int32)).toNatClampNeg) → (qX10_play_J56 a1 a2 Q K2 (v3, v4, S))) ∧ (¬ (ga S 1 v3.toNatClampNeg) ≤ (ga S 42 (v4 - (1 : Int32)).toNatClampNeg) → (vp_in v4 6 ∧ (∀ S35 : gS, S35 = sA S 42 (upd (ga S 42) v4.toNatClampNeg (ga S 42 (v4 - (1 : Int32)).toNatClampNeg)) → (∀ x37 : Int32, x37 = v4 + (-1 : Int32) → (K11 (v3, x37, S35))))))))))
def qX10_play_L2 (a1 : Int32) (a2 : Int32) (Q : gS → Prop) (K2 : Int32 × gS → Prop) : Int32 × gS → Prop := fun ⟨v3, S⟩ =>
  ((6 : Int32) ≤ v3 → (vp_in (0 : Int32) 6 ∧ (∀ S40 : gS, S40 = sL S 0 ((ga S 42 (0 : Int32).toNatClampNeg).toInt64) → (∀ S41 : gS, S41 = sL S40 1 (1 : Int64) → (lp (qX10_play_L93 a1 a2 Q) ((1 : Int32), S41)))))) ∧ (¬ (6 : Int32) ≤ v3 → (lp (qX10_play_L11 a1 a2 Q K2) (v3, v3, S)))
def qX10_play (S : gS) (a1 : Int32) (a2 : Int32) (Q : gS → Prop) : Prop :=
  lp (qX10_play_L2 a1 a2 Q) ((0 : Int32), S)
abbrev rmX10_play : Room := { frames := 0, cells := 0, slots := 0, locals := 0 }
set_option maxHeartbeats 4000000 in
set_option maxRecDepth 100000 in
theorem kX10_play (l : Launch) (D : va_G) (Y : Nat → ClassId) (A : Nat → Nat) (hI : iM A) (sz : Nat) (S : gS) (a1 : Int32) (a2 : Int32) (Q : gS → Prop) (h : qX10_play S a1 a2 Q) : Met l yX10_play wsX10_play rmX10_play (gPc [.ref (A 0), .int a1, .int a2] sz D vwCl (tY Y) (wM Y A S)) (va_Qv Q (fun S' t => gH D vwCl (tY Y) (wM Y A S') t) (gF A 44 sz)) 0 0 (gF A 44 sz) := by
  refine gMet_v (cc := cX10_play) (maxL := 13) (by decide +kernel) rfl (Nat.le_of_ble_eq_true rfl) (fun p e s m args below meth c Z H locs hx hb hml hts hown hK hP hS hret ls hl => ?_)
  have hown : s.vm.findClass RX10 = some m.cls := hown
  have hl : lv_has ls 13 [(0, .ref (A 0)), (1, .int a1), (2, .int a2)] := hl
  have hD : ∀ S0 : gS, va_D (gF A 44 s.heap.size) (wM Y A S0) := fun S0 => dM hI S0 (fun k hk => gF_in hk)
  have k0 : ∀ w ∈ u_ws RX10 TX10 54, w ∈ wsX10_play := by decide +kernel
  have k1 := hts (.fieldLink RX10 242 "CoastWatchModel" "gameAbove" "J") (by decide +kernel)
  have k2 := hts (.fieldLink RX10 246 "CoastWatchModel" "gameBelow" "J") (by decide +kernel)
  have k3 := hts (.fieldLink RX10 141 "CoastWatchModel" "sorted" "[I") (by decide +kernel)
  have k4 := hts (.fieldLink RX10 17 "CoastWatchModel" "worth" "[I") (by decide +kernel)
  have tJ252 : ∀ (K93 : Int32 × gS → Prop) (ih93 : ∀ (v3 : Int32) (S : gS), K93 (v3, S) → ∀ (H : Heap) (locs : List Loc) (ls : Array Slot), va_P D vwCl (wM Y A S) H → va_S (gF A 44 s.heap.size) s.heap H locs → lv_has ls 13 [(0, .ref (A 0)), (1, .int a1), (2, .int a2), (3, .int v3)] → W p l e rmX10_play s m args below meth c H locs 0 0 Z (F0 m 93 ls [])) (v3 : Int32) (v6 : Int64) (v8 : Int64) (v10 : Int32) (s0 : Int32) (S : gS), qX10_play_J252 a1 a2 Q K93 (v3, v6, v8, v10, s0, S) → ∀ (H : Heap) (locs : List Loc) (ls : Array Slot), va_P D vwCl (wM Y A S) H → va_S (gF A 44 s.heap.size) s.heap H locs → lv_has ls 13 [(0, .ref (A 0)), (1, .int a1), (2, .int a2), (3, .int v3), (6, .long v6), (8, .long v8), (10, .int v10)] → W p l e rmX10_play s m args below meth c H locs 0 0 Z (F0 m 252 ls [.int s0]) := by
    intro K93 ih93 v3 v6 v8 v10 s0 S h
    intro H locs ls hP hS hl
    refine lv_istore (lv' := [(11, .int s0), (0, .ref (A 0)), (1, .int a1), (2, .int a2), (3, .int v3), (6, .long v6), (8, .long v8), (10, .int v10)]) hx hb dX10_play_252 hl (by decide) rfl (fun ls hl => ?_)
    refine lv_iload hx hb dX10_play_254 (lv_at hl 7 rfl) ?_
    refine lv_if_eq (tgt := 276) hx hb dX10_play_256 (by decide) (fun c1 => ?_) (fun c1 => ?_)
    · have h := h.1 c1
      obtain ⟨x2, ex2⟩ : ∃ z : Int32, z = v3 + (1 : Int32) := ⟨_, rfl⟩
      have h := h x2 ex2
      refine lv_iinc (v := x2) (lv' := [(3, .int x2), (11, .int s0), (0, .ref (A 0)), (1, .int a1), (2, .int a2), (6, .long v6), (8, .long v8), (10, .int v10)]) hx hb dX10_play_276 hl (k := 4) rfl (by rw [ex2]; rfl) (by decide) rfl (fun ls hl => ?_)
      refine lv_goto (tgt := 93) hx hb dX10_play_279 (by decide) ?_
      exact ih93 x2 S h _ _ _ hP hS (lv_sub hl [2, 3, 4, 0] rfl)
    · have h := h.2 c1
      refine lv_iload hx hb dX10_play_259 (lv_at hl 0 rfl) ?_
      refine lv_if_eq (tgt := 276) hx hb dX10_play_261 (by decide) (fun c3 => ?_) (fun c3 => ?_)
      · have h := h.1 c3
        obtain ⟨x4, ex4⟩ : ∃ z : Int32, z = v3 + (1 : Int32) := ⟨_, rfl⟩
        have h := h x4 ex4
        refine lv_iinc (v := x4) (lv' := [(3, .int x4), (11, .int s0), (0, .ref (A 0)), (1, .int a1), (2, .int a2), (6, .long v6), (8, .long v8), (10, .int v10)]) hx hb dX10_play_276 hl (k := 4) rfl (by rw [ex4]; rfl) (by decide) rfl (fun ls hl => ?_)
        refine lv_goto (tgt := 93) hx hb dX10_play_279 (by decide) ?_
        exact ih93 x4 S h _ _ _ hP hS (lv_sub hl [2, 3, 4, 0] rfl)
      · have h := h.2 c3
        refine lv_aload_n hx hb dX10_play_264 rfl (lv_at hl 1 rfl) ?_
        refine lv_lload hx hb dX10_play_265 (lv_at hl 5 rfl) ?_
        obtain ⟨S5, eS5⟩ : ∃ z : gS, z = sL S 0 v6 := ⟨_, rfl⟩
        have h := h S5 eS5
        refine va_put (ci := 10) (v := .long v6) (ty := .long) (C := RX10) (T := TX10) (N := 54) hx hb hts k0 tyX10 tyX10_ok nmX10 hown hK hP (hD S) hS 0 (aM0 Y A S) rfl 52 (by decide) k1 (fun _ h9 => h9) rfl rfl rfl rfl (by simp) dX10_play_267 (fun H locs hP _ hS => ?_)
        have hP := pM0_52 eS5 hP
        refine lv_aload_n hx hb dX10_play_270 rfl (lv_at hl 1 rfl) ?_
        refine lv_lload hx hb dX10_play_271 (lv_at hl 6 rfl) ?_
        obtain ⟨S6, eS6⟩ : ∃ z : gS, z = sL S5 1 v8 := ⟨_, rfl⟩
        have h := h S6 eS6
        refine va_put (ci := 10) (v := .long v8) (ty := .long) (C := RX10) (T := TX10) (N := 54) hx hb hts k0 tyX10 tyX10_ok nmX10 hown hK hP (hD S5) hS 0 (aM0 Y A S5) rfl 53 (by decide) k2 (fun _ h9 => h9) rfl rfl rfl rfl (by simp) dX10_play_273 (fun H locs hP _ hS => ?_)
        have hP := pM0_53 eS6 hP
        obtain ⟨x7, ex7⟩ : ∃ z : Int32, z = v3 + (1 : Int32) := ⟨_, rfl⟩
        have h := h x7 ex7
        refine lv_iinc (v := x7) (lv' := [(3, .int x7), (11, .int s0), (0, .ref (A 0)), (1, .int a1), (2, .int a2), (6, .long v6), (8, .long v8), (10, .int v10)]) hx hb dX10_play_276 hl (k := 4) rfl (by rw [ex7]; rfl) (by decide) rfl (fun ls hl => ?_)
        refine lv_goto (tgt := 93) hx hb dX10_play_279 (by decide) ?_
        exact ih93 x7 S6 h _ _ _ hP hS (lv_sub hl [2, 3, 4, 0] rfl)
  have tJ247 : ∀ (K93 : Int32 × gS → Prop) (ih93 : ∀ (v3 : Int32) (S : gS), K93 (v3, S) → ∀ (H : Heap) (locs : List Loc) (ls : Array Slot), va_P D vwCl (wM Y A S) H → va_S (gF A 44 s.heap.size) s.heap H locs → lv_has ls 13 [(0, .ref (A 0)), (1, .int a1), (2, .int a2), (3, .int v3)] → W p l e rmX10_play s m args below meth c H locs 0 0 Z (F0 m 93 ls [])) (v3 : Int32) (v6 : Int64) (v8 : Int64) (v10 : Int32) (S : gS), qX10_play_J247 a1 a2 Q K93 (v3, v6, v8, v10, S) → ∀ (H : Heap) (locs : List Loc) (ls : Array Slot), va_P D vwCl (wM Y A S) H → va_S (gF A 44 s.heap.size) s.heap H locs → lv_has ls 13 [(0, .ref (A 0)), (1, .int a1), (2, .int a2), (3, .int v3), (6, .long v6), (8, .long v8), (10, .int v10)] → W p l e rmX10_play s m args below meth c H locs 0 0 Z (F0 m 247 ls []) := by
    intro K93 ih93 v3 v6 v8 v10 S h
    intro H locs ls hP hS hl
    refine lv_iconst (v := (1 : Int32)) hx hb dX10_play_247 (by decide) ?_
    refine lv_goto (tgt := 252) hx hb dX10_play_248 (by decide) ?_
    exact tJ252 K93 ih93 v3 v6 v8 v10 (1 : Int32) S h _ _ _ hP hS (lv_sub hl [0, 1, 2, 3, 4, 5, 6] rfl)
  have tJ223 : ∀ (K93 : Int32 × gS → Prop) (ih93 : ∀ (v3 : Int32) (S : gS), K93 (v3, S) → ∀ (H : Heap) (locs : List Loc) (ls : Array Slot), va_P D vwCl (wM Y A S) H → va_S (gF A 44 s.heap.size) s.heap H locs → lv_has ls 13 [(0, .ref (A 0)), (1, .int a1), (2, .int a2), (3, .int v3)] → W p l e rmX10_play s m args below meth c H locs 0 0 Z (F0 m 93 ls [])) (v3 : Int32) (v6 : Int64) (v8 : Int64) (s0 : Int32) (S : gS), qX10_play_J223 a1 a2 Q K93 (v3, v6, v8, s0, S) → ∀ (H : Heap) (locs : List Loc) (ls : Array Slot), va_P D vwCl (wM Y A S) H → va_S (gF A 44 s.heap.size) s.heap H locs → lv_has ls 13 [(0, .ref (A 0)), (1, .int a1), (2, .int a2), (3, .int v3), (6, .long v6), (8, .long v8)] → W p l e rmX10_play s m args below meth c H locs 0 0 Z (F0 m 223 ls [.int s0]) := by
    intro K93 ih93 v3 v6 v8 s0 S h
    intro H locs ls hP hS hl
    refine lv_istore (lv' := [(10, .int s0), (0, .ref (A 0)), (1, .int a1), (2, .int a2), (3, .int v3), (6, .long v6), (8, .long v8)]) hx hb dX10_play_223 hl (by decide) rfl (fun ls hl => ?_)
    refine lv_iload_n hx hb dX10_play_225 rfl (lv_at hl 4 rfl) ?_
    refine lv_bipush (v := (6 : Int32)) hx hb dX10_play_226 (by decide) ?_
    refine lv_icmp_eq (tgt := 247) hx hb dX10_play_228 (by decide) (fun c8 => ?_) (fun c8 => ?_)
    · have h := h.1 c8
      exact tJ247 K93 ih93 v3 v6 v8 s0 S h _ _ _ hP hS (lv_sub hl [1, 2, 3, 4, 5, 6, 0] rfl)
    · have h := h.2 c8
      refine lv_aload_n hx hb dX10_play_231 rfl (lv_at hl 1 rfl) ?_
      refine va_get (ci := 10) (v := .ref (A 43)) (C := RX10) (T := TX10) (N := 54) hx hb hts k0 hown hK hP 0 (aM0 Y A S) rfl 51 (by decide) k3 (fun _ h9 => h9) rfl dX10_play_232 ?_
      refine lv_iload_n hx hb dX10_play_235 rfl (lv_at hl 4 rfl) ?_
      have v_9 := h.1
      have h := h.2
      refine va_iald hx hb hK hP 43 0 (aM43 Y A S) rfl v_9 dX10_play_236 ?_
      refine lv_i2l hx hb dX10_play_237 rfl ?_
      refine lv_lload hx hb dX10_play_238 (lv_at hl 6 rfl) ?_
      refine lv_lmul hx hb dX10_play_240 ?_
      refine lv_lload hx hb dX10_play_241 (lv_at hl 5 rfl) ?_
      refine W.lcmp hx hb dX10_play_243 ?_
      refine lv_if_gt (tgt := 251) hx hb dX10_play_244 (by decide) (fun c10 => ?_) (fun c10 => ?_)
      · have h := h.1 c10
        refine lv_iconst (v := (0 : Int32)) hx hb dX10_play_251 (by decide) ?_
        exact tJ252 K93 ih93 v3 v6 v8 s0 (0 : Int32) S h _ _ _ hP hS (lv_sub hl [1, 2, 3, 4, 5, 6, 0] rfl)
      · have h := h.2 c10
        exact tJ247 K93 ih93 v3 v6 v8 s0 S h _ _ _ hP hS (lv_sub hl [1, 2, 3, 4, 5, 6, 0] rfl)
  have tL150 : ∀ (K93 : Int32 × gS → Prop) (ih93 : ∀ (v3 : Int32) (S : gS), K93 (v3, S) → ∀ (H : Heap) (locs : List Loc) (ls : Array Slot), va_P D vwCl (wM Y A S) H → va_S (gF A 44 s.heap.size) s.heap H locs → lv_has ls 13 [(0, .ref (A 0)), (1, .int a1), (2, .int a2), (3, .int v3)] → W p l e rmX10_play s m args below meth c H locs 0 0 Z (F0 m 93 ls [])) (v3 : Int32) (v4 : Int64) (v6 : Int64) (v8 : Int64) (v10 : Int32) (S : gS), lp (qX10_play_L150 a1 a2 Q K93) (v3, v4, v6, v8, v10, S) → ∀ (H : Heap) (locs : List Loc) (ls : Array Slot), va_P D vwCl (wM Y A S) H → va_S (gF A 44 s.heap.size) s.heap H locs → lv_has ls 13 [(0, .ref (A 0)), (1, .int a1), (2, .int a2), (3, .int v3), (4, .long v4), (6, .long v6), (8, .long v8), (10, .int v10)] → W p l e rmX10_play s m args below meth c H locs 0 0 Z (F0 m 150 ls []) := by
    intro K93 ih93 v3 v4 v6 v8 v10 S h
    refine lp_walk (G := fun a => match a with | (v3, v4, v6, v8, v10, S) => ∀ (H : Heap) (locs : List Loc) (ls : Array Slot), va_P D vwCl (wM Y A S) H → va_S (gF A 44 s.heap.size) s.heap H locs → lv_has ls 13 [(0, .ref (A 0)), (1, .int a1), (2, .int a2), (3, .int v3), (4, .long v4), (6, .long v6), (8, .long v8), (10, .int v10)] → W p l e rmX10_play s m args below meth c H locs 0 0 Z (F0 m 150 ls [])) (fun K150 a ih150 h => ?_) (v3, v4, v6, v8, v10, S) h
    obtain ⟨v3, v4, v6, v8, v10, S⟩ := a
    have ih150 : ∀ (v3 : Int32) (v4 : Int64) (v6 : Int64) (v8 : Int64) (v10 : Int32) (S : gS), K150 (v3, v4, v6, v8, v10, S) → ∀ (H : Heap) (locs : List Loc) (ls : Array Slot), va_P D vwCl (wM Y A S) H → va_S (gF A 44 s.heap.size) s.heap H locs → lv_has ls 13 [(0, .ref (A 0)), (1, .int a1), (2, .int a2), (3, .int v3), (4, .long v4), (6, .long v6), (8, .long v8), (10, .int v10)] → W p l e rmX10_play s m args below meth c H locs 0 0 Z (F0 m 150 ls []) := fun v3 v4 v6 v8 v10 S q => ih150 (v3, v4, v6, v8, v10, S) q
    intro H locs ls hP hS hl
    refine lv_iload hx hb dX10_play_150 (lv_at hl 7 rfl) ?_
    refine lv_iload_n hx hb dX10_play_152 rfl (lv_at hl 3 rfl) ?_
    refine lv_icmp_ge (tgt := 200) hx hb dX10_play_153 (by decide) (fun c11 => ?_) (fun c11 => ?_)
    · have h := h.1 c11
      refine lv_aload_n hx hb dX10_play_200 rfl (lv_at hl 0 rfl) ?_
      refine va_get (ci := 10) (v := .ref (A 43)) (C := RX10) (T := TX10) (N := 54) hx hb hts k0 hown hK hP 0 (aM0 Y A S) rfl 51 (by decide) k3 (fun _ h9 => h9) rfl dX10_play_201 ?_
      refine lv_iload_n hx hb dX10_play_204 rfl (lv_at hl 3 rfl) ?_
      refine lv_iconst (v := (1 : Int32)) hx hb dX10_play_205 (by decide) ?_
      refine lv_isub hx hb dX10_play_206 ?_
      have v_12 := h.1
      have h := h.2
      refine va_iald hx hb hK hP 43 0 (aM43 Y A S) rfl v_12 dX10_play_207 ?_
      refine lv_i2l hx hb dX10_play_208 rfl ?_
      refine lv_lload hx hb dX10_play_209 (lv_at hl 6 rfl) ?_
      refine lv_lmul hx hb dX10_play_211 ?_
      refine lv_lload hx hb dX10_play_212 (lv_at hl 5 rfl) ?_
      refine W.lcmp hx hb dX10_play_214 ?_
      refine lv_if_le (tgt := 222) hx hb dX10_play_215 (by decide) (fun c13 => ?_) (fun c13 => ?_)
      · have h := h.1 c13
        refine lv_iconst (v := (0 : Int32)) hx hb dX10_play_222 (by decide) ?_
        exact tJ223 K93 ih93 v3 v6 v8 (0 : Int32) S h _ _ _ hP hS (lv_sub hl [0, 1, 2, 3, 5, 6] rfl)
      · have h := h.2 c13
        refine lv_iconst (v := (1 : Int32)) hx hb dX10_play_218 (by decide) ?_
        refine lv_goto (tgt := 223) hx hb dX10_play_219 (by decide) ?_
        exact tJ223 K93 ih93 v3 v6 v8 (1 : Int32) S h _ _ _ hP hS (lv_sub hl [0, 1, 2, 3, 5, 6] rfl)
    · have h := h.2 c11
      refine lv_lload hx hb dX10_play_156 (lv_at hl 4 rfl) ?_
      refine lv_aload_n hx hb dX10_play_158 rfl (lv_at hl 0 rfl) ?_
      refine va_get (ci := 10) (v := .ref (A 43)) (C := RX10) (T := TX10) (N := 54) hx hb hts k0 hown hK hP 0 (aM0 Y A S) rfl 51 (by decide) k3 (fun _ h9 => h9) rfl dX10_play_159 ?_
      refine lv_iload hx hb dX10_play_162 (lv_at hl 7 rfl) ?_
      have v_14 := h.1
      have h := h.2
      refine va_iald hx hb hK hP 43 0 (aM43 Y A S) rfl v_14 dX10_play_164 ?_
      refine lv_iload_n hx hb dX10_play_165 rfl (lv_at hl 2 rfl) ?_
      refine lv_iadd hx hb dX10_play_166 ?_
      refine lv_i2l hx hb dX10_play_167 rfl ?_
      have n_15 := h.1
      have h := h.2
      refine lv_ldiv hx hb dX10_play_168 n_15 ?_
      refine lv_topl (fun x16 ex16 => ?_)
      have h := h x16 ex16
      refine lv_lstore (lv' := [(11, .long x16), (0, .ref (A 0)), (1, .int a1), (2, .int a2), (3, .int v3), (4, .long v4), (6, .long v6), (8, .long v8), (10, .int v10)]) hx hb dX10_play_169 hl (by decide) rfl (fun ls hl => ?_)
      refine lv_lload hx hb dX10_play_171 (lv_at hl 6 rfl) ?_
      refine lv_aload_n hx hb dX10_play_173 rfl (lv_at hl 1 rfl) ?_
      refine va_get (ci := 10) (v := .ref (A 43)) (C := RX10) (T := TX10) (N := 54) hx hb hts k0 hown hK hP 0 (aM0 Y A S) rfl 51 (by decide) k3 (fun _ h9 => h9) rfl dX10_play_174 ?_
      refine lv_iload hx hb dX10_play_177 (lv_at hl 8 rfl) ?_
      refine va_iald hx hb hK hP 43 0 (aM43 Y A S) rfl v_14 dX10_play_179 ?_
      refine lv_i2l hx hb dX10_play_180 rfl ?_
      refine lv_lload hx hb dX10_play_181 (lv_at hl 0 rfl) ?_
      refine lv_lmul hx hb dX10_play_183 ?_
      refine lv_ladd hx hb dX10_play_184 ?_
      refine lv_topl (fun x17 ex17 => ?_)
      have h := h x17 ex17
      refine lv_lstore (lv' := [(6, .long x17), (11, .long x16), (0, .ref (A 0)), (1, .int a1), (2, .int a2), (3, .int v3), (4, .long v4), (8, .long v8), (10, .int v10)]) hx hb dX10_play_185 hl (by decide) rfl (fun ls hl => ?_)
      refine lv_lload hx hb dX10_play_187 (lv_at hl 7 rfl) ?_
      refine lv_lload hx hb dX10_play_189 (lv_at hl 1 rfl) ?_
      refine lv_ladd hx hb dX10_play_191 ?_
      refine lv_topl (fun x18 ex18 => ?_)
      have h := h x18 ex18
      refine lv_lstore (lv' := [(8, .long x18), (6, .long x17), (11, .long x16), (0, .ref (A 0)), (1, .int a1), (2, .int a2), (3, .int v3), (4, .long v4), (10, .int v10)]) hx hb dX10_play_192 hl (by decide) rfl (fun ls hl => ?_)
      obtain ⟨x19, ex19⟩ : ∃ z : Int32, z = v10 + (1 : Int32) := ⟨_, rfl⟩
      have h := h x19 ex19
      refine lv_iinc (v := x19) (lv' := [(10, .int x19), (8, .long x18), (6, .long x17), (11, .long x16), (0, .ref (A 0)), (1, .int a1), (2, .int a2), (3, .int v3), (4, .long v4)]) hx hb dX10_play_194 hl (k := 8) rfl (by rw [ex19]; rfl) (by decide) rfl (fun ls hl => ?_)
      refine lv_goto (tgt := 150) hx hb dX10_play_197 (by decide) ?_
      exact ih150 v3 v4 x17 x18 x19 S h _ _ _ hP hS (lv_sub hl [4, 5, 6, 7, 8, 2, 1, 0] rfl)
  have tL109 : ∀ (K93 : Int32 × gS → Prop) (ih93 : ∀ (v3 : Int32) (S : gS), K93 (v3, S) → ∀ (H : Heap) (locs : List Loc) (ls : Array Slot), va_P D vwCl (wM Y A S) H → va_S (gF A 44 s.heap.size) s.heap H locs → lv_has ls 13 [(0, .ref (A 0)), (1, .int a1), (2, .int a2), (3, .int v3)] → W p l e rmX10_play s m args below meth c H locs 0 0 Z (F0 m 93 ls [])) (v3 : Int32) (v4 : Int64) (v6 : Int32) (S : gS), lp (qX10_play_L109 a1 a2 Q K93) (v3, v4, v6, S) → ∀ (H : Heap) (locs : List Loc) (ls : Array Slot), va_P D vwCl (wM Y A S) H → va_S (gF A 44 s.heap.size) s.heap H locs → lv_has ls 13 [(0, .ref (A 0)), (1, .int a1), (2, .int a2), (3, .int v3), (4, .long v4), (6, .int v6)] → W p l e rmX10_play s m args below meth c H locs 0 0 Z (F0 m 109 ls []) := by
    intro K93 ih93 v3 v4 v6 S h
    refine lp_walk (G := fun a => match a with | (v3, v4, v6, S) => ∀ (H : Heap) (locs : List Loc) (ls : Array Slot), va_P D vwCl (wM Y A S) H → va_S (gF A 44 s.heap.size) s.heap H locs → lv_has ls 13 [(0, .ref (A 0)), (1, .int a1), (2, .int a2), (3, .int v3), (4, .long v4), (6, .int v6)] → W p l e rmX10_play s m args below meth c H locs 0 0 Z (F0 m 109 ls [])) (fun K109 a ih109 h => ?_) (v3, v4, v6, S) h
    obtain ⟨v3, v4, v6, S⟩ := a
    have ih109 : ∀ (v3 : Int32) (v4 : Int64) (v6 : Int32) (S : gS), K109 (v3, v4, v6, S) → ∀ (H : Heap) (locs : List Loc) (ls : Array Slot), va_P D vwCl (wM Y A S) H → va_S (gF A 44 s.heap.size) s.heap H locs → lv_has ls 13 [(0, .ref (A 0)), (1, .int a1), (2, .int a2), (3, .int v3), (4, .long v4), (6, .int v6)] → W p l e rmX10_play s m args below meth c H locs 0 0 Z (F0 m 109 ls []) := fun v3 v4 v6 S q => ih109 (v3, v4, v6, S) q
    intro H locs ls hP hS hl
    refine lv_iload hx hb dX10_play_109 (lv_at hl 5 rfl) ?_
    refine lv_iload_n hx hb dX10_play_111 rfl (lv_at hl 3 rfl) ?_
    refine lv_icmp_ge (tgt := 136) hx hb dX10_play_112 (by decide) (fun c20 => ?_) (fun c20 => ?_)
    · have h := h.1 c20
      refine lv_iload_n hx hb dX10_play_136 rfl (lv_at hl 1 rfl) ?_
      refine lv_ineg hx hb dX10_play_137 ?_
      refine lv_i2l hx hb dX10_play_138 rfl ?_
      refine lv_lload hx hb dX10_play_139 (lv_at hl 4 rfl) ?_
      refine lv_lmul hx hb dX10_play_141 ?_
      refine lv_topl (fun x21 ex21 => ?_)
      have h := h x21 ex21
      refine lv_lstore (lv' := [(6, .long x21), (0, .ref (A 0)), (1, .int a1), (2, .int a2), (3, .int v3), (4, .long v4)]) hx hb dX10_play_142 hl (by decide) rfl (fun ls hl => ?_)
      refine lv_lconst (v := (0 : Int64)) hx hb dX10_play_144 (by decide) ?_
      refine lv_lstore (lv' := [(8, .long (0 : Int64)), (6, .long x21), (0, .ref (A 0)), (1, .int a1), (2, .int a2), (3, .int v3), (4, .long v4)]) hx hb dX10_play_145 hl (by decide) rfl (fun ls hl => ?_)
      refine lv_iconst (v := (0 : Int32)) hx hb dX10_play_147 (by decide) ?_
      refine lv_istore (lv' := [(10, .int (0 : Int32)), (8, .long (0 : Int64)), (6, .long x21), (0, .ref (A 0)), (1, .int a1), (2, .int a2), (3, .int v3), (4, .long v4)]) hx hb dX10_play_148 hl (by decide) rfl (fun ls hl => ?_)
      exact tL150 K93 ih93 v3 v4 x21 (0 : Int64) (0 : Int32) S h _ _ _ hP hS (lv_sub hl [3, 4, 5, 6, 7, 2, 1, 0] rfl)
    · have h := h.2 c20
      refine lv_lload hx hb dX10_play_115 (lv_at hl 4 rfl) ?_
      refine lv_aload_n hx hb dX10_play_117 rfl (lv_at hl 0 rfl) ?_
      refine va_get (ci := 10) (v := .ref (A 43)) (C := RX10) (T := TX10) (N := 54) hx hb hts k0 hown hK hP 0 (aM0 Y A S) rfl 51 (by decide) k3 (fun _ h9 => h9) rfl dX10_play_118 ?_
      refine lv_iload hx hb dX10_play_121 (lv_at hl 5 rfl) ?_
      have v_22 := h.1
      have h := h.2
      refine va_iald hx hb hK hP 43 0 (aM43 Y A S) rfl v_22 dX10_play_123 ?_
      refine lv_iload_n hx hb dX10_play_124 rfl (lv_at hl 2 rfl) ?_
      refine lv_iadd hx hb dX10_play_125 ?_
      refine lv_i2l hx hb dX10_play_126 rfl ?_
      refine lv_lmul hx hb dX10_play_127 ?_
      refine lv_topl (fun x23 ex23 => ?_)
      have h := h x23 ex23
      refine lv_lstore (lv' := [(4, .long x23), (0, .ref (A 0)), (1, .int a1), (2, .int a2), (3, .int v3), (6, .int v6)]) hx hb dX10_play_128 hl (by decide) rfl (fun ls hl => ?_)
      obtain ⟨x24, ex24⟩ : ∃ z : Int32, z = v6 + (1 : Int32) := ⟨_, rfl⟩
      have h := h x24 ex24
      refine lv_iinc (v := x24) (lv' := [(6, .int x24), (4, .long x23), (0, .ref (A 0)), (1, .int a1), (2, .int a2), (3, .int v3)]) hx hb dX10_play_130 hl (k := 5) rfl (by rw [ex24]; rfl) (by decide) rfl (fun ls hl => ?_)
      refine lv_goto (tgt := 109) hx hb dX10_play_133 (by decide) ?_
      exact ih109 v3 x23 x24 S h _ _ _ hP hS (lv_sub hl [2, 3, 4, 5, 1, 0] rfl)
  have tL93 : ∀ (v3 : Int32) (S : gS), lp (qX10_play_L93 a1 a2 Q) (v3, S) → ∀ (H : Heap) (locs : List Loc) (ls : Array Slot), va_P D vwCl (wM Y A S) H → va_S (gF A 44 s.heap.size) s.heap H locs → lv_has ls 13 [(0, .ref (A 0)), (1, .int a1), (2, .int a2), (3, .int v3)] → W p l e rmX10_play s m args below meth c H locs 0 0 Z (F0 m 93 ls []) := by
    intro  v3 S h
    refine lp_walk (G := fun a => match a with | (v3, S) => ∀ (H : Heap) (locs : List Loc) (ls : Array Slot), va_P D vwCl (wM Y A S) H → va_S (gF A 44 s.heap.size) s.heap H locs → lv_has ls 13 [(0, .ref (A 0)), (1, .int a1), (2, .int a2), (3, .int v3)] → W p l e rmX10_play s m args below meth c H locs 0 0 Z (F0 m 93 ls [])) (fun K93 a ih93 h => ?_) (v3, S) h
    obtain ⟨v3, S⟩ := a
    have ih93 : ∀ (v3 : Int32) (S : gS), K93 (v3, S) → ∀ (H : Heap) (locs : List Loc) (ls : Array Slot), va_P D vwCl (wM Y A S) H → va_S (gF A 44 s.heap.size) s.heap H locs → lv_has ls 13 [(0, .ref (A 0)), (1, .int a1), (2, .int a2), (3, .int v3)] → W p l e rmX10_play s m args below meth c H locs 0 0 Z (F0 m 93 ls []) := fun v3 S q => ih93 (v3, S) q
    intro H locs ls hP hS hl
    refine lv_iload_n hx hb dX10_play_93 rfl (lv_at hl 3 rfl) ?_
    refine lv_bipush (v := (6 : Int32)) hx hb dX10_play_94 (by decide) ?_
    refine lv_icmp_gt (tgt := 282) hx hb dX10_play_96 (by decide) (fun c25 => ?_) (fun c25 => ?_)
    · have h := h.1 c25
      exact hret _ _ _ _ _ dX10_play_282 h hP hS
    · have h := h.2 c25
      refine lv_iload_n hx hb dX10_play_99 rfl (lv_at hl 1 rfl) ?_
      refine lv_if_le (tgt := 282) hx hb dX10_play_100 (by decide) (fun c26 => ?_) (fun c26 => ?_)
      · have h := h.1 c26
        exact hret _ _ _ _ _ dX10_play_282 h hP hS
      · have h := h.2 c26
        refine lv_lconst (v := (1 : Int64)) hx hb dX10_play_103 (by decide) ?_
        refine lv_lstore (lv' := [(4, .long (1 : Int64)), (0, .ref (A 0)), (1, .int a1), (2, .int a2), (3, .int v3)]) hx hb dX10_play_104 hl (by decide) rfl (fun ls hl => ?_)
        refine lv_iconst (v := (0 : Int32)) hx hb dX10_play_106 (by decide) ?_
        refine lv_istore (lv' := [(6, .int (0 : Int32)), (4, .long (1 : Int64)), (0, .ref (A 0)), (1, .int a1), (2, .int a2), (3, .int v3)]) hx hb dX10_play_107 hl (by decide) rfl (fun ls hl => ?_)
        exact tL109 K93 ih93 v3 (1 : Int64) (0 : Int32) S h _ _ _ hP hS (lv_sub hl [2, 3, 4, 5, 1, 0] rfl)
  have tJ56 : ∀ (K2 : Int32 × gS → Prop) (ih2 : ∀ (v3 : Int32) (S : gS), K2 (v3, S) → ∀ (H : Heap) (locs : List Loc) (ls : Array Slot), va_P D vwCl (wM Y A S) H → va_S (gF A 44 s.heap.size) s.heap H locs → lv_has ls 13 [(0, .ref (A 0)), (1, .int a1), (2, .int a2), (3, .int v3)] → W p l e rmX10_play s m args below meth c H locs 0 0 Z (F0 m 2 ls [])) (v3 : Int32) (v4 : Int32) (S : gS), qX10_play_J56 a1 a2 Q K2 (v3, v4, S) → ∀ (H : Heap) (locs : List Loc) (ls : Array Slot), va_P D vwCl (wM Y A S) H → va_S (gF A 44 s.heap.size) s.heap H locs → lv_has ls 13 [(0, .ref (A 0)), (1, .int a1), (2, .int a2), (3, .int v3), (4, .int v4)] → W p l e rmX10_play s m args below meth c H locs 0 0 Z (F0 m 56 ls []) := by
    intro K2 ih2 v3 v4 S h
    intro H locs ls hP hS hl
    refine lv_aload_n hx hb dX10_play_56 rfl (lv_at hl 0 rfl) ?_
    refine va_get (ci := 10) (v := .ref (A 43)) (C := RX10) (T := TX10) (N := 54) hx hb hts k0 hown hK hP 0 (aM0 Y A S) rfl 51 (by decide) k3 (fun _ h9 => h9) rfl dX10_play_57 ?_
    refine lv_iload hx hb dX10_play_60 (lv_at hl 4 rfl) ?_
    refine lv_aload_n hx hb dX10_play_62 rfl (lv_at hl 0 rfl) ?_
    refine va_get (ci := 10) (v := .ref (A 2)) (C := RX10) (T := TX10) (N := 54) hx hb hts k0 hown hK hP 0 (aM0 Y A S) rfl 3 (by decide) k4 (fun _ h9 => h9) rfl dX10_play_63 ?_
    refine lv_iload_n hx hb dX10_play_66 rfl (lv_at hl 3 rfl) ?_
    have v_27 := h.1
    have h := h.2
    refine va_iald hx hb hK hP 2 0 (aM2 Y A S) rfl v_27 dX10_play_67 ?_
    have v_29 := h.1
    have h := h.2
    obtain ⟨S28, eS28⟩ : ∃ z : gS, z = sA S 42 (upd (ga S 42) v4.toNatClampNeg (ga S 1 v3.toNatClampNeg)) := ⟨_, rfl⟩
    refine va_iast hx hb hK hP (hD S) hS 43 0 (aM43 Y A S) rfl v_29 dX10_play_68 (fun H locs hP _ hS => ?_)
    have hP := uM43 eS28 hP
    have h := h S28 eS28
    obtain ⟨x30, ex30⟩ : ∃ z : Int32, z = v3 + (1 : Int32) := ⟨_, rfl⟩
    have h := h x30 ex30
    refine lv_iinc (v := x30) (lv' := [(3, .int x30), (0, .ref (A 0)), (1, .int a1), (2, .int a2), (4, .int v4)]) hx hb dX10_play_69 hl (k := 3) rfl (by rw [ex30]; rfl) (by decide) rfl (fun ls hl => ?_)
    refine lv_goto (tgt := 2) hx hb dX10_play_72 (by decide) ?_
    exact ih2 x30 S28 h _ _ _ hP hS (lv_sub hl [1, 2, 3, 0] rfl)
  have tL11 : ∀ (K2 : Int32 × gS → Prop) (ih2 : ∀ (v3 : Int32) (S : gS), K2 (v3, S) → ∀ (H : Heap) (locs : List Loc) (ls : Array Slot), va_P D vwCl (wM Y A S) H → va_S (gF A 44 s.heap.size) s.heap H locs → lv_has ls 13 [(0, .ref (A 0)), (1, .int a1), (2, .int a2), (3, .int v3)] → W p l e rmX10_play s m args below meth c H locs 0 0 Z (F0 m 2 ls [])) (v3 : Int32) (v4 : Int32) (S : gS), lp (qX10_play_L11 a1 a2 Q K2) (v3, v4, S) → ∀ (H : Heap) (locs : List Loc) (ls : Array Slot), va_P D vwCl (wM Y A S) H → va_S (gF A 44 s.heap.size) s.heap H locs → lv_has ls 13 [(0, .ref (A 0)), (1, .int a1), (2, .int a2), (3, .int v3), (4, .int v4)] → W p l e rmX10_play s m args below meth c H locs 0 0 Z (F0 m 11 ls []) := by
    intro K2 ih2 v3 v4 S h
    refine lp_walk (G := fun a => match a with | (v3, v4, S) => ∀ (H : Heap) (locs : List Loc) (ls : Array Slot), va_P D vwCl (wM Y A S) H → va_S (gF A 44 s.heap.size) s.heap H locs → lv_has ls 13 [(0, .ref (A 0)), (1, .int a1), (2, .int a2), (3, .int v3), (4, .int v4)] → W p l e rmX10_play s m args below meth c H locs 0 0 Z (F0 m 11 ls [])) (fun K11 a ih11 h => ?_) (v3, v4, S) h
    obtain ⟨v3, v4, S⟩ := a
    have ih11 : ∀ (v3 : Int32) (v4 : Int32) (S : gS), K11 (v3, v4, S) → ∀ (H : Heap) (locs : List Loc) (ls : Array Slot), va_P D vwCl (wM Y A S) H → va_S (gF A 44 s.heap.size) s.heap H locs → lv_has ls 13 [(0, .ref (A 0)), (1, .int a1), (2, .int a2), (3, .int v3), (4, .int v4)] → W p l e rmX10_play s m args below meth c H locs 0 0 Z (F0 m 11 ls []) := fun v3 v4 S q => ih11 (v3, v4, S) q
    intro H locs ls hP hS hl
    refine lv_iload hx hb dX10_play_11 (lv_at hl 4 rfl) ?_
    refine lv_if_le (tgt := 56) hx hb dX10_play_13 (by decide) (fun c31 => ?_) (fun c31 => ?_)
    · have h := h.1 c31
      exact tJ56 K2 ih2 v3 v4 S h _ _ _ hP hS (lv_sub hl [0, 1, 2, 3, 4] rfl)
    · have h := h.2 c31
      refine lv_aload_n hx hb dX10_play_16 rfl (lv_at hl 0 rfl) ?_
      refine va_get (ci := 10) (v := .ref (A 43)) (C := RX10) (T := TX10) (N := 54) hx hb hts k0 hown hK hP 0 (aM0 Y A S) rfl 51 (by decide) k3 (fun _ h9 => h9) rfl dX10_play_17 ?_
      refine lv_iload hx hb dX10_play_20 (lv_at hl 4 rfl) ?_
      refine lv_iconst (v := (1 : Int32)) hx hb dX10_play_22 (by decide) ?_
      refine lv_isub hx hb dX10_play_23 ?_
      have v_32 := h.1
      have h := h.2
      refine va_iald hx hb hK hP 43 0 (aM43 Y A S) rfl v_32 dX10_play_24 ?_
      refine lv_aload_n hx hb dX10_play_25 rfl (lv_at hl 0 rfl) ?_
      refine va_get (ci := 10) (v := .ref (A 2)) (C := RX10) (T := TX10) (N := 54) hx hb hts k0 hown hK hP 0 (aM0 Y A S) rfl 3 (by decide) k4 (fun _ h9 => h9) rfl dX10_play_26 ?_
      refine lv_iload_n hx hb dX10_play_29 rfl (lv_at hl 3 rfl) ?_
      have v_33 := h.1
      have h := h.2
      refine va_iald hx hb hK hP 2 0 (aM2 Y A S) rfl v_33 dX10_play_30 ?_
      refine lv_icmp_ge (tgt := 56) hx hb dX10_play_31 (by decide) (fun c34 => ?_) (fun c34 => ?_)
      · have h := h.1 c34
        exact tJ56 K2 ih2 v3 v4 S h _ _ _ hP hS (lv_sub hl [0, 1, 2, 3, 4] rfl)
      · have h := h.2 c34
        refine lv_aload_n hx hb dX10_play_34 rfl (lv_at hl 0 rfl) ?_
        refine va_get (ci := 10) (v := .ref (A 43)) (C := RX10) (T := TX10) (N := 54) hx hb hts k0 hown hK hP 0 (aM0 Y A S) rfl 51 (by decide) k3 (fun _ h9 => h9) rfl dX10_play_35 ?_
        refine lv_iload hx hb dX10_play_38 (lv_at hl 4 rfl) ?_
        refine lv_aload_n hx hb dX10_play_40 rfl (lv_at hl 0 rfl) ?_
        refine va_get (ci := 10) (v := .ref (A 43)) (C := RX10) (T := TX10) (N := 54) hx hb hts k0 hown hK hP 0 (aM0 Y A S) rfl 51 (by decide) k3 (fun _ h9 => h9) rfl dX10_play_41 ?_
        refine lv_iload hx hb dX10_play_44 (lv_at hl 4 rfl) ?_
        refine lv_iconst (v := (1 : Int32)) hx hb dX10_play_46 (by decide) ?_
        refine lv_isub hx hb dX10_play_47 ?_
        refine va_iald hx hb hK hP 43 0 (aM43 Y A S) rfl v_32 dX10_play_48 ?_
        have v_36 := h.1
        have h := h.2
        obtain ⟨S35, eS35⟩ : ∃ z : gS, z = sA S 42 (upd (ga S 42) v4.toNatClampNeg (ga S 42 (v4 - (1 : Int32)).toNatClampNeg)) := ⟨_, rfl⟩
        refine va_iast hx hb hK hP (hD S) hS 43 0 (aM43 Y A S) rfl v_36 dX10_play_49 (fun H locs hP _ hS => ?_)
        have hP := uM43 eS35 hP
        have h := h S35 eS35
        obtain ⟨x37, ex37⟩ : ∃ z : Int32, z = v4 + (-1 : Int32) := ⟨_, rfl⟩
        have h := h x37 ex37
        refine lv_iinc (v := x37) (lv' := [(4, .int x37), (0, .ref (A 0)), (1, .int a1), (2, .int a2), (3, .int v3)]) hx hb dX10_play_50 hl (k := 4) rfl (by rw [ex37]; rfl) (by decide) rfl (fun ls hl => ?_)
        refine lv_goto (tgt := 11) hx hb dX10_play_53 (by decide) ?_
        exact ih11 v3 x37 S35 h _ _ _ hP hS (lv_sub hl [1, 2, 3, 4, 0] rfl)
  have tL2 : ∀ (v3 : Int32) (S : gS), lp (qX10_play_L2 a1 a2 Q) (v3, S) → ∀ (H : Heap) (locs : List Loc) (ls : Array Slot), va_P D vwCl (wM Y A S) H → va_S (gF A 44 s.heap.size) s.heap H locs → lv_has ls 13 [(0, .ref (A 0)), (1, .int a1), (2, .int a2), (3, .int v3)] → W p l e rmX10_play s m args below meth c H locs 0 0 Z (F0 m 2 ls []) := by
    intro  v3 S h
    refine lp_walk (G := fun a => match a with | (v3, S) => ∀ (H : Heap) (locs : List Loc) (ls : Array Slot), va_P D vwCl (wM Y A S) H → va_S (gF A 44 s.heap.size) s.heap H locs → lv_has ls 13 [(0, .ref (A 0)), (1, .int a1), (2, .int a2), (3, .int v3)] → W p l e rmX10_play s m args below meth c H locs 0 0 Z (F0 m 2 ls [])) (fun K2 a ih2 h => ?_) (v3, S) h
    obtain ⟨v3, S⟩ := a
    have ih2 : ∀ (v3 : Int32) (S : gS), K2 (v3, S) → ∀ (H : Heap) (locs : List Loc) (ls : Array Slot), va_P D vwCl (wM Y A S) H → va_S (gF A 44 s.heap.size) s.heap H locs → lv_has ls 13 [(0, .ref (A 0)), (1, .int a1), (2, .int a2), (3, .int v3)] → W p l e rmX10_play s m args below meth c H locs 0 0 Z (F0 m 2 ls []) := fun v3 S q => ih2 (v3, S) q
    intro H locs ls hP hS hl
    refine lv_iload_n hx hb dX10_play_2 rfl (lv_at hl 3 rfl) ?_
    refine lv_bipush (v := (6 : Int32)) hx hb dX10_play_3 (by decide) ?_
    refine lv_icmp_ge (tgt := 75) hx hb dX10_play_5 (by decide) (fun c38 => ?_) (fun c38 => ?_)
    · have h := h.1 c38
      refine lv_aload_n hx hb dX10_play_75 rfl (lv_at hl 0 rfl) ?_
      refine lv_aload_n hx hb dX10_play_76 rfl (lv_at hl 0 rfl) ?_
      refine va_get (ci := 10) (v := .ref (A 43)) (C := RX10) (T := TX10) (N := 54) hx hb hts k0 hown hK hP 0 (aM0 Y A S) rfl 51 (by decide) k3 (fun _ h9 => h9) rfl dX10_play_77 ?_
      refine lv_iconst (v := (0 : Int32)) hx hb dX10_play_80 (by decide) ?_
      have v_39 := h.1
      have h := h.2
      refine va_iald hx hb hK hP 43 0 (aM43 Y A S) rfl v_39 dX10_play_81 ?_
      refine lv_i2l hx hb dX10_play_82 rfl ?_
      obtain ⟨S40, eS40⟩ : ∃ z : gS, z = sL S 0 ((ga S 42 (0 : Int32).toNatClampNeg).toInt64) := ⟨_, rfl⟩
      have h := h S40 eS40
      refine va_put (ci := 10) (v := .long ((ga S 42 (0 : Int32).toNatClampNeg).toInt64)) (ty := .long) (C := RX10) (T := TX10) (N := 54) hx hb hts k0 tyX10 tyX10_ok nmX10 hown hK hP (hD S) hS 0 (aM0 Y A S) rfl 52 (by decide) k1 (fun _ h9 => h9) rfl rfl rfl rfl (by simp) dX10_play_83 (fun H locs hP _ hS => ?_)
      have hP := pM0_52 eS40 hP
      refine lv_aload_n hx hb dX10_play_86 rfl (lv_at hl 0 rfl) ?_
      refine lv_lconst (v := (1 : Int64)) hx hb dX10_play_87 (by decide) ?_
      obtain ⟨S41, eS41⟩ : ∃ z : gS, z = sL S40 1 (1 : Int64) := ⟨_, rfl⟩
      have h := h S41 eS41
      refine va_put (ci := 10) (v := .long (1 : Int64)) (ty := .long) (C := RX10) (T := TX10) (N := 54) hx hb hts k0 tyX10 tyX10_ok nmX10 hown hK hP (hD S40) hS 0 (aM0 Y A S40) rfl 53 (by decide) k2 (fun _ h9 => h9) rfl rfl rfl rfl (by simp) dX10_play_88 (fun H locs hP _ hS => ?_)
      have hP := pM0_53 eS41 hP
      refine lv_iconst (v := (1 : Int32)) hx hb dX10_play_91 (by decide) ?_
      refine lv_istore_n (lv' := [(3, .int (1 : Int32)), (0, .ref (A 0)), (1, .int a1), (2, .int a2)]) hx hb dX10_play_92 rfl hl (by decide) rfl (fun ls hl => ?_)
      exact tL93  (1 : Int32) S41 h _ _ _ hP hS (lv_sub hl [1, 2, 3, 0] rfl)
    · have h := h.2 c38
      refine lv_iload_n hx hb dX10_play_8 rfl (lv_at hl 3 rfl) ?_
      refine lv_istore (lv' := [(4, .int v3), (0, .ref (A 0)), (1, .int a1), (2, .int a2), (3, .int v3)]) hx hb dX10_play_9 hl (by decide) rfl (fun ls hl => ?_)
      exact tL11 K2 ih2 v3 v3 S h _ _ _ hP hS (lv_sub hl [1, 2, 3, 4, 0] rfl)
  refine lv_iconst (v := (0 : Int32)) hx hb dX10_play_0 (by decide) ?_
  refine lv_istore_n (lv' := [(3, .int (0 : Int32)), (0, .ref (A 0)), (1, .int a1), (2, .int a2)]) hx hb dX10_play_1 rfl hl (by decide) rfl (fun ls hl => ?_)
  exact tL2  (0 : Int32) S h _ _ _ hP hS (lv_sub hl [1, 2, 3, 0] rfl)

def qX10_refuseBig (S : gS) (a1 : Int32) (Q : Int64 → gS → Prop) : Prop :=
  vp_in (-a1) 8 ∧ (∀ S2 : gS, S2 = sA S 40 (upd (ga S 40) (-a1).toNatClampNeg ((ga S 40 (-a1).toNatClampNeg) + (1 : Int32))) → (Q ((4000000000000000000 : Int64) - a1.toInt64) S2))
abbrev rmX10_refuseBig : Room := { frames := 0, cells := 0, slots := 0, locals := 0 }
set_option maxHeartbeats 4000000 in
set_option maxRecDepth 100000 in
theorem kX10_refuseBig (l : Launch) (D : va_G) (Y : Nat → ClassId) (A : Nat → Nat) (hI : iM A) (sz : Nat) (S : gS) (a1 : Int32) (Q : Int64 → gS → Prop) (h : qX10_refuseBig S a1 Q) : Met l yX10_refuseBig wsX10_refuseBig rmX10_refuseBig (gPc [.ref (A 0), .int a1] sz D vwCl (tY Y) (wM Y A S)) (va_Ql Q (fun S' t => gH D vwCl (tY Y) (wM Y A S') t) (gF A 44 sz)) 0 0 (gF A 44 sz) := by
  refine gMet_l (cc := cX10_refuseBig) (maxL := 2) (by decide +kernel) rfl (Nat.le_of_ble_eq_true rfl) (fun p e s m args below meth c Z H locs hx hb hml hts hown hK hP hS hret ls hl => ?_)
  have hown : s.vm.findClass RX10 = some m.cls := hown
  have hl : lv_has ls 2 [(0, .ref (A 0)), (1, .int a1)] := hl
  have hD : ∀ S0 : gS, va_D (gF A 44 s.heap.size) (wM Y A S0) := fun S0 => dM hI S0 (fun k hk => gF_in hk)
  have k0 : ∀ w ∈ u_ws RX10 TX10 54, w ∈ wsX10_refuseBig := by decide +kernel
  have k1 := hts (.fieldLink RX10 135 "CoastWatchModel" "refused" "[I") (by decide +kernel)
  have k2 := hts (.constantLong RX10 249 4000000000000000000) (by decide +kernel)
  refine lv_aload_n hx hb dX10_refuseBig_0 rfl (lv_at hl 0 rfl) ?_
  refine va_get (ci := 10) (v := .ref (A 41)) (C := RX10) (T := TX10) (N := 54) hx hb hts k0 hown hK hP 0 (aM0 Y A S) rfl 49 (by decide) k1 (fun _ h9 => h9) rfl dX10_refuseBig_1 ?_
  refine lv_iload_n hx hb dX10_refuseBig_4 rfl (lv_at hl 1 rfl) ?_
  refine lv_ineg hx hb dX10_refuseBig_5 ?_
  refine lv_dup2_11 hx hb dX10_refuseBig_6 rfl rfl ?_
  have v_1 := h.1
  have h := h.2
  refine va_iald hx hb hK hP 41 0 (aM41 Y A S) rfl v_1 dX10_refuseBig_7 ?_
  refine lv_iconst (v := (1 : Int32)) hx hb dX10_refuseBig_8 (by decide) ?_
  refine lv_iadd hx hb dX10_refuseBig_9 ?_
  obtain ⟨S2, eS2⟩ : ∃ z : gS, z = sA S 40 (upd (ga S 40) (-a1).toNatClampNeg ((ga S 40 (-a1).toNatClampNeg) + (1 : Int32))) := ⟨_, rfl⟩
  refine va_iast hx hb hK hP (hD S) hS 41 0 (aM41 Y A S) rfl v_1 dX10_refuseBig_10 (fun H locs hP _ hS => ?_)
  have hP := uM41 eS2 hP
  have h := h S2 eS2
  refine lv_ldc2 (v := (4000000000000000000 : Int64)) hx hb hown k2 dX10_refuseBig_11 ?_
  refine lv_iload_n hx hb dX10_refuseBig_14 rfl (lv_at hl 1 rfl) ?_
  refine lv_i2l hx hb dX10_refuseBig_15 rfl ?_
  refine lv_lsub hx hb dX10_refuseBig_16 ?_
  exact hret _ _ _ _ _ _ dX10_refuseBig_17 h hP hS

def qX10_value (S : gS) (a1 : Int32) (a2 : Int32) (a3 : Int32) (Q : Int64 → gS → Prop) : Prop :=
  (a1 < 0 → (qX10_refuseBig S (-4 : Int32) (fun r3 S2 => Q r3 S2))) ∧ (¬ a1 < 0 → (((1 : Int32) ≤ a2 → (((6 : Int32) < a1 → (qX10_refuseBig S (-6 : Int32) (fun r7 S6 => Q r7 S6))) ∧ (¬ (6 : Int32) < a1 → ((a2 ≤ (99 : Int32) → (qX10_in S a3 (0 : Int32) (1 : Int32) (fun r10 S9 => (r10 = 0 → (qX10_refuseBig S9 (-2 : Int32) (fun r16 S15 => Q r16 S15))) ∧ (¬ r10 = 0 → (qX10_play S9 a1 a2 (fun S12 => qX10_side S12 (gl S12 0) (gl S12 1) a3 (fun r14 S13 => Q r14 S13))))))) ∧ (¬ a2 ≤ (99 : Int32) → (qX10_refuseBig S (-6 : Int32) (fun r18 S17 => Q r18 S17))))))) ∧ (¬ (1 : Int32) ≤ a2 → (qX10_refuseBig S (-4 : Int32) (fun r20 S19 => Q r20 S19)))))
abbrev rmX10_value : Room := { frames := 2, cells := 0, slots := 0, locals := 55 }
set_option maxHeartbeats 4000000 in
set_option maxRecDepth 100000 in
theorem kX10_value (l : Launch) (D : va_G) (Y : Nat → ClassId) (A : Nat → Nat) (hI : iM A) (sz : Nat) (S : gS) (a1 : Int32) (a2 : Int32) (a3 : Int32) (Q : Int64 → gS → Prop) (h : qX10_value S a1 a2 a3 Q) : Met l yX10_value wsX10_value rmX10_value (gPc [.ref (A 0), .int a1, .int a2, .int a3] sz D vwCl (tY Y) (wM Y A S)) (va_Ql Q (fun S' t => gH D vwCl (tY Y) (wM Y A S') t) (gF A 44 sz)) 0 0 (gF A 44 sz) := by
  refine gMet_l (cc := cX10_value) (maxL := 4) (by decide +kernel) rfl (Nat.le_of_ble_eq_true rfl) (fun p e s m args below meth c Z H locs hx hb hml hts hown hK hP hS hret ls hl => ?_)
  have hown : s.vm.findClass RX10 = some m.cls := hown
  have hl : lv_has ls 4 [(0, .ref (A 0)), (1, .int a1), (2, .int a2), (3, .int a3)] := hl
  have hD : ∀ S0 : gS, va_D (gF A 44 s.heap.size) (wM Y A S0) := fun S0 => dM hI S0 (fun k hk => gF_in hk)
  have k0 : ∀ w ∈ u_ws RX10 TX10 54, w ∈ wsX10_value := by decide +kernel
  have k1 := hts (.fieldLink RX10 242 "CoastWatchModel" "gameAbove" "J") (by decide +kernel)
  have k2 := hts (.fieldLink RX10 246 "CoastWatchModel" "gameBelow" "J") (by decide +kernel)
  refine lv_iload_n hx hb dX10_value_0 rfl (lv_at hl 1 rfl) ?_
  refine lv_if_lt (tgt := 9) hx hb dX10_value_1 (by decide) (fun c1 => ?_) (fun c1 => ?_)
  · have h := h.1 c1
    refine lv_aload_n hx hb dX10_value_9 rfl (lv_at hl 0 rfl) ?_
    refine lv_bipush (v := (-4 : Int32)) hx hb dX10_value_10 (by decide) ?_
    refine gVl (As := [.int (-4 : Int32)]) (rest := []) ⟨hx, hb, hml, hown, hts⟩ (kX10_refuseBig l D Y A hI H.size S (-4 : Int32) _ h) (cwV 1 hts gX10_value_X10_refuseBig rfl rfl rfl (by decide +kernel) ⟨Nat.le_of_ble_eq_true rfl, Nat.le_of_ble_eq_true rfl⟩) hK hP hS (gF_le hS.1) (aM0 Y A S) (show vwCl[10]? = some (RX10, TX10, 54) from rfl) rfl rfl hl.1 (Nat.le_of_ble_eq_true rfl) dX10_value_12 ⟨Nat.zero_le _, Nat.zero_le _⟩ ?_
    intro r3 S2 H locs h hP hS
    exact hret _ _ _ _ _ _ dX10_value_15 h hP hS
  · have h := h.2 c1
    refine lv_iload_n hx hb dX10_value_4 rfl (lv_at hl 2 rfl) ?_
    refine lv_iconst (v := (1 : Int32)) hx hb dX10_value_5 (by decide) ?_
    refine lv_icmp_ge (tgt := 16) hx hb dX10_value_6 (by decide) (fun c4 => ?_) (fun c4 => ?_)
    · have h := h.1 c4
      refine lv_iload_n hx hb dX10_value_16 rfl (lv_at hl 1 rfl) ?_
      refine lv_bipush (v := (6 : Int32)) hx hb dX10_value_17 (by decide) ?_
      refine lv_icmp_gt (tgt := 28) hx hb dX10_value_19 (by decide) (fun c5 => ?_) (fun c5 => ?_)
      · have h := h.1 c5
        refine lv_aload_n hx hb dX10_value_28 rfl (lv_at hl 0 rfl) ?_
        refine lv_bipush (v := (-6 : Int32)) hx hb dX10_value_29 (by decide) ?_
        refine gVl (As := [.int (-6 : Int32)]) (rest := []) ⟨hx, hb, hml, hown, hts⟩ (kX10_refuseBig l D Y A hI H.size S (-6 : Int32) _ h) (cwV 1 hts gX10_value_X10_refuseBig rfl rfl rfl (by decide +kernel) ⟨Nat.le_of_ble_eq_true rfl, Nat.le_of_ble_eq_true rfl⟩) hK hP hS (gF_le hS.1) (aM0 Y A S) (show vwCl[10]? = some (RX10, TX10, 54) from rfl) rfl rfl hl.1 (Nat.le_of_ble_eq_true rfl) dX10_value_31 ⟨Nat.zero_le _, Nat.zero_le _⟩ ?_
        intro r7 S6 H locs h hP hS
        exact hret _ _ _ _ _ _ dX10_value_34 h hP hS
      · have h := h.2 c5
        refine lv_iload_n hx hb dX10_value_22 rfl (lv_at hl 2 rfl) ?_
        refine lv_bipush (v := (99 : Int32)) hx hb dX10_value_23 (by decide) ?_
        refine lv_icmp_le (tgt := 35) hx hb dX10_value_25 (by decide) (fun c8 => ?_) (fun c8 => ?_)
        · have h := h.1 c8
          refine lv_iload_n hx hb dX10_value_35 rfl (lv_at hl 3 rfl) ?_
          refine lv_iconst (v := (0 : Int32)) hx hb dX10_value_36 (by decide) ?_
          refine lv_iconst (v := (1 : Int32)) hx hb dX10_value_37 (by decide) ?_
          refine gSi (As := [.int a3, .int (0 : Int32), .int (1 : Int32)]) (rest := []) ⟨hx, hb, hml, hown, hts⟩ (kX10_in l D Y A hI H.size S a3 (0 : Int32) (1 : Int32) _ h) (va_cwS 3 hts gX10_value_X10_in rfl rfl rfl (by decide +kernel) ⟨Nat.le_of_ble_eq_true rfl, Nat.le_of_ble_eq_true rfl⟩) hK hP hS (gF_le hS.1) rfl rfl hl.1 (Nat.le_of_ble_eq_true rfl) dX10_value_38 ⟨Nat.zero_le _, Nat.zero_le _⟩ ?_
          intro r10 S9 H locs h hP hS
          refine lv_if_ne (tgt := 51) hx hb dX10_value_41 (by decide) (fun c11 => ?_) (fun c11 => ?_)
          · have h := h.2 c11
            refine lv_aload_n hx hb dX10_value_51 rfl (lv_at hl 0 rfl) ?_
            refine lv_iload_n hx hb dX10_value_52 rfl (lv_at hl 1 rfl) ?_
            refine lv_iload_n hx hb dX10_value_53 rfl (lv_at hl 2 rfl) ?_
            refine gVv (As := [.int a1, .int a2]) (rest := []) ⟨hx, hb, hml, hown, hts⟩ (kX10_play l D Y A hI H.size S9 a1 a2 _ h) (cwV 2 hts gX10_value_X10_play rfl rfl rfl (by decide +kernel) ⟨Nat.le_of_ble_eq_true rfl, Nat.le_of_ble_eq_true rfl⟩) hK hP hS (gF_le hS.1) (aM0 Y A S9) (show vwCl[10]? = some (RX10, TX10, 54) from rfl) rfl rfl hl.1 (Nat.le_of_ble_eq_true rfl) dX10_value_54 ⟨Nat.zero_le _, Nat.zero_le _⟩ ?_
            intro S12 H locs h hP hS
            refine lv_aload_n hx hb dX10_value_57 rfl (lv_at hl 0 rfl) ?_
            refine va_get (ci := 10) (v := .long (gl S12 0)) (C := RX10) (T := TX10) (N := 54) hx hb hts k0 hown hK hP 0 (aM0 Y A S12) rfl 52 (by decide) k1 (fun _ h9 => h9) rfl dX10_value_58 ?_
            refine lv_aload_n hx hb dX10_value_61 rfl (lv_at hl 0 rfl) ?_
            refine va_get (ci := 10) (v := .long (gl S12 1)) (C := RX10) (T := TX10) (N := 54) hx hb hts k0 hown hK hP 0 (aM0 Y A S12) rfl 53 (by decide) k2 (fun _ h9 => h9) rfl dX10_value_62 ?_
            refine lv_iload_n hx hb dX10_value_65 rfl (lv_at hl 3 rfl) ?_
            refine gSl (As := [.long (gl S12 0), .long (gl S12 1), .int a3]) (rest := []) ⟨hx, hb, hml, hown, hts⟩ (kX10_side l D Y A hI H.size S12 (gl S12 0) (gl S12 1) a3 _ h) (va_cwS 3 hts gX10_value_X10_side rfl rfl rfl (by decide +kernel) ⟨Nat.le_of_ble_eq_true rfl, Nat.le_of_ble_eq_true rfl⟩) hK hP hS (gF_le hS.1) rfl rfl hl.1 (Nat.le_of_ble_eq_true rfl) dX10_value_66 ⟨Nat.zero_le _, Nat.zero_le _⟩ ?_
            intro r14 S13 H locs h hP hS
            exact hret _ _ _ _ _ _ dX10_value_69 h hP hS
          · have h := h.1 c11
            refine lv_aload_n hx hb dX10_value_44 rfl (lv_at hl 0 rfl) ?_
            refine lv_bipush (v := (-2 : Int32)) hx hb dX10_value_45 (by decide) ?_
            refine gVl (As := [.int (-2 : Int32)]) (rest := []) ⟨hx, hb, hml, hown, hts⟩ (kX10_refuseBig l D Y A hI H.size S9 (-2 : Int32) _ h) (cwV 1 hts gX10_value_X10_refuseBig rfl rfl rfl (by decide +kernel) ⟨Nat.le_of_ble_eq_true rfl, Nat.le_of_ble_eq_true rfl⟩) hK hP hS (gF_le hS.1) (aM0 Y A S9) (show vwCl[10]? = some (RX10, TX10, 54) from rfl) rfl rfl hl.1 (Nat.le_of_ble_eq_true rfl) dX10_value_47 ⟨Nat.zero_le _, Nat.zero_le _⟩ ?_
            intro r16 S15 H locs h hP hS
            exact hret _ _ _ _ _ _ dX10_value_50 h hP hS
        · have h := h.2 c8
          refine lv_aload_n hx hb dX10_value_28 rfl (lv_at hl 0 rfl) ?_
          refine lv_bipush (v := (-6 : Int32)) hx hb dX10_value_29 (by decide) ?_
          refine gVl (As := [.int (-6 : Int32)]) (rest := []) ⟨hx, hb, hml, hown, hts⟩ (kX10_refuseBig l D Y A hI H.size S (-6 : Int32) _ h) (cwV 1 hts gX10_value_X10_refuseBig rfl rfl rfl (by decide +kernel) ⟨Nat.le_of_ble_eq_true rfl, Nat.le_of_ble_eq_true rfl⟩) hK hP hS (gF_le hS.1) (aM0 Y A S) (show vwCl[10]? = some (RX10, TX10, 54) from rfl) rfl rfl hl.1 (Nat.le_of_ble_eq_true rfl) dX10_value_31 ⟨Nat.zero_le _, Nat.zero_le _⟩ ?_
          intro r18 S17 H locs h hP hS
          exact hret _ _ _ _ _ _ dX10_value_34 h hP hS
    · have h := h.2 c4
      refine lv_aload_n hx hb dX10_value_9 rfl (lv_at hl 0 rfl) ?_
      refine lv_bipush (v := (-4 : Int32)) hx hb dX10_value_10 (by decide) ?_
      refine gVl (As := [.int (-4 : Int32)]) (rest := []) ⟨hx, hb, hml, hown, hts⟩ (kX10_refuseBig l D Y A hI H.size S (-4 : Int32) _ h) (cwV 1 hts gX10_value_X10_refuseBig rfl rfl rfl (by decide +kernel) ⟨Nat.le_of_ble_eq_true rfl, Nat.le_of_ble_eq_true rfl⟩) hK hP hS (gF_le hS.1) (aM0 Y A S) (show vwCl[10]? = some (RX10, TX10, 54) from rfl) rfl rfl hl.1 (Nat.le_of_ble_eq_true rfl) dX10_value_12 ⟨Nat.zero_le _, Nat.zero_le _⟩ ?_
      intro r20 S19 H locs h hP hS
      exact hret _ _ _ _ _ _ dX10_value_15 h hP hS

def qX10_chance_J103 (a1 : Int32) (a2 : Int32) (a3 : Int32) (a4 : Int32) (Q : Int64 → gS → Prop) : Int64 × gS → Prop := fun ⟨s0, S⟩ =>
  vp_in a1 6 ∧ (qX10_side S s0 ((gl S 1) * ((ga S 1 a1.toNatClampNeg) + a3).toInt64) a4 (fun r3 S2 => Q r3 S2))
def qX10_chance (S : gS) (a1 : Int32) (a2 : Int32) (a3 : Int32) (a4 : Int32) (Q : Int64 → gS → Prop) : Prop :=
  qX10_isCove S a1 (fun r5 S4 => (r5 = 0 → (qX10_refuseBig S4 (-1 : Int32) (fun r29 S28 => Q r29 S28))) ∧ (¬ r5 = 0 → ((a2 < 0 → (qX10_refuseBig S4 (-4 : Int32) (fun r9 S8 => Q r9 S8))) ∧ (¬ a2 < 0 → (((1 : Int32) ≤ a3 → (((6 : Int32) < a2 → (qX10_refuseBig S4 (-6 : Int32) (fun r13 S12 => Q r13 S12))) ∧ (¬ (6 : Int32) < a2 → ((a3 ≤ (99 : Int32) → (qX10_in S4 a4 (0 : Int32) (1 : Int32) (fun r16 S15 => (r16 = 0 → (qX10_refuseBig S15 (-2 : Int32) (fun r23 S22 => Q r23 S22))) ∧ (¬ r16 = 0 → (qX10_play S15 a2 a3 (fun S18 => vp_in a1 6 ∧ (∀ x20 : Int64, x20 = (((ga S18 1 a1.toNatClampNeg).toInt64 * (gl S18 1)) - (gl S18 0)) → (((lg_cmp x20 (0 : Int64)) ≤ 0 → (qX10_chance_J103 a1 a2 a3 a4 Q ((0 : Int64), S18))) ∧ (¬ (lg_cmp x20 (0 : Int64)) ≤ 0 → (qX10_chance_J103 a1 a2 a3 a4 Q (x20, S18))))))))))) ∧ (¬ a3 ≤ (99 : Int32) → (qX10_refuseBig S4 (-6 : Int32) (fun r25 S24 => Q r25 S24))))))) ∧ (¬ (1 : Int32) ≤ a3 → (qX10_refuseBig S4 (-4 : Int32) (fun r27 S26 => Q r27 S26))))))))
abbrev rmX10_chance : Room := { frames := 2, cells := 0, slots := 0, locals := 55 }
set_option maxHeartbeats 4000000 in
set_option maxRecDepth 100000 in
theorem kX10_chance (l : Launch) (D : va_G) (Y : Nat → ClassId) (A : Nat → Nat) (hI : iM A) (sz : Nat) (S : gS) (a1 : Int32) (a2 : Int32) (a3 : Int32) (a4 : Int32) (Q : Int64 → gS → Prop) (h : qX10_chance S a1 a2 a3 a4 Q) : Met l yX10_chance wsX10_chance rmX10_chance (gPc [.ref (A 0), .int a1, .int a2, .int a3, .int a4] sz D vwCl (tY Y) (wM Y A S)) (va_Ql Q (fun S' t => gH D vwCl (tY Y) (wM Y A S') t) (gF A 44 sz)) 0 0 (gF A 44 sz) := by
  refine gMet_l (cc := cX10_chance) (maxL := 7) (by decide +kernel) rfl (Nat.le_of_ble_eq_true rfl) (fun p e s m args below meth c Z H locs hx hb hml hts hown hK hP hS hret ls hl => ?_)
  have hown : s.vm.findClass RX10 = some m.cls := hown
  have hl : lv_has ls 7 [(0, .ref (A 0)), (1, .int a1), (2, .int a2), (3, .int a3), (4, .int a4)] := hl
  have hD : ∀ S0 : gS, va_D (gF A 44 s.heap.size) (wM Y A S0) := fun S0 => dM hI S0 (fun k hk => gF_in hk)
  have k0 : ∀ w ∈ u_ws RX10 TX10 54, w ∈ wsX10_chance := by decide +kernel
  have k1 := hts (.fieldLink RX10 246 "CoastWatchModel" "gameBelow" "J") (by decide +kernel)
  have k2 := hts (.fieldLink RX10 17 "CoastWatchModel" "worth" "[I") (by decide +kernel)
  have k3 := hts (.fieldLink RX10 242 "CoastWatchModel" "gameAbove" "J") (by decide +kernel)
  have tJ103 : ∀ (s0 : Int64) (S : gS), qX10_chance_J103 a1 a2 a3 a4 Q (s0, S) → ∀ (H : Heap) (locs : List Loc) (ls : Array Slot), va_P D vwCl (wM Y A S) H → va_S (gF A 44 s.heap.size) s.heap H locs → lv_has ls 7 [(0, .ref (A 0)), (1, .int a1), (3, .int a3), (4, .int a4)] → W p l e rmX10_chance s m args below meth c H locs 0 0 Z (F0 m 103 ls [.long s0]) := by
    intro  s0 S h
    intro H locs ls hP hS hl
    refine lv_aload_n hx hb dX10_chance_103 rfl (lv_at hl 0 rfl) ?_
    refine va_get (ci := 10) (v := .long (gl S 1)) (C := RX10) (T := TX10) (N := 54) hx hb hts k0 hown hK hP 0 (aM0 Y A S) rfl 53 (by decide) k1 (fun _ h9 => h9) rfl dX10_chance_104 ?_
    refine lv_aload_n hx hb dX10_chance_107 rfl (lv_at hl 0 rfl) ?_
    refine va_get (ci := 10) (v := .ref (A 2)) (C := RX10) (T := TX10) (N := 54) hx hb hts k0 hown hK hP 0 (aM0 Y A S) rfl 3 (by decide) k2 (fun _ h9 => h9) rfl dX10_chance_108 ?_
    refine lv_iload_n hx hb dX10_chance_111 rfl (lv_at hl 1 rfl) ?_
    have v_1 := h.1
    have h := h.2
    refine va_iald hx hb hK hP 2 0 (aM2 Y A S) rfl v_1 dX10_chance_112 ?_
    refine lv_iload_n hx hb dX10_chance_113 rfl (lv_at hl 2 rfl) ?_
    refine lv_iadd hx hb dX10_chance_114 ?_
    refine lv_i2l hx hb dX10_chance_115 rfl ?_
    refine lv_lmul hx hb dX10_chance_116 ?_
    refine lv_iload hx hb dX10_chance_117 (lv_at hl 3 rfl) ?_
    refine gSl (As := [.long s0, .long ((gl S 1) * ((ga S 1 a1.toNatClampNeg) + a3).toInt64), .int a4]) (rest := []) ⟨hx, hb, hml, hown, hts⟩ (kX10_side l D Y A hI H.size S s0 ((gl S 1) * ((ga S 1 a1.toNatClampNeg) + a3).toInt64) a4 _ h) (va_cwS 3 hts gX10_chance_X10_side rfl rfl rfl (by decide +kernel) ⟨Nat.le_of_ble_eq_true rfl, Nat.le_of_ble_eq_true rfl⟩) hK hP hS (gF_le hS.1) rfl rfl hl.1 (Nat.le_of_ble_eq_true rfl) dX10_chance_119 ⟨Nat.zero_le _, Nat.zero_le _⟩ ?_
    intro r3 S2 H locs h hP hS
    exact hret _ _ _ _ _ _ dX10_chance_122 h hP hS
  refine lv_iload_n hx hb dX10_chance_0 rfl (lv_at hl 1 rfl) ?_
  refine gSi (As := [.int a1]) (rest := []) ⟨hx, hb, hml, hown, hts⟩ (kX10_isCove l D Y A hI H.size S a1 _ h) (va_cwS 1 hts gX10_chance_X10_isCove rfl rfl rfl (by decide +kernel) ⟨Nat.le_of_ble_eq_true rfl, Nat.le_of_ble_eq_true rfl⟩) hK hP hS (gF_le hS.1) rfl rfl hl.1 (Nat.le_of_ble_eq_true rfl) dX10_chance_1 ⟨Nat.zero_le _, Nat.zero_le _⟩ ?_
  intro r5 S4 H locs h hP hS
  refine lv_if_ne (tgt := 13) hx hb dX10_chance_4 (by decide) (fun c6 => ?_) (fun c6 => ?_)
  · have h := h.2 c6
    refine lv_iload_n hx hb dX10_chance_13 rfl (lv_at hl 2 rfl) ?_
    refine lv_if_lt (tgt := 22) hx hb dX10_chance_14 (by decide) (fun c7 => ?_) (fun c7 => ?_)
    · have h := h.1 c7
      refine lv_aload_n hx hb dX10_chance_22 rfl (lv_at hl 0 rfl) ?_
      refine lv_bipush (v := (-4 : Int32)) hx hb dX10_chance_23 (by decide) ?_
      refine gVl (As := [.int (-4 : Int32)]) (rest := []) ⟨hx, hb, hml, hown, hts⟩ (kX10_refuseBig l D Y A hI H.size S4 (-4 : Int32) _ h) (cwV 1 hts gX10_chance_X10_refuseBig rfl rfl rfl (by decide +kernel) ⟨Nat.le_of_ble_eq_true rfl, Nat.le_of_ble_eq_true rfl⟩) hK hP hS (gF_le hS.1) (aM0 Y A S4) (show vwCl[10]? = some (RX10, TX10, 54) from rfl) rfl rfl hl.1 (Nat.le_of_ble_eq_true rfl) dX10_chance_25 ⟨Nat.zero_le _, Nat.zero_le _⟩ ?_
      intro r9 S8 H locs h hP hS
      exact hret _ _ _ _ _ _ dX10_chance_28 h hP hS
    · have h := h.2 c7
      refine lv_iload_n hx hb dX10_chance_17 rfl (lv_at hl 3 rfl) ?_
      refine lv_iconst (v := (1 : Int32)) hx hb dX10_chance_18 (by decide) ?_
      refine lv_icmp_ge (tgt := 29) hx hb dX10_chance_19 (by decide) (fun c10 => ?_) (fun c10 => ?_)
      · have h := h.1 c10
        refine lv_iload_n hx hb dX10_chance_29 rfl (lv_at hl 2 rfl) ?_
        refine lv_bipush (v := (6 : Int32)) hx hb dX10_chance_30 (by decide) ?_
        refine lv_icmp_gt (tgt := 41) hx hb dX10_chance_32 (by decide) (fun c11 => ?_) (fun c11 => ?_)
        · have h := h.1 c11
          refine lv_aload_n hx hb dX10_chance_41 rfl (lv_at hl 0 rfl) ?_
          refine lv_bipush (v := (-6 : Int32)) hx hb dX10_chance_42 (by decide) ?_
          refine gVl (As := [.int (-6 : Int32)]) (rest := []) ⟨hx, hb, hml, hown, hts⟩ (kX10_refuseBig l D Y A hI H.size S4 (-6 : Int32) _ h) (cwV 1 hts gX10_chance_X10_refuseBig rfl rfl rfl (by decide +kernel) ⟨Nat.le_of_ble_eq_true rfl, Nat.le_of_ble_eq_true rfl⟩) hK hP hS (gF_le hS.1) (aM0 Y A S4) (show vwCl[10]? = some (RX10, TX10, 54) from rfl) rfl rfl hl.1 (Nat.le_of_ble_eq_true rfl) dX10_chance_44 ⟨Nat.zero_le _, Nat.zero_le _⟩ ?_
          intro r13 S12 H locs h hP hS
          exact hret _ _ _ _ _ _ dX10_chance_47 h hP hS
        · have h := h.2 c11
          refine lv_iload_n hx hb dX10_chance_35 rfl (lv_at hl 3 rfl) ?_
          refine lv_bipush (v := (99 : Int32)) hx hb dX10_chance_36 (by decide) ?_
          refine lv_icmp_le (tgt := 48) hx hb dX10_chance_38 (by decide) (fun c14 => ?_) (fun c14 => ?_)
          · have h := h.1 c14
            refine lv_iload hx hb dX10_chance_48 (lv_at hl 4 rfl) ?_
            refine lv_iconst (v := (0 : Int32)) hx hb dX10_chance_50 (by decide) ?_
            refine lv_iconst (v := (1 : Int32)) hx hb dX10_chance_51 (by decide) ?_
            refine gSi (As := [.int a4, .int (0 : Int32), .int (1 : Int32)]) (rest := []) ⟨hx, hb, hml, hown, hts⟩ (kX10_in l D Y A hI H.size S4 a4 (0 : Int32) (1 : Int32) _ h) (va_cwS 3 hts gX10_chance_X10_in rfl rfl rfl (by decide +kernel) ⟨Nat.le_of_ble_eq_true rfl, Nat.le_of_ble_eq_true rfl⟩) hK hP hS (gF_le hS.1) rfl rfl hl.1 (Nat.le_of_ble_eq_true rfl) dX10_chance_52 ⟨Nat.zero_le _, Nat.zero_le _⟩ ?_
            intro r16 S15 H locs h hP hS
            refine lv_if_ne (tgt := 65) hx hb dX10_chance_55 (by decide) (fun c17 => ?_) (fun c17 => ?_)
            · have h := h.2 c17
              refine lv_aload_n hx hb dX10_chance_65 rfl (lv_at hl 0 rfl) ?_
              refine lv_iload_n hx hb dX10_chance_66 rfl (lv_at hl 2 rfl) ?_
              refine lv_iload_n hx hb dX10_chance_67 rfl (lv_at hl 3 rfl) ?_
              refine gVv (As := [.int a2, .int a3]) (rest := []) ⟨hx, hb, hml, hown, hts⟩ (kX10_play l D Y A hI H.size S15 a2 a3 _ h) (cwV 2 hts gX10_chance_X10_play rfl rfl rfl (by decide +kernel) ⟨Nat.le_of_ble_eq_true rfl, Nat.le_of_ble_eq_true rfl⟩) hK hP hS (gF_le hS.1) (aM0 Y A S15) (show vwCl[10]? = some (RX10, TX10, 54) from rfl) rfl rfl hl.1 (Nat.le_of_ble_eq_true rfl) dX10_chance_68 ⟨Nat.zero_le _, Nat.zero_le _⟩ ?_
              intro S18 H locs h hP hS
              refine lv_aload_n hx hb dX10_chance_71 rfl (lv_at hl 0 rfl) ?_
              refine va_get (ci := 10) (v := .ref (A 2)) (C := RX10) (T := TX10) (N := 54) hx hb hts k0 hown hK hP 0 (aM0 Y A S18) rfl 3 (by decide) k2 (fun _ h9 => h9) rfl dX10_chance_72 ?_
              refine lv_iload_n hx hb dX10_chance_75 rfl (lv_at hl 1 rfl) ?_
              have v_19 := h.1
              have h := h.2
              refine va_iald hx hb hK hP 2 0 (aM2 Y A S18) rfl v_19 dX10_chance_76 ?_
              refine lv_i2l hx hb dX10_chance_77 rfl ?_
              refine lv_aload_n hx hb dX10_chance_78 rfl (lv_at hl 0 rfl) ?_
              refine va_get (ci := 10) (v := .long (gl S18 1)) (C := RX10) (T := TX10) (N := 54) hx hb hts k0 hown hK hP 0 (aM0 Y A S18) rfl 53 (by decide) k1 (fun _ h9 => h9) rfl dX10_chance_79 ?_
              refine lv_lmul hx hb dX10_chance_82 ?_
              refine lv_aload_n hx hb dX10_chance_83 rfl (lv_at hl 0 rfl) ?_
              refine va_get (ci := 10) (v := .long (gl S18 0)) (C := RX10) (T := TX10) (N := 54) hx hb hts k0 hown hK hP 0 (aM0 Y A S18) rfl 52 (by decide) k3 (fun _ h9 => h9) rfl dX10_chance_84 ?_
              refine lv_lsub hx hb dX10_chance_87 ?_
              refine lv_topl (fun x20 ex20 => ?_)
              have h := h x20 ex20
              refine lv_lstore (lv' := [(5, .long x20), (0, .ref (A 0)), (1, .int a1), (2, .int a2), (3, .int a3), (4, .int a4)]) hx hb dX10_chance_88 hl (by decide) rfl (fun ls hl => ?_)
              refine lv_lload hx hb dX10_chance_90 (lv_at hl 0 rfl) ?_
              refine lv_lconst (v := (0 : Int64)) hx hb dX10_chance_92 (by decide) ?_
              refine W.lcmp hx hb dX10_chance_93 ?_
              refine lv_if_le (tgt := 102) hx hb dX10_chance_94 (by decide) (fun c21 => ?_) (fun c21 => ?_)
              · have h := h.1 c21
                refine lv_lconst (v := (0 : Int64)) hx hb dX10_chance_102 (by decide) ?_
                exact tJ103  (0 : Int64) S18 h _ _ _ hP hS (lv_sub hl [1, 2, 4, 5] rfl)
              · have h := h.2 c21
                refine lv_lload hx hb dX10_chance_97 (lv_at hl 0 rfl) ?_
                refine lv_goto (tgt := 103) hx hb dX10_chance_99 (by decide) ?_
                exact tJ103  x20 S18 h _ _ _ hP hS (lv_sub hl [1, 2, 4, 5] rfl)
            · have h := h.1 c17
              refine lv_aload_n hx hb dX10_chance_58 rfl (lv_at hl 0 rfl) ?_
              refine lv_bipush (v := (-2 : Int32)) hx hb dX10_chance_59 (by decide) ?_
              refine gVl (As := [.int (-2 : Int32)]) (rest := []) ⟨hx, hb, hml, hown, hts⟩ (kX10_refuseBig l D Y A hI H.size S15 (-2 : Int32) _ h) (cwV 1 hts gX10_chance_X10_refuseBig rfl rfl rfl (by decide +kernel) ⟨Nat.le_of_ble_eq_true rfl, Nat.le_of_ble_eq_true rfl⟩) hK hP hS (gF_le hS.1) (aM0 Y A S15) (show vwCl[10]? = some (RX10, TX10, 54) from rfl) rfl rfl hl.1 (Nat.le_of_ble_eq_true rfl) dX10_chance_61 ⟨Nat.zero_le _, Nat.zero_le _⟩ ?_
              intro r23 S22 H locs h hP hS
              exact hret _ _ _ _ _ _ dX10_chance_64 h hP hS
          · have h := h.2 c14
            refine lv_aload_n hx hb dX10_chance_41 rfl (lv_at hl 0 rfl) ?_
            refine lv_bipush (v := (-6 : Int32)) hx hb dX10_chance_42 (by decide) ?_
            refine gVl (As := [.int (-6 : Int32)]) (rest := []) ⟨hx, hb, hml, hown, hts⟩ (kX10_refuseBig l D Y A hI H.size S4 (-6 : Int32) _ h) (cwV 1 hts gX10_chance_X10_refuseBig rfl rfl rfl (by decide +kernel) ⟨Nat.le_of_ble_eq_true rfl, Nat.le_of_ble_eq_true rfl⟩) hK hP hS (gF_le hS.1) (aM0 Y A S4) (show vwCl[10]? = some (RX10, TX10, 54) from rfl) rfl rfl hl.1 (Nat.le_of_ble_eq_true rfl) dX10_chance_44 ⟨Nat.zero_le _, Nat.zero_le _⟩ ?_
            intro r25 S24 H locs h hP hS
            exact hret _ _ _ _ _ _ dX10_chance_47 h hP hS
      · have h := h.2 c10
        refine lv_aload_n hx hb dX10_chance_22 rfl (lv_at hl 0 rfl) ?_
        refine lv_bipush (v := (-4 : Int32)) hx hb dX10_chance_23 (by decide) ?_
        refine gVl (As := [.int (-4 : Int32)]) (rest := []) ⟨hx, hb, hml, hown, hts⟩ (kX10_refuseBig l D Y A hI H.size S4 (-4 : Int32) _ h) (cwV 1 hts gX10_chance_X10_refuseBig rfl rfl rfl (by decide +kernel) ⟨Nat.le_of_ble_eq_true rfl, Nat.le_of_ble_eq_true rfl⟩) hK hP hS (gF_le hS.1) (aM0 Y A S4) (show vwCl[10]? = some (RX10, TX10, 54) from rfl) rfl rfl hl.1 (Nat.le_of_ble_eq_true rfl) dX10_chance_25 ⟨Nat.zero_le _, Nat.zero_le _⟩ ?_
        intro r27 S26 H locs h hP hS
        exact hret _ _ _ _ _ _ dX10_chance_28 h hP hS
  · have h := h.1 c6
    refine lv_aload_n hx hb dX10_chance_7 rfl (lv_at hl 0 rfl) ?_
    refine lv_iconst (v := (-1 : Int32)) hx hb dX10_chance_8 (by decide) ?_
    refine gVl (As := [.int (-1 : Int32)]) (rest := []) ⟨hx, hb, hml, hown, hts⟩ (kX10_refuseBig l D Y A hI H.size S4 (-1 : Int32) _ h) (cwV 1 hts gX10_chance_X10_refuseBig rfl rfl rfl (by decide +kernel) ⟨Nat.le_of_ble_eq_true rfl, Nat.le_of_ble_eq_true rfl⟩) hK hP hS (gF_le hS.1) (aM0 Y A S4) (show vwCl[10]? = some (RX10, TX10, 54) from rfl) rfl rfl hl.1 (Nat.le_of_ble_eq_true rfl) dX10_chance_9 ⟨Nat.zero_le _, Nat.zero_le _⟩ ?_
    intro r29 S28 H locs h hP hS
    exact hret _ _ _ _ _ _ dX10_chance_12 h hP hS

def qX10_used (S : gS) (a1 : Int32) (a2 : Int32) (a3 : Int32) (a4 : Int32) (Q : Int32 → gS → Prop) : Prop :=
  qX10_in S a1 (0 : Int32) (33 : Int32) (fun r2 S1 => (r2 = 0 → (qX10_refuse S1 (-1 : Int32) (fun r30 S29 => Q r30 S29))) ∧ (¬ r2 = 0 → ((a2 < 0 → (qX10_refuse S1 (-4 : Int32) (fun r6 S5 => Q r6 S5))) ∧ (¬ a2 < 0 → ((a3 < 0 → (qX10_refuse S1 (-4 : Int32) (fun r9 S8 => Q r9 S8))) ∧ (¬ a3 < 0 → ((0 ≤ a4 → (((100000 : Int32) < a2 → (qX10_refuse S1 (-6 : Int32) (fun r13 S12 => Q r13 S12))) ∧ (¬ (100000 : Int32) < a2 → (((100000 : Int32) < a3 → (qX10_refuse S1 (-6 : Int32) (fun r16 S15 => Q r16 S15))) ∧ (¬ (100000 : Int32) < a3 → ((a4 ≤ (100000 : Int32) → ((a2 ≤ a3 → (vp_in a1 34 ∧ (∀ S19 : gS, S19 = sA S1 36 (upd (ga S1 36) a1.toNatClampNeg a2) → (∀ S21 : gS, S21 = sA S19 37 (upd (ga S19 37) a1.toNatClampNeg a3) → (∀ S22 : gS, S22 = sA S21 38 (upd (ga S21 38) a1.toNatClampNeg a4) → (Q (1 : Int32) S22)))))) ∧ (¬ a2 ≤ a3 → (qX10_refuse S1 (-3 : Int32) (fun r24 S23 => Q r24 S23))))) ∧ (¬ a4 ≤ (100000 : Int32) → (qX10_refuse S1 (-6 : Int32) (fun r26 S25 => Q r26 S25))))))))) ∧ (¬ 0 ≤ a4 → (qX10_refuse S1 (-4 : Int32) (fun r28 S27 => Q r28 S27))))))))))
abbrev rmX10_used : Room := { frames := 1, cells := 0, slots := 0, locals := 22 }
set_option maxHeartbeats 4000000 in
set_option maxRecDepth 100000 in
theorem kX10_used (l : Launch) (D : va_G) (Y : Nat → ClassId) (A : Nat → Nat) (hI : iM A) (sz : Nat) (S : gS) (a1 : Int32) (a2 : Int32) (a3 : Int32) (a4 : Int32) (Q : Int32 → gS → Prop) (h : qX10_used S a1 a2 a3 a4 Q) : Met l yX10_used wsX10_used rmX10_used (gPc [.ref (A 0), .int a1, .int a2, .int a3, .int a4] sz D vwCl (tY Y) (wM Y A S)) (va_Qi Q (fun S' t => gH D vwCl (tY Y) (wM Y A S') t) (gF A 44 sz)) 0 0 (gF A 44 sz) := by
  refine gMet_i (cc := cX10_used) (maxL := 5) (by decide +kernel) rfl (Nat.le_of_ble_eq_true rfl) (fun p e s m args below meth c Z H locs hx hb hml hts hown hK hP hS hret ls hl => ?_)
  have hown : s.vm.findClass RX10 = some m.cls := hown
  have hl : lv_has ls 5 [(0, .ref (A 0)), (1, .int a1), (2, .int a2), (3, .int a3), (4, .int a4)] := hl
  have hD : ∀ S0 : gS, va_D (gF A 44 s.heap.size) (wM Y A S0) := fun S0 => dM hI S0 (fun k hk => gF_in hk)
  have k0 := hts (.constant RX10 258 100000) (by decide +kernel)
  have k1 : ∀ w ∈ u_ws RX10 TX10 54, w ∈ wsX10_used := by decide +kernel
  have k2 := hts (.fieldLink RX10 123 "CoastWatchModel" "usedLeast" "[I") (by decide +kernel)
  have k3 := hts (.fieldLink RX10 126 "CoastWatchModel" "usedMost" "[I") (by decide +kernel)
  have k4 := hts (.fieldLink RX10 129 "CoastWatchModel" "usedLaw" "[I") (by decide +kernel)
  refine lv_iload_n hx hb dX10_used_0 rfl (lv_at hl 1 rfl) ?_
  refine lv_iconst (v := (0 : Int32)) hx hb dX10_used_1 (by decide) ?_
  refine lv_bipush (v := (33 : Int32)) hx hb dX10_used_2 (by decide) ?_
  refine gSi (As := [.int a1, .int (0 : Int32), .int (33 : Int32)]) (rest := []) ⟨hx, hb, hml, hown, hts⟩ (kX10_in l D Y A hI H.size S a1 (0 : Int32) (33 : Int32) _ h) (va_cwS 3 hts gX10_used_X10_in rfl rfl rfl (by decide +kernel) ⟨Nat.le_of_ble_eq_true rfl, Nat.le_of_ble_eq_true rfl⟩) hK hP hS (gF_le hS.1) rfl rfl hl.1 (Nat.le_of_ble_eq_true rfl) dX10_used_4 ⟨Nat.zero_le _, Nat.zero_le _⟩ ?_
  intro r2 S1 H locs h hP hS
  refine lv_if_ne (tgt := 16) hx hb dX10_used_7 (by decide) (fun c3 => ?_) (fun c3 => ?_)
  · have h := h.2 c3
    refine lv_iload_n hx hb dX10_used_16 rfl (lv_at hl 2 rfl) ?_
    refine lv_if_lt (tgt := 29) hx hb dX10_used_17 (by decide) (fun c4 => ?_) (fun c4 => ?_)
    · have h := h.1 c4
      refine lv_aload_n hx hb dX10_used_29 rfl (lv_at hl 0 rfl) ?_
      refine lv_bipush (v := (-4 : Int32)) hx hb dX10_used_30 (by decide) ?_
      refine gVi (As := [.int (-4 : Int32)]) (rest := []) ⟨hx, hb, hml, hown, hts⟩ (kX10_refuse l D Y A hI H.size S1 (-4 : Int32) _ h) (cwV 1 hts gX10_used_X10_refuse rfl rfl rfl (by decide +kernel) ⟨Nat.le_of_ble_eq_true rfl, Nat.le_of_ble_eq_true rfl⟩) hK hP hS (gF_le hS.1) (aM0 Y A S1) (show vwCl[10]? = some (RX10, TX10, 54) from rfl) rfl rfl hl.1 (Nat.le_of_ble_eq_true rfl) dX10_used_32 ⟨Nat.zero_le _, Nat.zero_le _⟩ ?_
      intro r6 S5 H locs h hP hS
      exact hret _ _ _ _ _ _ dX10_used_35 h hP hS
    · have h := h.2 c4
      refine lv_iload_n hx hb dX10_used_20 rfl (lv_at hl 3 rfl) ?_
      refine lv_if_lt (tgt := 29) hx hb dX10_used_21 (by decide) (fun c7 => ?_) (fun c7 => ?_)
      · have h := h.1 c7
        refine lv_aload_n hx hb dX10_used_29 rfl (lv_at hl 0 rfl) ?_
        refine lv_bipush (v := (-4 : Int32)) hx hb dX10_used_30 (by decide) ?_
        refine gVi (As := [.int (-4 : Int32)]) (rest := []) ⟨hx, hb, hml, hown, hts⟩ (kX10_refuse l D Y A hI H.size S1 (-4 : Int32) _ h) (cwV 1 hts gX10_used_X10_refuse rfl rfl rfl (by decide +kernel) ⟨Nat.le_of_ble_eq_true rfl, Nat.le_of_ble_eq_true rfl⟩) hK hP hS (gF_le hS.1) (aM0 Y A S1) (show vwCl[10]? = some (RX10, TX10, 54) from rfl) rfl rfl hl.1 (Nat.le_of_ble_eq_true rfl) dX10_used_32 ⟨Nat.zero_le _, Nat.zero_le _⟩ ?_
        intro r9 S8 H locs h hP hS
        exact hret _ _ _ _ _ _ dX10_used_35 h hP hS
      · have h := h.2 c7
        refine lv_iload hx hb dX10_used_24 (lv_at hl 4 rfl) ?_
        refine lv_if_ge (tgt := 36) hx hb dX10_used_26 (by decide) (fun c10 => ?_) (fun c10 => ?_)
        · have h := h.1 c10
          refine lv_iload_n hx hb dX10_used_36 rfl (lv_at hl 2 rfl) ?_
          refine lv_ldcw (v := (100000 : Int32)) hx hb hown k0 dX10_used_37 ?_
          refine lv_icmp_gt (tgt := 58) hx hb dX10_used_40 (by decide) (fun c11 => ?_) (fun c11 => ?_)
          · have h := h.1 c11
            refine lv_aload_n hx hb dX10_used_58 rfl (lv_at hl 0 rfl) ?_
            refine lv_bipush (v := (-6 : Int32)) hx hb dX10_used_59 (by decide) ?_
            refine gVi (As := [.int (-6 : Int32)]) (rest := []) ⟨hx, hb, hml, hown, hts⟩ (kX10_refuse l D Y A hI H.size S1 (-6 : Int32) _ h) (cwV 1 hts gX10_used_X10_refuse rfl rfl rfl (by decide +kernel) ⟨Nat.le_of_ble_eq_true rfl, Nat.le_of_ble_eq_true rfl⟩) hK hP hS (gF_le hS.1) (aM0 Y A S1) (show vwCl[10]? = some (RX10, TX10, 54) from rfl) rfl rfl hl.1 (Nat.le_of_ble_eq_true rfl) dX10_used_61 ⟨Nat.zero_le _, Nat.zero_le _⟩ ?_
            intro r13 S12 H locs h hP hS
            exact hret _ _ _ _ _ _ dX10_used_64 h hP hS
          · have h := h.2 c11
            refine lv_iload_n hx hb dX10_used_43 rfl (lv_at hl 3 rfl) ?_
            refine lv_ldcw (v := (100000 : Int32)) hx hb hown k0 dX10_used_44 ?_
            refine lv_icmp_gt (tgt := 58) hx hb dX10_used_47 (by decide) (fun c14 => ?_) (fun c14 => ?_)
            · have h := h.1 c14
              refine lv_aload_n hx hb dX10_used_58 rfl (lv_at hl 0 rfl) ?_
              refine lv_bipush (v := (-6 : Int32)) hx hb dX10_used_59 (by decide) ?_
              refine gVi (As := [.int (-6 : Int32)]) (rest := []) ⟨hx, hb, hml, hown, hts⟩ (kX10_refuse l D Y A hI H.size S1 (-6 : Int32) _ h) (cwV 1 hts gX10_used_X10_refuse rfl rfl rfl (by decide +kernel) ⟨Nat.le_of_ble_eq_true rfl, Nat.le_of_ble_eq_true rfl⟩) hK hP hS (gF_le hS.1) (aM0 Y A S1) (show vwCl[10]? = some (RX10, TX10, 54) from rfl) rfl rfl hl.1 (Nat.le_of_ble_eq_true rfl) dX10_used_61 ⟨Nat.zero_le _, Nat.zero_le _⟩ ?_
              intro r16 S15 H locs h hP hS
              exact hret _ _ _ _ _ _ dX10_used_64 h hP hS
            · have h := h.2 c14
              refine lv_iload hx hb dX10_used_50 (lv_at hl 4 rfl) ?_
              refine lv_ldcw (v := (100000 : Int32)) hx hb hown k0 dX10_used_52 ?_
              refine lv_icmp_le (tgt := 65) hx hb dX10_used_55 (by decide) (fun c17 => ?_) (fun c17 => ?_)
              · have h := h.1 c17
                refine lv_iload_n hx hb dX10_used_65 rfl (lv_at hl 2 rfl) ?_
                refine lv_iload_n hx hb dX10_used_66 rfl (lv_at hl 3 rfl) ?_
                refine lv_icmp_le (tgt := 77) hx hb dX10_used_67 (by decide) (fun c18 => ?_) (fun c18 => ?_)
                · have h := h.1 c18
                  refine lv_aload_n hx hb dX10_used_77 rfl (lv_at hl 0 rfl) ?_
                  refine va_get (ci := 10) (v := .ref (A 37)) (C := RX10) (T := TX10) (N := 54) hx hb hts k1 hown hK hP 0 (aM0 Y A S1) rfl 45 (by decide) k2 (fun _ h9 => h9) rfl dX10_used_78 ?_
                  refine lv_iload_n hx hb dX10_used_81 rfl (lv_at hl 1 rfl) ?_
                  refine lv_iload_n hx hb dX10_used_82 rfl (lv_at hl 2 rfl) ?_
                  have v_20 := h.1
                  have h := h.2
                  obtain ⟨S19, eS19⟩ : ∃ z : gS, z = sA S1 36 (upd (ga S1 36) a1.toNatClampNeg a2) := ⟨_, rfl⟩
                  refine va_iast hx hb hK hP (hD S1) hS 37 0 (aM37 Y A S1) rfl v_20 dX10_used_83 (fun H locs hP _ hS => ?_)
                  have hP := uM37 eS19 hP
                  have h := h S19 eS19
                  refine lv_aload_n hx hb dX10_used_84 rfl (lv_at hl 0 rfl) ?_
                  refine va_get (ci := 10) (v := .ref (A 38)) (C := RX10) (T := TX10) (N := 54) hx hb hts k1 hown hK hP 0 (aM0 Y A S19) rfl 46 (by decide) k3 (fun _ h9 => h9) rfl dX10_used_85 ?_
                  refine lv_iload_n hx hb dX10_used_88 rfl (lv_at hl 1 rfl) ?_
                  refine lv_iload_n hx hb dX10_used_89 rfl (lv_at hl 3 rfl) ?_
                  obtain ⟨S21, eS21⟩ : ∃ z : gS, z = sA S19 37 (upd (ga S19 37) a1.toNatClampNeg a3) := ⟨_, rfl⟩
                  refine va_iast hx hb hK hP (hD S19) hS 38 0 (aM38 Y A S19) rfl v_20 dX10_used_90 (fun H locs hP _ hS => ?_)
                  have hP := uM38 eS21 hP
                  have h := h S21 eS21
                  refine lv_aload_n hx hb dX10_used_91 rfl (lv_at hl 0 rfl) ?_
                  refine va_get (ci := 10) (v := .ref (A 39)) (C := RX10) (T := TX10) (N := 54) hx hb hts k1 hown hK hP 0 (aM0 Y A S21) rfl 47 (by decide) k4 (fun _ h9 => h9) rfl dX10_used_92 ?_
                  refine lv_iload_n hx hb dX10_used_95 rfl (lv_at hl 1 rfl) ?_
                  refine lv_iload hx hb dX10_used_96 (lv_at hl 4 rfl) ?_
                  obtain ⟨S22, eS22⟩ : ∃ z : gS, z = sA S21 38 (upd (ga S21 38) a1.toNatClampNeg a4) := ⟨_, rfl⟩
                  refine va_iast hx hb hK hP (hD S21) hS 39 0 (aM39 Y A S21) rfl v_20 dX10_used_98 (fun H locs hP _ hS => ?_)
                  have hP := uM39 eS22 hP
                  have h := h S22 eS22
                  refine lv_iconst (v := (1 : Int32)) hx hb dX10_used_99 (by decide) ?_
                  exact hret _ _ _ _ _ _ dX10_used_100 h hP hS
                · have h := h.2 c18
                  refine lv_aload_n hx hb dX10_used_70 rfl (lv_at hl 0 rfl) ?_
                  refine lv_bipush (v := (-3 : Int32)) hx hb dX10_used_71 (by decide) ?_
                  refine gVi (As := [.int (-3 : Int32)]) (rest := []) ⟨hx, hb, hml, hown, hts⟩ (kX10_refuse l D Y A hI H.size S1 (-3 : Int32) _ h) (cwV 1 hts gX10_used_X10_refuse rfl rfl rfl (by decide +kernel) ⟨Nat.le_of_ble_eq_true rfl, Nat.le_of_ble_eq_true rfl⟩) hK hP hS (gF_le hS.1) (aM0 Y A S1) (show vwCl[10]? = some (RX10, TX10, 54) from rfl) rfl rfl hl.1 (Nat.le_of_ble_eq_true rfl) dX10_used_73 ⟨Nat.zero_le _, Nat.zero_le _⟩ ?_
                  intro r24 S23 H locs h hP hS
                  exact hret _ _ _ _ _ _ dX10_used_76 h hP hS
              · have h := h.2 c17
                refine lv_aload_n hx hb dX10_used_58 rfl (lv_at hl 0 rfl) ?_
                refine lv_bipush (v := (-6 : Int32)) hx hb dX10_used_59 (by decide) ?_
                refine gVi (As := [.int (-6 : Int32)]) (rest := []) ⟨hx, hb, hml, hown, hts⟩ (kX10_refuse l D Y A hI H.size S1 (-6 : Int32) _ h) (cwV 1 hts gX10_used_X10_refuse rfl rfl rfl (by decide +kernel) ⟨Nat.le_of_ble_eq_true rfl, Nat.le_of_ble_eq_true rfl⟩) hK hP hS (gF_le hS.1) (aM0 Y A S1) (show vwCl[10]? = some (RX10, TX10, 54) from rfl) rfl rfl hl.1 (Nat.le_of_ble_eq_true rfl) dX10_used_61 ⟨Nat.zero_le _, Nat.zero_le _⟩ ?_
                intro r26 S25 H locs h hP hS
                exact hret _ _ _ _ _ _ dX10_used_64 h hP hS
        · have h := h.2 c10
          refine lv_aload_n hx hb dX10_used_29 rfl (lv_at hl 0 rfl) ?_
          refine lv_bipush (v := (-4 : Int32)) hx hb dX10_used_30 (by decide) ?_
          refine gVi (As := [.int (-4 : Int32)]) (rest := []) ⟨hx, hb, hml, hown, hts⟩ (kX10_refuse l D Y A hI H.size S1 (-4 : Int32) _ h) (cwV 1 hts gX10_used_X10_refuse rfl rfl rfl (by decide +kernel) ⟨Nat.le_of_ble_eq_true rfl, Nat.le_of_ble_eq_true rfl⟩) hK hP hS (gF_le hS.1) (aM0 Y A S1) (show vwCl[10]? = some (RX10, TX10, 54) from rfl) rfl rfl hl.1 (Nat.le_of_ble_eq_true rfl) dX10_used_32 ⟨Nat.zero_le _, Nat.zero_le _⟩ ?_
          intro r28 S27 H locs h hP hS
          exact hret _ _ _ _ _ _ dX10_used_35 h hP hS
  · have h := h.1 c3
    refine lv_aload_n hx hb dX10_used_10 rfl (lv_at hl 0 rfl) ?_
    refine lv_iconst (v := (-1 : Int32)) hx hb dX10_used_11 (by decide) ?_
    refine gVi (As := [.int (-1 : Int32)]) (rest := []) ⟨hx, hb, hml, hown, hts⟩ (kX10_refuse l D Y A hI H.size S1 (-1 : Int32) _ h) (cwV 1 hts gX10_used_X10_refuse rfl rfl rfl (by decide +kernel) ⟨Nat.le_of_ble_eq_true rfl, Nat.le_of_ble_eq_true rfl⟩) hK hP hS (gF_le hS.1) (aM0 Y A S1) (show vwCl[10]? = some (RX10, TX10, 54) from rfl) rfl rfl hl.1 (Nat.le_of_ble_eq_true rfl) dX10_used_12 ⟨Nat.zero_le _, Nat.zero_le _⟩ ?_
    intro r30 S29 H locs h hP hS
    exact hret _ _ _ _ _ _ dX10_used_15 h hP hS

def qX10_casksOf_J44 (a1 : Int32) (a2 : Int32) (Q : Int32 → gS → Prop) (K5 : Int32 × Int32 × gS → Prop) : Int32 × Int32 × Int32 × gS → Prop := fun ⟨v4, s0, s1, S⟩ =>
  (s0 = a2 → (vp_in v4 100 ∧ (∀ x5 : Int32, x5 = (s1 + (ga S 18 v4.toNatClampNeg)) → (∀ x6 : Int32, x6 = v4 + (1 : Int32) → (K5 (x5, x6, S)))))) ∧ (¬ s0 = a2 → (∀ x2 : Int32, x2 = (s1 + (0 : Int32)) → (∀ x3 : Int32, x3 = v4 + (1 : Int32) → (K5 (x2, x3, S)))))
def qX10_casksOf_L5 (a1 : Int32) (a2 : Int32) (Q : Int32 → gS → Prop) (K5 : Int32 × Int32 × gS → Prop) : Int32 × Int32 × gS → Prop := fun ⟨v3, v4, S⟩ =>
  ((gi S 4) ≤ v4 → (Q v3 S)) ∧ (¬ (gi S 4) ≤ v4 → (vp_in v4 100 ∧ ((((ga S 19 v4.toNatClampNeg) / (30 : Int32)) = a1 → (((ga S 21 v4.toNatClampNeg) ≤ 0 → (qX10_casksOf_J44 a1 a2 Q K5 (v4, (0 : Int32), v3, S))) ∧ (¬ (ga S 21 v4.toNatClampNeg) ≤ 0 → (qX10_casksOf_J44 a1 a2 Q K5 (v4, (1 : Int32), v3, S))))) ∧ (¬ ((ga S 19 v4.toNatClampNeg) / (30 : Int32)) = a1 → (∀ x10 : Int32, x10 = (v3 + (0 : Int32)) → (∀ x11 : Int32, x11 = v4 + (1 : Int32) → (K5 (x10, x11, S))))))))
def qX10_casksOf (S : gS) (a1 : Int32) (a2 : Int32) (Q : Int32 → gS → Prop) : Prop :=
  lp (qX10_casksOf_L5 a1 a2 Q) ((0 : Int32), (0 : Int32), S)
abbrev rmX10_casksOf : Room := { frames := 0, cells := 0, slots := 0, locals := 0 }
set_option maxHeartbeats 4000000 in
set_option maxRecDepth 100000 in
theorem kX10_casksOf (l : Launch) (D : va_G) (Y : Nat → ClassId) (A : Nat → Nat) (hI : iM A) (sz : Nat) (S : gS) (a1 : Int32) (a2 : Int32) (Q : Int32 → gS → Prop) (h : qX10_casksOf S a1 a2 Q) : Met l yX10_casksOf wsX10_casksOf rmX10_casksOf (gPc [.ref (A 0), .int a1, .int a2] sz D vwCl (tY Y) (wM Y A S)) (va_Qi Q (fun S' t => gH D vwCl (tY Y) (wM Y A S') t) (gF A 44 sz)) 0 0 (gF A 44 sz) := by
  refine gMet_i (cc := cX10_casksOf) (maxL := 5) (by decide +kernel) rfl (Nat.le_of_ble_eq_true rfl) (fun p e s m args below meth c Z H locs hx hb hml hts hown hK hP hS hret ls hl => ?_)
  have hown : s.vm.findClass RX10 = some m.cls := hown
  have hl : lv_has ls 5 [(0, .ref (A 0)), (1, .int a1), (2, .int a2)] := hl
  have hD : ∀ S0 : gS, va_D (gF A 44 s.heap.size) (wM Y A S0) := fun S0 => dM hI S0 (fun k hk => gF_in hk)
  have k0 : ∀ w ∈ u_ws RX10 TX10 54, w ∈ wsX10_casksOf := by decide +kernel
  have k1 := hts (.fieldLink RX10 68 "CoastWatchModel" "lotCasks" "[I") (by decide +kernel)
  have k2 := hts (.fieldLink RX10 189 "CoastWatchModel" "lots" "I") (by decide +kernel)
  have k3 := hts (.fieldLink RX10 71 "CoastWatchModel" "lotNight" "[I") (by decide +kernel)
  have k4 := hts (.fieldLink RX10 77 "CoastWatchModel" "lotLies" "[I") (by decide +kernel)
  have tJ44 : ∀ (K5 : Int32 × Int32 × gS → Prop) (ih5 : ∀ (v3 : Int32) (v4 : Int32) (S : gS), K5 (v3, v4, S) → ∀ (H : Heap) (locs : List Loc) (ls : Array Slot), va_P D vwCl (wM Y A S) H → va_S (gF A 44 s.heap.size) s.heap H locs → lv_has ls 5 [(0, .ref (A 0)), (1, .int a1), (2, .int a2), (3, .int v3), (4, .int v4)] → W p l e rmX10_casksOf s m args below meth c H locs 0 0 Z (F0 m 5 ls [])) (v4 : Int32) (s0 : Int32) (s1 : Int32) (S : gS), qX10_casksOf_J44 a1 a2 Q K5 (v4, s0, s1, S) → ∀ (H : Heap) (locs : List Loc) (ls : Array Slot), va_P D vwCl (wM Y A S) H → va_S (gF A 44 s.heap.size) s.heap H locs → lv_has ls 5 [(0, .ref (A 0)), (1, .int a1), (2, .int a2), (4, .int v4)] → W p l e rmX10_casksOf s m args below meth c H locs 0 0 Z (F0 m 44 ls [.int s0, .int s1]) := by
    intro K5 ih5 v4 s0 s1 S h
    intro H locs ls hP hS hl
    refine lv_iload_n hx hb dX10_casksOf_44 rfl (lv_at hl 2 rfl) ?_
    refine lv_icmp_ne (tgt := 58) hx hb dX10_casksOf_45 (by decide) (fun c1 => ?_) (fun c1 => ?_)
    · have h := h.2 c1
      refine lv_iconst (v := (0 : Int32)) hx hb dX10_casksOf_58 (by decide) ?_
      refine lv_iadd hx hb dX10_casksOf_59 ?_
      refine lv_topi (fun x2 ex2 => ?_)
      have h := h x2 ex2
      refine lv_istore_n (lv' := [(3, .int x2), (0, .ref (A 0)), (1, .int a1), (2, .int a2), (4, .int v4)]) hx hb dX10_casksOf_60 rfl hl (by decide) rfl (fun ls hl => ?_)
      obtain ⟨x3, ex3⟩ : ∃ z : Int32, z = v4 + (1 : Int32) := ⟨_, rfl⟩
      have h := h x3 ex3
      refine lv_iinc (v := x3) (lv' := [(4, .int x3), (3, .int x2), (0, .ref (A 0)), (1, .int a1), (2, .int a2)]) hx hb dX10_casksOf_61 hl (k := 4) rfl (by rw [ex3]; rfl) (by decide) rfl (fun ls hl => ?_)
      refine lv_goto (tgt := 5) hx hb dX10_casksOf_64 (by decide) ?_
      exact ih5 x2 x3 S h _ _ _ hP hS (lv_sub hl [2, 3, 4, 1, 0] rfl)
    · have h := h.1 c1
      refine lv_aload_n hx hb dX10_casksOf_48 rfl (lv_at hl 0 rfl) ?_
      refine va_get (ci := 10) (v := .ref (A 19)) (C := RX10) (T := TX10) (N := 54) hx hb hts k0 hown hK hP 0 (aM0 Y A S) rfl 23 (by decide) k1 (fun _ h9 => h9) rfl dX10_casksOf_49 ?_
      refine lv_iload hx hb dX10_casksOf_52 (lv_at hl 3 rfl) ?_
      have v_4 := h.1
      have h := h.2
      refine va_iald hx hb hK hP 19 0 (aM19 Y A S) rfl v_4 dX10_casksOf_54 ?_
      refine lv_goto (tgt := 59) hx hb dX10_casksOf_55 (by decide) ?_
      refine lv_iadd hx hb dX10_casksOf_59 ?_
      refine lv_topi (fun x5 ex5 => ?_)
      have h := h x5 ex5
      refine lv_istore_n (lv' := [(3, .int x5), (0, .ref (A 0)), (1, .int a1), (2, .int a2), (4, .int v4)]) hx hb dX10_casksOf_60 rfl hl (by decide) rfl (fun ls hl => ?_)
      obtain ⟨x6, ex6⟩ : ∃ z : Int32, z = v4 + (1 : Int32) := ⟨_, rfl⟩
      have h := h x6 ex6
      refine lv_iinc (v := x6) (lv' := [(4, .int x6), (3, .int x5), (0, .ref (A 0)), (1, .int a1), (2, .int a2)]) hx hb dX10_casksOf_61 hl (k := 4) rfl (by rw [ex6]; rfl) (by decide) rfl (fun ls hl => ?_)
      refine lv_goto (tgt := 5) hx hb dX10_casksOf_64 (by decide) ?_
      exact ih5 x5 x6 S h _ _ _ hP hS (lv_sub hl [2, 3, 4, 1, 0] rfl)
  have tL5 : ∀ (v3 : Int32) (v4 : Int32) (S : gS), lp (qX10_casksOf_L5 a1 a2 Q) (v3, v4, S) → ∀ (H : Heap) (locs : List Loc) (ls : Array Slot), va_P D vwCl (wM Y A S) H → va_S (gF A 44 s.heap.size) s.heap H locs → lv_has ls 5 [(0, .ref (A 0)), (1, .int a1), (2, .int a2), (3, .int v3), (4, .int v4)] → W p l e rmX10_casksOf s m args below meth c H locs 0 0 Z (F0 m 5 ls []) := by
    intro  v3 v4 S h
    refine lp_walk (G := fun a => match a with | (v3, v4, S) => ∀ (H : Heap) (locs : List Loc) (ls : Array Slot), va_P D vwCl (wM Y A S) H → va_S (gF A 44 s.heap.size) s.heap H locs → lv_has ls 5 [(0, .ref (A 0)), (1, .int a1), (2, .int a2), (3, .int v3), (4, .int v4)] → W p l e rmX10_casksOf s m args below meth c H locs 0 0 Z (F0 m 5 ls [])) (fun K5 a ih5 h => ?_) (v3, v4, S) h
    obtain ⟨v3, v4, S⟩ := a
    have ih5 : ∀ (v3 : Int32) (v4 : Int32) (S : gS), K5 (v3, v4, S) → ∀ (H : Heap) (locs : List Loc) (ls : Array Slot), va_P D vwCl (wM Y A S) H → va_S (gF A 44 s.heap.size) s.heap H locs → lv_has ls 5 [(0, .ref (A 0)), (1, .int a1), (2, .int a2), (3, .int v3), (4, .int v4)] → W p l e rmX10_casksOf s m args below meth c H locs 0 0 Z (F0 m 5 ls []) := fun v3 v4 S q => ih5 (v3, v4, S) q
    intro H locs ls hP hS hl
    refine lv_iload hx hb dX10_casksOf_5 (lv_at hl 4 rfl) ?_
    refine lv_aload_n hx hb dX10_casksOf_7 rfl (lv_at hl 0 rfl) ?_
    refine va_get (ci := 10) (v := .int (gi S 4)) (C := RX10) (T := TX10) (N := 54) hx hb hts k0 hown hK hP 0 (aM0 Y A S) rfl 21 (by decide) k2 (fun _ h9 => h9) rfl dX10_casksOf_8 ?_
    refine lv_icmp_ge (tgt := 67) hx hb dX10_casksOf_11 (by decide) (fun c7 => ?_) (fun c7 => ?_)
    · have h := h.1 c7
      refine lv_iload_n hx hb dX10_casksOf_67 rfl (lv_at hl 3 rfl) ?_
      exact hret _ _ _ _ _ _ dX10_casksOf_68 h hP hS
    · have h := h.2 c7
      refine lv_iload_n hx hb dX10_casksOf_14 rfl (lv_at hl 3 rfl) ?_
      refine lv_aload_n hx hb dX10_casksOf_15 rfl (lv_at hl 0 rfl) ?_
      refine va_get (ci := 10) (v := .ref (A 20)) (C := RX10) (T := TX10) (N := 54) hx hb hts k0 hown hK hP 0 (aM0 Y A S) rfl 24 (by decide) k3 (fun _ h9 => h9) rfl dX10_casksOf_16 ?_
      refine lv_iload hx hb dX10_casksOf_19 (lv_at hl 4 rfl) ?_
      have v_8 := h.1
      have h := h.2
      refine va_iald hx hb hK hP 20 0 (aM20 Y A S) rfl v_8 dX10_casksOf_21 ?_
      refine lv_bipush (v := (30 : Int32)) hx hb dX10_casksOf_22 (by decide) ?_
      refine lv_idiv hx hb dX10_casksOf_24 (by decide) ?_
      refine lv_iload_n hx hb dX10_casksOf_25 rfl (lv_at hl 1 rfl) ?_
      refine lv_icmp_ne (tgt := 58) hx hb dX10_casksOf_26 (by decide) (fun c9 => ?_) (fun c9 => ?_)
      · have h := h.2 c9
        refine lv_iconst (v := (0 : Int32)) hx hb dX10_casksOf_58 (by decide) ?_
        refine lv_iadd hx hb dX10_casksOf_59 ?_
        refine lv_topi (fun x10 ex10 => ?_)
        have h := h x10 ex10
        refine lv_istore_n (lv' := [(3, .int x10), (0, .ref (A 0)), (1, .int a1), (2, .int a2), (4, .int v4)]) hx hb dX10_casksOf_60 rfl hl (by decide) rfl (fun ls hl => ?_)
        obtain ⟨x11, ex11⟩ : ∃ z : Int32, z = v4 + (1 : Int32) := ⟨_, rfl⟩
        have h := h x11 ex11
        refine lv_iinc (v := x11) (lv' := [(4, .int x11), (3, .int x10), (0, .ref (A 0)), (1, .int a1), (2, .int a2)]) hx hb dX10_casksOf_61 hl (k := 4) rfl (by rw [ex11]; rfl) (by decide) rfl (fun ls hl => ?_)
        refine lv_goto (tgt := 5) hx hb dX10_casksOf_64 (by decide) ?_
        exact ih5 x10 x11 S h _ _ _ hP hS (lv_sub hl [2, 3, 4, 1, 0] rfl)
      · have h := h.1 c9
        refine lv_aload_n hx hb dX10_casksOf_29 rfl (lv_at hl 0 rfl) ?_
        refine va_get (ci := 10) (v := .ref (A 22)) (C := RX10) (T := TX10) (N := 54) hx hb hts k0 hown hK hP 0 (aM0 Y A S) rfl 26 (by decide) k4 (fun _ h9 => h9) rfl dX10_casksOf_30 ?_
        refine lv_iload hx hb dX10_casksOf_33 (lv_at hl 4 rfl) ?_
        refine va_iald hx hb hK hP 22 0 (aM22 Y A S) rfl v_8 dX10_casksOf_35 ?_
        refine lv_if_le (tgt := 43) hx hb dX10_casksOf_36 (by decide) (fun c12 => ?_) (fun c12 => ?_)
        · have h := h.1 c12
          refine lv_iconst (v := (0 : Int32)) hx hb dX10_casksOf_43 (by decide) ?_
          exact tJ44 K5 ih5 v4 (0 : Int32) v3 S h _ _ _ hP hS (lv_sub hl [0, 1, 2, 4] rfl)
        · have h := h.2 c12
          refine lv_iconst (v := (1 : Int32)) hx hb dX10_casksOf_39 (by decide) ?_
          refine lv_goto (tgt := 44) hx hb dX10_casksOf_40 (by decide) ?_
          exact tJ44 K5 ih5 v4 (1 : Int32) v3 S h _ _ _ hP hS (lv_sub hl [0, 1, 2, 4] rfl)
  refine lv_iconst (v := (0 : Int32)) hx hb dX10_casksOf_0 (by decide) ?_
  refine lv_istore_n (lv' := [(3, .int (0 : Int32)), (0, .ref (A 0)), (1, .int a1), (2, .int a2)]) hx hb dX10_casksOf_1 rfl hl (by decide) rfl (fun ls hl => ?_)
  refine lv_iconst (v := (0 : Int32)) hx hb dX10_casksOf_2 (by decide) ?_
  refine lv_istore (lv' := [(4, .int (0 : Int32)), (3, .int (0 : Int32)), (0, .ref (A 0)), (1, .int a1), (2, .int a2)]) hx hb dX10_casksOf_3 hl (by decide) rfl (fun ls hl => ?_)
  exact tL5  (0 : Int32) (0 : Int32) S h _ _ _ hP hS (lv_sub hl [2, 3, 4, 1, 0] rfl)

def qX10_landed_J72 (a1 : Int32) (a2 : Int32) (Q : Int32 → gS → Prop) : Int32 × gS → Prop := fun ⟨s0, S⟩ =>
  vp_in a1 34 ∧ (qX10_casksOf S a1 (1 : Int32) (fun r3 S2 => ∀ x4 : Int32, x4 = ((s0 - (ga S 38 a1.toNatClampNeg)) - r3) → ((x4 ≤ 0 → (Q (0 : Int32) S2)) ∧ (¬ x4 ≤ 0 → (Q x4 S2)))))
def qX10_landed (S : gS) (a1 : Int32) (a2 : Int32) (Q : Int32 → gS → Prop) : Prop :=
  qX10_in S a1 (0 : Int32) (33 : Int32) (fun r7 S6 => (r7 = 0 → (qX10_refuse S6 (-1 : Int32) (fun r24 S23 => Q r24 S23))) ∧ (¬ r7 = 0 → (qX10_in S6 a2 (0 : Int32) (3 : Int32) (fun r10 S9 => (r10 = 0 → (qX10_refuse S9 (-2 : Int32) (fun r22 S21 => Q r22 S21))) ∧ (¬ r10 = 0 → ((a2 ≤ (1 : Int32) → ((a2 = 0 → (vp_in a1 34 ∧ (qX10_landed_J72 a1 a2 Q ((ga S9 36 a1.toNatClampNeg), S9)))) ∧ (¬ a2 = 0 → (vp_in a1 34 ∧ (qX10_landed_J72 a1 a2 Q ((ga S9 37 a1.toNatClampNeg), S9)))))) ∧ (¬ a2 ≤ (1 : Int32) → ((a2 = (3 : Int32) → (qX10_casksOf S9 a1 (1 : Int32) (fun r20 S19 => Q r20 S19))) ∧ (¬ a2 = (3 : Int32) → (qX10_casksOf S9 a1 (0 : Int32) (fun r18 S17 => Q r18 S17)))))))))))
abbrev rmX10_landed : Room := { frames := 1, cells := 0, slots := 0, locals := 24 }
set_option maxHeartbeats 4000000 in
set_option maxRecDepth 100000 in
theorem kX10_landed (l : Launch) (D : va_G) (Y : Nat → ClassId) (A : Nat → Nat) (hI : iM A) (sz : Nat) (S : gS) (a1 : Int32) (a2 : Int32) (Q : Int32 → gS → Prop) (h : qX10_landed S a1 a2 Q) : Met l yX10_landed wsX10_landed rmX10_landed (gPc [.ref (A 0), .int a1, .int a2] sz D vwCl (tY Y) (wM Y A S)) (va_Qi Q (fun S' t => gH D vwCl (tY Y) (wM Y A S') t) (gF A 44 sz)) 0 0 (gF A 44 sz) := by
  refine gMet_i (cc := cX10_landed) (maxL := 4) (by decide +kernel) rfl (Nat.le_of_ble_eq_true rfl) (fun p e s m args below meth c Z H locs hx hb hml hts hown hK hP hS hret ls hl => ?_)
  have hown : s.vm.findClass RX10 = some m.cls := hown
  have hl : lv_has ls 4 [(0, .ref (A 0)), (1, .int a1), (2, .int a2)] := hl
  have hD : ∀ S0 : gS, va_D (gF A 44 s.heap.size) (wM Y A S0) := fun S0 => dM hI S0 (fun k hk => gF_in hk)
  have k0 : ∀ w ∈ u_ws RX10 TX10 54, w ∈ wsX10_landed := by decide +kernel
  have k1 := hts (.fieldLink RX10 129 "CoastWatchModel" "usedLaw" "[I") (by decide +kernel)
  have k2 := hts (.fieldLink RX10 126 "CoastWatchModel" "usedMost" "[I") (by decide +kernel)
  have k3 := hts (.fieldLink RX10 123 "CoastWatchModel" "usedLeast" "[I") (by decide +kernel)
  have tJ72 : ∀ (s0 : Int32) (S : gS), qX10_landed_J72 a1 a2 Q (s0, S) → ∀ (H : Heap) (locs : List Loc) (ls : Array Slot), va_P D vwCl (wM Y A S) H → va_S (gF A 44 s.heap.size) s.heap H locs → lv_has ls 4 [(0, .ref (A 0)), (1, .int a1)] → W p l e rmX10_landed s m args below meth c H locs 0 0 Z (F0 m 72 ls [.int s0]) := by
    intro  s0 S h
    intro H locs ls hP hS hl
    refine lv_aload_n hx hb dX10_landed_72 rfl (lv_at hl 0 rfl) ?_
    refine va_get (ci := 10) (v := .ref (A 39)) (C := RX10) (T := TX10) (N := 54) hx hb hts k0 hown hK hP 0 (aM0 Y A S) rfl 47 (by decide) k1 (fun _ h9 => h9) rfl dX10_landed_73 ?_
    refine lv_iload_n hx hb dX10_landed_76 rfl (lv_at hl 1 rfl) ?_
    have v_1 := h.1
    have h := h.2
    refine va_iald hx hb hK hP 39 0 (aM39 Y A S) rfl v_1 dX10_landed_77 ?_
    refine lv_isub hx hb dX10_landed_78 ?_
    refine lv_aload_n hx hb dX10_landed_79 rfl (lv_at hl 0 rfl) ?_
    refine lv_iload_n hx hb dX10_landed_80 rfl (lv_at hl 1 rfl) ?_
    refine lv_iconst (v := (1 : Int32)) hx hb dX10_landed_81 (by decide) ?_
    refine gVi (As := [.int a1, .int (1 : Int32)]) (rest := [.int (s0 - (ga S 38 a1.toNatClampNeg))]) ⟨hx, hb, hml, hown, hts⟩ (kX10_casksOf l D Y A hI H.size S a1 (1 : Int32) _ h) (cwV 2 hts gX10_landed_X10_casksOf rfl rfl rfl (by decide +kernel) ⟨Nat.le_of_ble_eq_true rfl, Nat.le_of_ble_eq_true rfl⟩) hK hP hS (gF_le hS.1) (aM0 Y A S) (show vwCl[10]? = some (RX10, TX10, 54) from rfl) rfl rfl hl.1 (Nat.le_of_ble_eq_true rfl) dX10_landed_82 ⟨Nat.zero_le _, Nat.zero_le _⟩ ?_
    intro r3 S2 H locs h hP hS
    refine lv_isub hx hb dX10_landed_85 ?_
    refine lv_topi (fun x4 ex4 => ?_)
    have h := h x4 ex4
    refine lv_istore_n (lv' := [(3, .int x4), (0, .ref (A 0)), (1, .int a1)]) hx hb dX10_landed_86 rfl hl (by decide) rfl (fun ls hl => ?_)
    refine lv_iload_n hx hb dX10_landed_87 rfl (lv_at hl 0 rfl) ?_
    refine lv_if_le (tgt := 95) hx hb dX10_landed_88 (by decide) (fun c5 => ?_) (fun c5 => ?_)
    · have h := h.1 c5
      refine lv_iconst (v := (0 : Int32)) hx hb dX10_landed_95 (by decide) ?_
      exact hret _ _ _ _ _ _ dX10_landed_96 h hP hS
    · have h := h.2 c5
      refine lv_iload_n hx hb dX10_landed_91 rfl (lv_at hl 0 rfl) ?_
      refine lv_goto (tgt := 96) hx hb dX10_landed_92 (by decide) ?_
      exact hret _ _ _ _ _ _ dX10_landed_96 h hP hS
  refine lv_iload_n hx hb dX10_landed_0 rfl (lv_at hl 1 rfl) ?_
  refine lv_iconst (v := (0 : Int32)) hx hb dX10_landed_1 (by decide) ?_
  refine lv_bipush (v := (33 : Int32)) hx hb dX10_landed_2 (by decide) ?_
  refine gSi (As := [.int a1, .int (0 : Int32), .int (33 : Int32)]) (rest := []) ⟨hx, hb, hml, hown, hts⟩ (kX10_in l D Y A hI H.size S a1 (0 : Int32) (33 : Int32) _ h) (va_cwS 3 hts gX10_landed_X10_in rfl rfl rfl (by decide +kernel) ⟨Nat.le_of_ble_eq_true rfl, Nat.le_of_ble_eq_true rfl⟩) hK hP hS (gF_le hS.1) rfl rfl hl.1 (Nat.le_of_ble_eq_true rfl) dX10_landed_4 ⟨Nat.zero_le _, Nat.zero_le _⟩ ?_
  intro r7 S6 H locs h hP hS
  refine lv_if_ne (tgt := 16) hx hb dX10_landed_7 (by decide) (fun c8 => ?_) (fun c8 => ?_)
  · have h := h.2 c8
    refine lv_iload_n hx hb dX10_landed_16 rfl (lv_at hl 2 rfl) ?_
    refine lv_iconst (v := (0 : Int32)) hx hb dX10_landed_17 (by decide) ?_
    refine lv_iconst (v := (3 : Int32)) hx hb dX10_landed_18 (by decide) ?_
    refine gSi (As := [.int a2, .int (0 : Int32), .int (3 : Int32)]) (rest := []) ⟨hx, hb, hml, hown, hts⟩ (kX10_in l D Y A hI H.size S6 a2 (0 : Int32) (3 : Int32) _ h) (va_cwS 3 hts gX10_landed_X10_in rfl rfl rfl (by decide +kernel) ⟨Nat.le_of_ble_eq_true rfl, Nat.le_of_ble_eq_true rfl⟩) hK hP hS (gF_le hS.1) rfl rfl hl.1 (Nat.le_of_ble_eq_true rfl) dX10_landed_19 ⟨Nat.zero_le _, Nat.zero_le _⟩ ?_
    intro r10 S9 H locs h hP hS
    refine lv_if_ne (tgt := 32) hx hb dX10_landed_22 (by decide) (fun c11 => ?_) (fun c11 => ?_)
    · have h := h.2 c11
      refine lv_iload_n hx hb dX10_landed_32 rfl (lv_at hl 2 rfl) ?_
      refine lv_iconst (v := (1 : Int32)) hx hb dX10_landed_33 (by decide) ?_
      refine lv_icmp_le (tgt := 53) hx hb dX10_landed_34 (by decide) (fun c12 => ?_) (fun c12 => ?_)
      · have h := h.1 c12
        refine lv_iload_n hx hb dX10_landed_53 rfl (lv_at hl 2 rfl) ?_
        refine lv_if_ne (tgt := 66) hx hb dX10_landed_54 (by decide) (fun c13 => ?_) (fun c13 => ?_)
        · have h := h.2 c13
          refine lv_aload_n hx hb dX10_landed_66 rfl (lv_at hl 0 rfl) ?_
          refine va_get (ci := 10) (v := .ref (A 38)) (C := RX10) (T := TX10) (N := 54) hx hb hts k0 hown hK hP 0 (aM0 Y A S9) rfl 46 (by decide) k2 (fun _ h9 => h9) rfl dX10_landed_67 ?_
          refine lv_iload_n hx hb dX10_landed_70 rfl (lv_at hl 1 rfl) ?_
          have v_14 := h.1
          have h := h.2
          refine va_iald hx hb hK hP 38 0 (aM38 Y A S9) rfl v_14 dX10_landed_71 ?_
          exact tJ72  (ga S9 37 a1.toNatClampNeg) S9 h _ _ _ hP hS (lv_sub hl [0, 1] rfl)
        · have h := h.1 c13
          refine lv_aload_n hx hb dX10_landed_57 rfl (lv_at hl 0 rfl) ?_
          refine va_get (ci := 10) (v := .ref (A 37)) (C := RX10) (T := TX10) (N := 54) hx hb hts k0 hown hK hP 0 (aM0 Y A S9) rfl 45 (by decide) k3 (fun _ h9 => h9) rfl dX10_landed_58 ?_
          refine lv_iload_n hx hb dX10_landed_61 rfl (lv_at hl 1 rfl) ?_
          have v_15 := h.1
          have h := h.2
          refine va_iald hx hb hK hP 37 0 (aM37 Y A S9) rfl v_15 dX10_landed_62 ?_
          refine lv_goto (tgt := 72) hx hb dX10_landed_63 (by decide) ?_
          exact tJ72  (ga S9 36 a1.toNatClampNeg) S9 h _ _ _ hP hS (lv_sub hl [0, 1] rfl)
      · have h := h.2 c12
        refine lv_aload_n hx hb dX10_landed_37 rfl (lv_at hl 0 rfl) ?_
        refine lv_iload_n hx hb dX10_landed_38 rfl (lv_at hl 1 rfl) ?_
        refine lv_iload_n hx hb dX10_landed_39 rfl (lv_at hl 2 rfl) ?_
        refine lv_iconst (v := (3 : Int32)) hx hb dX10_landed_40 (by decide) ?_
        refine lv_icmp_ne (tgt := 48) hx hb dX10_landed_41 (by decide) (fun c16 => ?_) (fun c16 => ?_)
        · have h := h.2 c16
          refine lv_iconst (v := (0 : Int32)) hx hb dX10_landed_48 (by decide) ?_
          refine gVi (As := [.int a1, .int (0 : Int32)]) (rest := []) ⟨hx, hb, hml, hown, hts⟩ (kX10_casksOf l D Y A hI H.size S9 a1 (0 : Int32) _ h) (cwV 2 hts gX10_landed_X10_casksOf rfl rfl rfl (by decide +kernel) ⟨Nat.le_of_ble_eq_true rfl, Nat.le_of_ble_eq_true rfl⟩) hK hP hS (gF_le hS.1) (aM0 Y A S9) (show vwCl[10]? = some (RX10, TX10, 54) from rfl) rfl rfl hl.1 (Nat.le_of_ble_eq_true rfl) dX10_landed_49 ⟨Nat.zero_le _, Nat.zero_le _⟩ ?_
          intro r18 S17 H locs h hP hS
          exact hret _ _ _ _ _ _ dX10_landed_52 h hP hS
        · have h := h.1 c16
          refine lv_iconst (v := (1 : Int32)) hx hb dX10_landed_44 (by decide) ?_
          refine lv_goto (tgt := 49) hx hb dX10_landed_45 (by decide) ?_
          refine gVi (As := [.int a1, .int (1 : Int32)]) (rest := []) ⟨hx, hb, hml, hown, hts⟩ (kX10_casksOf l D Y A hI H.size S9 a1 (1 : Int32) _ h) (cwV 2 hts gX10_landed_X10_casksOf rfl rfl rfl (by decide +kernel) ⟨Nat.le_of_ble_eq_true rfl, Nat.le_of_ble_eq_true rfl⟩) hK hP hS (gF_le hS.1) (aM0 Y A S9) (show vwCl[10]? = some (RX10, TX10, 54) from rfl) rfl rfl hl.1 (Nat.le_of_ble_eq_true rfl) dX10_landed_49 ⟨Nat.zero_le _, Nat.zero_le _⟩ ?_
          intro r20 S19 H locs h hP hS
          exact hret _ _ _ _ _ _ dX10_landed_52 h hP hS
    · have h := h.1 c11
      refine lv_aload_n hx hb dX10_landed_25 rfl (lv_at hl 0 rfl) ?_
      refine lv_bipush (v := (-2 : Int32)) hx hb dX10_landed_26 (by decide) ?_
      refine gVi (As := [.int (-2 : Int32)]) (rest := []) ⟨hx, hb, hml, hown, hts⟩ (kX10_refuse l D Y A hI H.size S9 (-2 : Int32) _ h) (cwV 1 hts gX10_landed_X10_refuse rfl rfl rfl (by decide +kernel) ⟨Nat.le_of_ble_eq_true rfl, Nat.le_of_ble_eq_true rfl⟩) hK hP hS (gF_le hS.1) (aM0 Y A S9) (show vwCl[10]? = some (RX10, TX10, 54) from rfl) rfl rfl hl.1 (Nat.le_of_ble_eq_true rfl) dX10_landed_28 ⟨Nat.zero_le _, Nat.zero_le _⟩ ?_
      intro r22 S21 H locs h hP hS
      exact hret _ _ _ _ _ _ dX10_landed_31 h hP hS
  · have h := h.1 c8
    refine lv_aload_n hx hb dX10_landed_10 rfl (lv_at hl 0 rfl) ?_
    refine lv_iconst (v := (-1 : Int32)) hx hb dX10_landed_11 (by decide) ?_
    refine gVi (As := [.int (-1 : Int32)]) (rest := []) ⟨hx, hb, hml, hown, hts⟩ (kX10_refuse l D Y A hI H.size S6 (-1 : Int32) _ h) (cwV 1 hts gX10_landed_X10_refuse rfl rfl rfl (by decide +kernel) ⟨Nat.le_of_ble_eq_true rfl, Nat.le_of_ble_eq_true rfl⟩) hK hP hS (gF_le hS.1) (aM0 Y A S6) (show vwCl[10]? = some (RX10, TX10, 54) from rfl) rfl rfl hl.1 (Nat.le_of_ble_eq_true rfl) dX10_landed_12 ⟨Nat.zero_le _, Nat.zero_le _⟩ ?_
    intro r24 S23 H locs h hP hS
    exact hret _ _ _ _ _ _ dX10_landed_15 h hP hS

def qX10_lotOf (S : gS) (a1 : Int32) (a2 : Int32) (Q : Int32 → gS → Prop) : Prop :=
  qX10_in S a1 (0 : Int32) ((gi S 4) - (1 : Int32)) (fun r2 S1 => (r2 = 0 → (qX10_refuse S1 (-1 : Int32) (fun r19 S18 => Q r19 S18))) ∧ (¬ r2 = 0 → ((a2 = (0 : Int32) → (vp_in a1 100 ∧ (Q (ga S1 17 a1.toNatClampNeg) S1))) ∧ (¬ a2 = (0 : Int32) → ((a2 = (1 : Int32) → (vp_in a1 100 ∧ (Q (ga S1 18 a1.toNatClampNeg) S1))) ∧ (¬ a2 = (1 : Int32) → ((a2 = (2 : Int32) → (vp_in a1 100 ∧ (Q (ga S1 19 a1.toNatClampNeg) S1))) ∧ (¬ a2 = (2 : Int32) → ((a2 = (3 : Int32) → (vp_in a1 100 ∧ (Q (ga S1 20 a1.toNatClampNeg) S1))) ∧ (¬ a2 = (3 : Int32) → ((a2 = (4 : Int32) → (vp_in a1 100 ∧ (Q (ga S1 21 a1.toNatClampNeg) S1))) ∧ (¬ a2 = (4 : Int32) → ((a2 = (5 : Int32) → (vp_in a1 100 ∧ (Q (ga S1 22 a1.toNatClampNeg) S1))) ∧ (¬ a2 = (5 : Int32) → (qX10_refuse S1 (-2 : Int32) (fun r17 S16 => Q r17 S16))))))))))))))))
abbrev rmX10_lotOf : Room := { frames := 1, cells := 0, slots := 0, locals := 22 }
set_option maxHeartbeats 4000000 in
set_option maxRecDepth 100000 in
theorem kX10_lotOf (l : Launch) (D : va_G) (Y : Nat → ClassId) (A : Nat → Nat) (hI : iM A) (sz : Nat) (S : gS) (a1 : Int32) (a2 : Int32) (Q : Int32 → gS → Prop) (h : qX10_lotOf S a1 a2 Q) : Met l yX10_lotOf wsX10_lotOf rmX10_lotOf (gPc [.ref (A 0), .int a1, .int a2] sz D vwCl (tY Y) (wM Y A S)) (va_Qi Q (fun S' t => gH D vwCl (tY Y) (wM Y A S') t) (gF A 44 sz)) 0 0 (gF A 44 sz) := by
  refine gMet_i (cc := cX10_lotOf) (maxL := 3) (by decide +kernel) rfl (Nat.le_of_ble_eq_true rfl) (fun p e s m args below meth c Z H locs hx hb hml hts hown hK hP hS hret ls hl => ?_)
  have hown : s.vm.findClass RX10 = some m.cls := hown
  have hl : lv_has ls 3 [(0, .ref (A 0)), (1, .int a1), (2, .int a2)] := hl
  have hD : ∀ S0 : gS, va_D (gF A 44 s.heap.size) (wM Y A S0) := fun S0 => dM hI S0 (fun k hk => gF_in hk)
  have k0 : ∀ w ∈ u_ws RX10 TX10 54, w ∈ wsX10_lotOf := by decide +kernel
  have k1 := hts (.fieldLink RX10 189 "CoastWatchModel" "lots" "I") (by decide +kernel)
  have k2 := hts (.fieldLink RX10 65 "CoastWatchModel" "lotBoat" "[I") (by decide +kernel)
  have k3 := hts (.fieldLink RX10 68 "CoastWatchModel" "lotCasks" "[I") (by decide +kernel)
  have k4 := hts (.fieldLink RX10 71 "CoastWatchModel" "lotNight" "[I") (by decide +kernel)
  have k5 := hts (.fieldLink RX10 74 "CoastWatchModel" "lotCove" "[I") (by decide +kernel)
  have k6 := hts (.fieldLink RX10 77 "CoastWatchModel" "lotLies" "[I") (by decide +kernel)
  have k7 := hts (.fieldLink RX10 80 "CoastWatchModel" "lotHide" "[I") (by decide +kernel)
  refine lv_iload_n hx hb dX10_lotOf_0 rfl (lv_at hl 1 rfl) ?_
  refine lv_iconst (v := (0 : Int32)) hx hb dX10_lotOf_1 (by decide) ?_
  refine lv_aload_n hx hb dX10_lotOf_2 rfl (lv_at hl 0 rfl) ?_
  refine va_get (ci := 10) (v := .int (gi S 4)) (C := RX10) (T := TX10) (N := 54) hx hb hts k0 hown hK hP 0 (aM0 Y A S) rfl 21 (by decide) k1 (fun _ h9 => h9) rfl dX10_lotOf_3 ?_
  refine lv_iconst (v := (1 : Int32)) hx hb dX10_lotOf_6 (by decide) ?_
  refine lv_isub hx hb dX10_lotOf_7 ?_
  refine gSi (As := [.int a1, .int (0 : Int32), .int ((gi S 4) - (1 : Int32))]) (rest := []) ⟨hx, hb, hml, hown, hts⟩ (kX10_in l D Y A hI H.size S a1 (0 : Int32) ((gi S 4) - (1 : Int32)) _ h) (va_cwS 3 hts gX10_lotOf_X10_in rfl rfl rfl (by decide +kernel) ⟨Nat.le_of_ble_eq_true rfl, Nat.le_of_ble_eq_true rfl⟩) hK hP hS (gF_le hS.1) rfl rfl hl.1 (Nat.le_of_ble_eq_true rfl) dX10_lotOf_8 ⟨Nat.zero_le _, Nat.zero_le _⟩ ?_
  intro r2 S1 H locs h hP hS
  refine lv_if_ne (tgt := 20) hx hb dX10_lotOf_11 (by decide) (fun c3 => ?_) (fun c3 => ?_)
  · have h := h.2 c3
    refine lv_iload_n hx hb dX10_lotOf_20 rfl (lv_at hl 2 rfl) ?_
    by_cases c4 : a2 = (0 : Int32)
    · have h := h.1 c4
      refine lv_tableIn (tgt := 60) hx hb dX10_lotOf_21 (by rw [c4]; decide) (by rw [c4]; decide) (by rw [c4]; rfl) (by decide) ?_
      refine lv_aload_n hx hb dX10_lotOf_60 rfl (lv_at hl 0 rfl) ?_
      refine va_get (ci := 10) (v := .ref (A 18)) (C := RX10) (T := TX10) (N := 54) hx hb hts k0 hown hK hP 0 (aM0 Y A S1) rfl 22 (by decide) k2 (fun _ h9 => h9) rfl dX10_lotOf_61 ?_
      refine lv_iload_n hx hb dX10_lotOf_64 rfl (lv_at hl 1 rfl) ?_
      have v_5 := h.1
      have h := h.2
      refine va_iald hx hb hK hP 18 0 (aM18 Y A S1) rfl v_5 dX10_lotOf_65 ?_
      exact hret _ _ _ _ _ _ dX10_lotOf_66 h hP hS
    have h := h.2 c4
    by_cases c6 : a2 = (1 : Int32)
    · have h := h.1 c6
      refine lv_tableIn (tgt := 67) hx hb dX10_lotOf_21 (by rw [c6]; decide) (by rw [c6]; decide) (by rw [c6]; rfl) (by decide) ?_
      refine lv_aload_n hx hb dX10_lotOf_67 rfl (lv_at hl 0 rfl) ?_
      refine va_get (ci := 10) (v := .ref (A 19)) (C := RX10) (T := TX10) (N := 54) hx hb hts k0 hown hK hP 0 (aM0 Y A S1) rfl 23 (by decide) k3 (fun _ h9 => h9) rfl dX10_lotOf_68 ?_
      refine lv_iload_n hx hb dX10_lotOf_71 rfl (lv_at hl 1 rfl) ?_
      have v_7 := h.1
      have h := h.2
      refine va_iald hx hb hK hP 19 0 (aM19 Y A S1) rfl v_7 dX10_lotOf_72 ?_
      exact hret _ _ _ _ _ _ dX10_lotOf_73 h hP hS
    have h := h.2 c6
    by_cases c8 : a2 = (2 : Int32)
    · have h := h.1 c8
      refine lv_tableIn (tgt := 74) hx hb dX10_lotOf_21 (by rw [c8]; decide) (by rw [c8]; decide) (by rw [c8]; rfl) (by decide) ?_
      refine lv_aload_n hx hb dX10_lotOf_74 rfl (lv_at hl 0 rfl) ?_
      refine va_get (ci := 10) (v := .ref (A 20)) (C := RX10) (T := TX10) (N := 54) hx hb hts k0 hown hK hP 0 (aM0 Y A S1) rfl 24 (by decide) k4 (fun _ h9 => h9) rfl dX10_lotOf_75 ?_
      refine lv_iload_n hx hb dX10_lotOf_78 rfl (lv_at hl 1 rfl) ?_
      have v_9 := h.1
      have h := h.2
      refine va_iald hx hb hK hP 20 0 (aM20 Y A S1) rfl v_9 dX10_lotOf_79 ?_
      exact hret _ _ _ _ _ _ dX10_lotOf_80 h hP hS
    have h := h.2 c8
    by_cases c10 : a2 = (3 : Int32)
    · have h := h.1 c10
      refine lv_tableIn (tgt := 81) hx hb dX10_lotOf_21 (by rw [c10]; decide) (by rw [c10]; decide) (by rw [c10]; rfl) (by decide) ?_
      refine lv_aload_n hx hb dX10_lotOf_81 rfl (lv_at hl 0 rfl) ?_
      refine va_get (ci := 10) (v := .ref (A 21)) (C := RX10) (T := TX10) (N := 54) hx hb hts k0 hown hK hP 0 (aM0 Y A S1) rfl 25 (by decide) k5 (fun _ h9 => h9) rfl dX10_lotOf_82 ?_
      refine lv_iload_n hx hb dX10_lotOf_85 rfl (lv_at hl 1 rfl) ?_
      have v_11 := h.1
      have h := h.2
      refine va_iald hx hb hK hP 21 0 (aM21 Y A S1) rfl v_11 dX10_lotOf_86 ?_
      exact hret _ _ _ _ _ _ dX10_lotOf_87 h hP hS
    have h := h.2 c10
    by_cases c12 : a2 = (4 : Int32)
    · have h := h.1 c12
      refine lv_tableIn (tgt := 88) hx hb dX10_lotOf_21 (by rw [c12]; decide) (by rw [c12]; decide) (by rw [c12]; rfl) (by decide) ?_
      refine lv_aload_n hx hb dX10_lotOf_88 rfl (lv_at hl 0 rfl) ?_
      refine va_get (ci := 10) (v := .ref (A 22)) (C := RX10) (T := TX10) (N := 54) hx hb hts k0 hown hK hP 0 (aM0 Y A S1) rfl 26 (by decide) k6 (fun _ h9 => h9) rfl dX10_lotOf_89 ?_
      refine lv_iload_n hx hb dX10_lotOf_92 rfl (lv_at hl 1 rfl) ?_
      have v_13 := h.1
      have h := h.2
      refine va_iald hx hb hK hP 22 0 (aM22 Y A S1) rfl v_13 dX10_lotOf_93 ?_
      exact hret _ _ _ _ _ _ dX10_lotOf_94 h hP hS
    have h := h.2 c12
    by_cases c14 : a2 = (5 : Int32)
    · have h := h.1 c14
      refine lv_tableIn (tgt := 95) hx hb dX10_lotOf_21 (by rw [c14]; decide) (by rw [c14]; decide) (by rw [c14]; rfl) (by decide) ?_
      refine lv_aload_n hx hb dX10_lotOf_95 rfl (lv_at hl 0 rfl) ?_
      refine va_get (ci := 10) (v := .ref (A 23)) (C := RX10) (T := TX10) (N := 54) hx hb hts k0 hown hK hP 0 (aM0 Y A S1) rfl 27 (by decide) k7 (fun _ h9 => h9) rfl dX10_lotOf_96 ?_
      refine lv_iload_n hx hb dX10_lotOf_99 rfl (lv_at hl 1 rfl) ?_
      have v_15 := h.1
      have h := h.2
      refine va_iald hx hb hK hP 23 0 (aM23 Y A S1) rfl v_15 dX10_lotOf_100 ?_
      exact hret _ _ _ _ _ _ dX10_lotOf_101 h hP hS
    have h := h.2 c14
    refine lv_tableOut (tgt := 102) hx hb dX10_lotOf_21 (by
      have := ne_toInt (z := 0) c4 (by decide)
      have := ne_toInt (z := 1) c6 (by decide)
      have := ne_toInt (z := 2) c8 (by decide)
      have := ne_toInt (z := 3) c10 (by decide)
      have := ne_toInt (z := 4) c12 (by decide)
      have := ne_toInt (z := 5) c14 (by decide)
      omega) (by decide) ?_
    refine lv_aload_n hx hb dX10_lotOf_102 rfl (lv_at hl 0 rfl) ?_
    refine lv_bipush (v := (-2 : Int32)) hx hb dX10_lotOf_103 (by decide) ?_
    refine gVi (As := [.int (-2 : Int32)]) (rest := []) ⟨hx, hb, hml, hown, hts⟩ (kX10_refuse l D Y A hI H.size S1 (-2 : Int32) _ h) (cwV 1 hts gX10_lotOf_X10_refuse rfl rfl rfl (by decide +kernel) ⟨Nat.le_of_ble_eq_true rfl, Nat.le_of_ble_eq_true rfl⟩) hK hP hS (gF_le hS.1) (aM0 Y A S1) (show vwCl[10]? = some (RX10, TX10, 54) from rfl) rfl rfl hl.1 (Nat.le_of_ble_eq_true rfl) dX10_lotOf_105 ⟨Nat.zero_le _, Nat.zero_le _⟩ ?_
    intro r17 S16 H locs h hP hS
    exact hret _ _ _ _ _ _ dX10_lotOf_108 h hP hS
  · have h := h.1 c3
    refine lv_aload_n hx hb dX10_lotOf_14 rfl (lv_at hl 0 rfl) ?_
    refine lv_iconst (v := (-1 : Int32)) hx hb dX10_lotOf_15 (by decide) ?_
    refine gVi (As := [.int (-1 : Int32)]) (rest := []) ⟨hx, hb, hml, hown, hts⟩ (kX10_refuse l D Y A hI H.size S1 (-1 : Int32) _ h) (cwV 1 hts gX10_lotOf_X10_refuse rfl rfl rfl (by decide +kernel) ⟨Nat.le_of_ble_eq_true rfl, Nat.le_of_ble_eq_true rfl⟩) hK hP hS (gF_le hS.1) (aM0 Y A S1) (show vwCl[10]? = some (RX10, TX10, 54) from rfl) rfl rfl hl.1 (Nat.le_of_ble_eq_true rfl) dX10_lotOf_16 ⟨Nat.zero_le _, Nat.zero_le _⟩ ?_
    intro r19 S18 H locs h hP hS
    exact hret _ _ _ _ _ _ dX10_lotOf_19 h hP hS

def qX10_boatOf (S : gS) (a1 : Int32) (a2 : Int32) (Q : Int32 → gS → Prop) : Prop :=
  qX10_in S a1 (0 : Int32) ((gi S 2) - (1 : Int32)) (fun r2 S1 => (r2 = 0 → (qX10_refuse S1 (-1 : Int32) (fun r17 S16 => Q r17 S16))) ∧ (¬ r2 = 0 → (qX10_in S1 a2 (0 : Int32) (8 : Int32) (fun r5 S4 => (r5 = 0 → (qX10_refuse S4 (-2 : Int32) (fun r15 S14 => Q r15 S14))) ∧ (¬ r5 = 0 → ((a2 = 0 → (vp_in a1 8 ∧ (Q (ga S4 9 a1.toNatClampNeg) S4))) ∧ (¬ a2 = 0 → ((a2 = (1 : Int32) → (vp_in a1 8 ∧ (Q (ga S4 10 a1.toNatClampNeg) S4))) ∧ (¬ a2 = (1 : Int32) → ((a2 = (2 : Int32) → (vp_in a1 8 ∧ (Q (ga S4 11 a1.toNatClampNeg) S4))) ∧ (¬ a2 = (2 : Int32) → (vp_in ((((6 : Int32) * a1) + a2) - (3 : Int32)) 48 ∧ (Q (ga S4 12 ((((6 : Int32) * a1) + a2) - (3 : Int32)).toNatClampNeg) S4)))))))))))))
abbrev rmX10_boatOf : Room := { frames := 1, cells := 0, slots := 0, locals := 22 }
set_option maxHeartbeats 4000000 in
set_option maxRecDepth 100000 in
theorem kX10_boatOf (l : Launch) (D : va_G) (Y : Nat → ClassId) (A : Nat → Nat) (hI : iM A) (sz : Nat) (S : gS) (a1 : Int32) (a2 : Int32) (Q : Int32 → gS → Prop) (h : qX10_boatOf S a1 a2 Q) : Met l yX10_boatOf wsX10_boatOf rmX10_boatOf (gPc [.ref (A 0), .int a1, .int a2] sz D vwCl (tY Y) (wM Y A S)) (va_Qi Q (fun S' t => gH D vwCl (tY Y) (wM Y A S') t) (gF A 44 sz)) 0 0 (gF A 44 sz) := by
  refine gMet_i (cc := cX10_boatOf) (maxL := 3) (by decide +kernel) rfl (Nat.le_of_ble_eq_true rfl) (fun p e s m args below meth c Z H locs hx hb hml hts hown hK hP hS hret ls hl => ?_)
  have hown : s.vm.findClass RX10 = some m.cls := hown
  have hl : lv_has ls 3 [(0, .ref (A 0)), (1, .int a1), (2, .int a2)] := hl
  have hD : ∀ S0 : gS, va_D (gF A 44 s.heap.size) (wM Y A S0) := fun S0 => dM hI S0 (fun k hk => gF_in hk)
  have k0 : ∀ w ∈ u_ws RX10 TX10 54, w ∈ wsX10_boatOf := by decide +kernel
  have k1 := hts (.fieldLink RX10 161 "CoastWatchModel" "boats" "I") (by decide +kernel)
  have k2 := hts (.fieldLink RX10 50 "CoastWatchModel" "fear" "[I") (by decide +kernel)
  have k3 := hts (.fieldLink RX10 47 "CoastWatchModel" "home" "[I") (by decide +kernel)
  have k4 := hts (.fieldLink RX10 44 "CoastWatchModel" "away" "[I") (by decide +kernel)
  have k5 := hts (.fieldLink RX10 41 "CoastWatchModel" "aboard" "[I") (by decide +kernel)
  refine lv_iload_n hx hb dX10_boatOf_0 rfl (lv_at hl 1 rfl) ?_
  refine lv_iconst (v := (0 : Int32)) hx hb dX10_boatOf_1 (by decide) ?_
  refine lv_aload_n hx hb dX10_boatOf_2 rfl (lv_at hl 0 rfl) ?_
  refine va_get (ci := 10) (v := .int (gi S 2)) (C := RX10) (T := TX10) (N := 54) hx hb hts k0 hown hK hP 0 (aM0 Y A S) rfl 7 (by decide) k1 (fun _ h9 => h9) rfl dX10_boatOf_3 ?_
  refine lv_iconst (v := (1 : Int32)) hx hb dX10_boatOf_6 (by decide) ?_
  refine lv_isub hx hb dX10_boatOf_7 ?_
  refine gSi (As := [.int a1, .int (0 : Int32), .int ((gi S 2) - (1 : Int32))]) (rest := []) ⟨hx, hb, hml, hown, hts⟩ (kX10_in l D Y A hI H.size S a1 (0 : Int32) ((gi S 2) - (1 : Int32)) _ h) (va_cwS 3 hts gX10_boatOf_X10_in rfl rfl rfl (by decide +kernel) ⟨Nat.le_of_ble_eq_true rfl, Nat.le_of_ble_eq_true rfl⟩) hK hP hS (gF_le hS.1) rfl rfl hl.1 (Nat.le_of_ble_eq_true rfl) dX10_boatOf_8 ⟨Nat.zero_le _, Nat.zero_le _⟩ ?_
  intro r2 S1 H locs h hP hS
  refine lv_if_ne (tgt := 20) hx hb dX10_boatOf_11 (by decide) (fun c3 => ?_) (fun c3 => ?_)
  · have h := h.2 c3
    refine lv_iload_n hx hb dX10_boatOf_20 rfl (lv_at hl 2 rfl) ?_
    refine lv_iconst (v := (0 : Int32)) hx hb dX10_boatOf_21 (by decide) ?_
    refine lv_bipush (v := (8 : Int32)) hx hb dX10_boatOf_22 (by decide) ?_
    refine gSi (As := [.int a2, .int (0 : Int32), .int (8 : Int32)]) (rest := []) ⟨hx, hb, hml, hown, hts⟩ (kX10_in l D Y A hI H.size S1 a2 (0 : Int32) (8 : Int32) _ h) (va_cwS 3 hts gX10_boatOf_X10_in rfl rfl rfl (by decide +kernel) ⟨Nat.le_of_ble_eq_true rfl, Nat.le_of_ble_eq_true rfl⟩) hK hP hS (gF_le hS.1) rfl rfl hl.1 (Nat.le_of_ble_eq_true rfl) dX10_boatOf_24 ⟨Nat.zero_le _, Nat.zero_le _⟩ ?_
    intro r5 S4 H locs h hP hS
    refine lv_if_ne (tgt := 37) hx hb dX10_boatOf_27 (by decide) (fun c6 => ?_) (fun c6 => ?_)
    · have h := h.2 c6
      refine lv_iload_n hx hb dX10_boatOf_37 rfl (lv_at hl 2 rfl) ?_
      refine lv_if_ne (tgt := 50) hx hb dX10_boatOf_38 (by decide) (fun c7 => ?_) (fun c7 => ?_)
      · have h := h.2 c7
        refine lv_iload_n hx hb dX10_boatOf_50 rfl (lv_at hl 2 rfl) ?_
        refine lv_iconst (v := (1 : Int32)) hx hb dX10_boatOf_51 (by decide) ?_
        refine lv_icmp_ne (tgt := 64) hx hb dX10_boatOf_52 (by decide) (fun c8 => ?_) (fun c8 => ?_)
        · have h := h.2 c8
          refine lv_iload_n hx hb dX10_boatOf_64 rfl (lv_at hl 2 rfl) ?_
          refine lv_iconst (v := (2 : Int32)) hx hb dX10_boatOf_65 (by decide) ?_
          refine lv_icmp_ne (tgt := 78) hx hb dX10_boatOf_66 (by decide) (fun c9 => ?_) (fun c9 => ?_)
          · have h := h.2 c9
            refine lv_aload_n hx hb dX10_boatOf_78 rfl (lv_at hl 0 rfl) ?_
            refine va_get (ci := 10) (v := .ref (A 13)) (C := RX10) (T := TX10) (N := 54) hx hb hts k0 hown hK hP 0 (aM0 Y A S4) rfl 15 (by decide) k2 (fun _ h9 => h9) rfl dX10_boatOf_79 ?_
            refine lv_bipush (v := (6 : Int32)) hx hb dX10_boatOf_82 (by decide) ?_
            refine lv_iload_n hx hb dX10_boatOf_84 rfl (lv_at hl 1 rfl) ?_
            refine lv_imul hx hb dX10_boatOf_85 ?_
            refine lv_iload_n hx hb dX10_boatOf_86 rfl (lv_at hl 2 rfl) ?_
            refine lv_iadd hx hb dX10_boatOf_87 ?_
            refine lv_iconst (v := (3 : Int32)) hx hb dX10_boatOf_88 (by decide) ?_
            refine lv_isub hx hb dX10_boatOf_89 ?_
            have v_10 := h.1
            have h := h.2
            refine va_iald hx hb hK hP 13 0 (aM13 Y A S4) rfl v_10 dX10_boatOf_90 ?_
            exact hret _ _ _ _ _ _ dX10_boatOf_91 h hP hS
          · have h := h.1 c9
            refine lv_aload_n hx hb dX10_boatOf_69 rfl (lv_at hl 0 rfl) ?_
            refine va_get (ci := 10) (v := .ref (A 12)) (C := RX10) (T := TX10) (N := 54) hx hb hts k0 hown hK hP 0 (aM0 Y A S4) rfl 14 (by decide) k3 (fun _ h9 => h9) rfl dX10_boatOf_70 ?_
            refine lv_iload_n hx hb dX10_boatOf_73 rfl (lv_at hl 1 rfl) ?_
            have v_11 := h.1
            have h := h.2
            refine va_iald hx hb hK hP 12 0 (aM12 Y A S4) rfl v_11 dX10_boatOf_74 ?_
            refine lv_goto (tgt := 91) hx hb dX10_boatOf_75 (by decide) ?_
            exact hret _ _ _ _ _ _ dX10_boatOf_91 h hP hS
        · have h := h.1 c8
          refine lv_aload_n hx hb dX10_boatOf_55 rfl (lv_at hl 0 rfl) ?_
          refine va_get (ci := 10) (v := .ref (A 11)) (C := RX10) (T := TX10) (N := 54) hx hb hts k0 hown hK hP 0 (aM0 Y A S4) rfl 13 (by decide) k4 (fun _ h9 => h9) rfl dX10_boatOf_56 ?_
          refine lv_iload_n hx hb dX10_boatOf_59 rfl (lv_at hl 1 rfl) ?_
          have v_12 := h.1
          have h := h.2
          refine va_iald hx hb hK hP 11 0 (aM11 Y A S4) rfl v_12 dX10_boatOf_60 ?_
          refine lv_goto (tgt := 91) hx hb dX10_boatOf_61 (by decide) ?_
          exact hret _ _ _ _ _ _ dX10_boatOf_91 h hP hS
      · have h := h.1 c7
        refine lv_aload_n hx hb dX10_boatOf_41 rfl (lv_at hl 0 rfl) ?_
        refine va_get (ci := 10) (v := .ref (A 10)) (C := RX10) (T := TX10) (N := 54) hx hb hts k0 hown hK hP 0 (aM0 Y A S4) rfl 12 (by decide) k5 (fun _ h9 => h9) rfl dX10_boatOf_42 ?_
        refine lv_iload_n hx hb dX10_boatOf_45 rfl (lv_at hl 1 rfl) ?_
        have v_13 := h.1
        have h := h.2
        refine va_iald hx hb hK hP 10 0 (aM10 Y A S4) rfl v_13 dX10_boatOf_46 ?_
        refine lv_goto (tgt := 91) hx hb dX10_boatOf_47 (by decide) ?_
        exact hret _ _ _ _ _ _ dX10_boatOf_91 h hP hS
    · have h := h.1 c6
      refine lv_aload_n hx hb dX10_boatOf_30 rfl (lv_at hl 0 rfl) ?_
      refine lv_bipush (v := (-2 : Int32)) hx hb dX10_boatOf_31 (by decide) ?_
      refine gVi (As := [.int (-2 : Int32)]) (rest := []) ⟨hx, hb, hml, hown, hts⟩ (kX10_refuse l D Y A hI H.size S4 (-2 : Int32) _ h) (cwV 1 hts gX10_boatOf_X10_refuse rfl rfl rfl (by decide +kernel) ⟨Nat.le_of_ble_eq_true rfl, Nat.le_of_ble_eq_true rfl⟩) hK hP hS (gF_le hS.1) (aM0 Y A S4) (show vwCl[10]? = some (RX10, TX10, 54) from rfl) rfl rfl hl.1 (Nat.le_of_ble_eq_true rfl) dX10_boatOf_33 ⟨Nat.zero_le _, Nat.zero_le _⟩ ?_
      intro r15 S14 H locs h hP hS
      exact hret _ _ _ _ _ _ dX10_boatOf_36 h hP hS
  · have h := h.1 c3
    refine lv_aload_n hx hb dX10_boatOf_14 rfl (lv_at hl 0 rfl) ?_
    refine lv_iconst (v := (-1 : Int32)) hx hb dX10_boatOf_15 (by decide) ?_
    refine gVi (As := [.int (-1 : Int32)]) (rest := []) ⟨hx, hb, hml, hown, hts⟩ (kX10_refuse l D Y A hI H.size S1 (-1 : Int32) _ h) (cwV 1 hts gX10_boatOf_X10_refuse rfl rfl rfl (by decide +kernel) ⟨Nat.le_of_ble_eq_true rfl, Nat.le_of_ble_eq_true rfl⟩) hK hP hS (gF_le hS.1) (aM0 Y A S1) (show vwCl[10]? = some (RX10, TX10, 54) from rfl) rfl rfl hl.1 (Nat.le_of_ble_eq_true rfl) dX10_boatOf_16 ⟨Nat.zero_le _, Nat.zero_le _⟩ ?_
    intro r17 S16 H locs h hP hS
    exact hret _ _ _ _ _ _ dX10_boatOf_19 h hP hS

def qX10_hideOf (S : gS) (a1 : Int32) (a2 : Int32) (Q : Int32 → gS → Prop) : Prop :=
  qX10_in S a1 (0 : Int32) ((gi S 3) - (1 : Int32)) (fun r2 S1 => (r2 = 0 → (qX10_refuse S1 (-1 : Int32) (fun r16 S15 => Q r16 S15))) ∧ (¬ r2 = 0 → (qX10_in S1 a2 (0 : Int32) (2 : Int32) (fun r5 S4 => (r5 = 0 → (qX10_refuse S4 (-2 : Int32) (fun r14 S13 => Q r14 S13))) ∧ (¬ r5 = 0 → ((a2 = 0 → (qX10_liesIn S4 a1 (fun r12 S11 => Q r12 S11))) ∧ (¬ a2 = 0 → ((a2 = (1 : Int32) → (vp_in a1 12 ∧ (Q (ga S4 16 a1.toNatClampNeg) S4))) ∧ (¬ a2 = (1 : Int32) → (vp_in a1 12 ∧ (Q (ga S4 13 a1.toNatClampNeg) S4)))))))))))
abbrev rmX10_hideOf : Room := { frames := 1, cells := 0, slots := 0, locals := 23 }
set_option maxHeartbeats 4000000 in
set_option maxRecDepth 100000 in
theorem kX10_hideOf (l : Launch) (D : va_G) (Y : Nat → ClassId) (A : Nat → Nat) (hI : iM A) (sz : Nat) (S : gS) (a1 : Int32) (a2 : Int32) (Q : Int32 → gS → Prop) (h : qX10_hideOf S a1 a2 Q) : Met l yX10_hideOf wsX10_hideOf rmX10_hideOf (gPc [.ref (A 0), .int a1, .int a2] sz D vwCl (tY Y) (wM Y A S)) (va_Qi Q (fun S' t => gH D vwCl (tY Y) (wM Y A S') t) (gF A 44 sz)) 0 0 (gF A 44 sz) := by
  refine gMet_i (cc := cX10_hideOf) (maxL := 3) (by decide +kernel) rfl (Nat.le_of_ble_eq_true rfl) (fun p e s m args below meth c Z H locs hx hb hml hts hown hK hP hS hret ls hl => ?_)
  have hown : s.vm.findClass RX10 = some m.cls := hown
  have hl : lv_has ls 3 [(0, .ref (A 0)), (1, .int a1), (2, .int a2)] := hl
  have hD : ∀ S0 : gS, va_D (gF A 44 s.heap.size) (wM Y A S0) := fun S0 => dM hI S0 (fun k hk => gF_in hk)
  have k0 : ∀ w ∈ u_ws RX10 TX10 54, w ∈ wsX10_hideOf := by decide +kernel
  have k1 := hts (.fieldLink RX10 164 "CoastWatchModel" "hides" "I") (by decide +kernel)
  have k2 := hts (.fieldLink RX10 53 "CoastWatchModel" "hideCove" "[I") (by decide +kernel)
  have k3 := hts (.fieldLink RX10 62 "CoastWatchModel" "guess" "[I") (by decide +kernel)
  refine lv_iload_n hx hb dX10_hideOf_0 rfl (lv_at hl 1 rfl) ?_
  refine lv_iconst (v := (0 : Int32)) hx hb dX10_hideOf_1 (by decide) ?_
  refine lv_aload_n hx hb dX10_hideOf_2 rfl (lv_at hl 0 rfl) ?_
  refine va_get (ci := 10) (v := .int (gi S 3)) (C := RX10) (T := TX10) (N := 54) hx hb hts k0 hown hK hP 0 (aM0 Y A S) rfl 16 (by decide) k1 (fun _ h9 => h9) rfl dX10_hideOf_3 ?_
  refine lv_iconst (v := (1 : Int32)) hx hb dX10_hideOf_6 (by decide) ?_
  refine lv_isub hx hb dX10_hideOf_7 ?_
  refine gSi (As := [.int a1, .int (0 : Int32), .int ((gi S 3) - (1 : Int32))]) (rest := []) ⟨hx, hb, hml, hown, hts⟩ (kX10_in l D Y A hI H.size S a1 (0 : Int32) ((gi S 3) - (1 : Int32)) _ h) (va_cwS 3 hts gX10_hideOf_X10_in rfl rfl rfl (by decide +kernel) ⟨Nat.le_of_ble_eq_true rfl, Nat.le_of_ble_eq_true rfl⟩) hK hP hS (gF_le hS.1) rfl rfl hl.1 (Nat.le_of_ble_eq_true rfl) dX10_hideOf_8 ⟨Nat.zero_le _, Nat.zero_le _⟩ ?_
  intro r2 S1 H locs h hP hS
  refine lv_if_ne (tgt := 20) hx hb dX10_hideOf_11 (by decide) (fun c3 => ?_) (fun c3 => ?_)
  · have h := h.2 c3
    refine lv_iload_n hx hb dX10_hideOf_20 rfl (lv_at hl 2 rfl) ?_
    refine lv_iconst (v := (0 : Int32)) hx hb dX10_hideOf_21 (by decide) ?_
    refine lv_iconst (v := (2 : Int32)) hx hb dX10_hideOf_22 (by decide) ?_
    refine gSi (As := [.int a2, .int (0 : Int32), .int (2 : Int32)]) (rest := []) ⟨hx, hb, hml, hown, hts⟩ (kX10_in l D Y A hI H.size S1 a2 (0 : Int32) (2 : Int32) _ h) (va_cwS 3 hts gX10_hideOf_X10_in rfl rfl rfl (by decide +kernel) ⟨Nat.le_of_ble_eq_true rfl, Nat.le_of_ble_eq_true rfl⟩) hK hP hS (gF_le hS.1) rfl rfl hl.1 (Nat.le_of_ble_eq_true rfl) dX10_hideOf_23 ⟨Nat.zero_le _, Nat.zero_le _⟩ ?_
    intro r5 S4 H locs h hP hS
    refine lv_if_ne (tgt := 36) hx hb dX10_hideOf_26 (by decide) (fun c6 => ?_) (fun c6 => ?_)
    · have h := h.2 c6
      refine lv_iload_n hx hb dX10_hideOf_36 rfl (lv_at hl 2 rfl) ?_
      refine lv_if_ne (tgt := 48) hx hb dX10_hideOf_37 (by decide) (fun c7 => ?_) (fun c7 => ?_)
      · have h := h.2 c7
        refine lv_iload_n hx hb dX10_hideOf_48 rfl (lv_at hl 2 rfl) ?_
        refine lv_iconst (v := (1 : Int32)) hx hb dX10_hideOf_49 (by decide) ?_
        refine lv_icmp_ne (tgt := 62) hx hb dX10_hideOf_50 (by decide) (fun c8 => ?_) (fun c8 => ?_)
        · have h := h.2 c8
          refine lv_aload_n hx hb dX10_hideOf_62 rfl (lv_at hl 0 rfl) ?_
          refine va_get (ci := 10) (v := .ref (A 14)) (C := RX10) (T := TX10) (N := 54) hx hb hts k0 hown hK hP 0 (aM0 Y A S4) rfl 17 (by decide) k2 (fun _ h9 => h9) rfl dX10_hideOf_63 ?_
          refine lv_iload_n hx hb dX10_hideOf_66 rfl (lv_at hl 1 rfl) ?_
          have v_9 := h.1
          have h := h.2
          refine va_iald hx hb hK hP 14 0 (aM14 Y A S4) rfl v_9 dX10_hideOf_67 ?_
          exact hret _ _ _ _ _ _ dX10_hideOf_68 h hP hS
        · have h := h.1 c8
          refine lv_aload_n hx hb dX10_hideOf_53 rfl (lv_at hl 0 rfl) ?_
          refine va_get (ci := 10) (v := .ref (A 17)) (C := RX10) (T := TX10) (N := 54) hx hb hts k0 hown hK hP 0 (aM0 Y A S4) rfl 20 (by decide) k3 (fun _ h9 => h9) rfl dX10_hideOf_54 ?_
          refine lv_iload_n hx hb dX10_hideOf_57 rfl (lv_at hl 1 rfl) ?_
          have v_10 := h.1
          have h := h.2
          refine va_iald hx hb hK hP 17 0 (aM17 Y A S4) rfl v_10 dX10_hideOf_58 ?_
          refine lv_goto (tgt := 68) hx hb dX10_hideOf_59 (by decide) ?_
          exact hret _ _ _ _ _ _ dX10_hideOf_68 h hP hS
      · have h := h.1 c7
        refine lv_aload_n hx hb dX10_hideOf_40 rfl (lv_at hl 0 rfl) ?_
        refine lv_iload_n hx hb dX10_hideOf_41 rfl (lv_at hl 1 rfl) ?_
        refine gVi (As := [.int a1]) (rest := []) ⟨hx, hb, hml, hown, hts⟩ (kX10_liesIn l D Y A hI H.size S4 a1 _ h) (cwV 1 hts gX10_hideOf_X10_liesIn rfl rfl rfl (by decide +kernel) ⟨Nat.le_of_ble_eq_true rfl, Nat.le_of_ble_eq_true rfl⟩) hK hP hS (gF_le hS.1) (aM0 Y A S4) (show vwCl[10]? = some (RX10, TX10, 54) from rfl) rfl rfl hl.1 (Nat.le_of_ble_eq_true rfl) dX10_hideOf_42 ⟨Nat.zero_le _, Nat.zero_le _⟩ ?_
        intro r12 S11 H locs h hP hS
        refine lv_goto (tgt := 68) hx hb dX10_hideOf_45 (by decide) ?_
        exact hret _ _ _ _ _ _ dX10_hideOf_68 h hP hS
    · have h := h.1 c6
      refine lv_aload_n hx hb dX10_hideOf_29 rfl (lv_at hl 0 rfl) ?_
      refine lv_bipush (v := (-2 : Int32)) hx hb dX10_hideOf_30 (by decide) ?_
      refine gVi (As := [.int (-2 : Int32)]) (rest := []) ⟨hx, hb, hml, hown, hts⟩ (kX10_refuse l D Y A hI H.size S4 (-2 : Int32) _ h) (cwV 1 hts gX10_hideOf_X10_refuse rfl rfl rfl (by decide +kernel) ⟨Nat.le_of_ble_eq_true rfl, Nat.le_of_ble_eq_true rfl⟩) hK hP hS (gF_le hS.1) (aM0 Y A S4) (show vwCl[10]? = some (RX10, TX10, 54) from rfl) rfl rfl hl.1 (Nat.le_of_ble_eq_true rfl) dX10_hideOf_32 ⟨Nat.zero_le _, Nat.zero_le _⟩ ?_
      intro r14 S13 H locs h hP hS
      exact hret _ _ _ _ _ _ dX10_hideOf_35 h hP hS
  · have h := h.1 c3
    refine lv_aload_n hx hb dX10_hideOf_14 rfl (lv_at hl 0 rfl) ?_
    refine lv_iconst (v := (-1 : Int32)) hx hb dX10_hideOf_15 (by decide) ?_
    refine gVi (As := [.int (-1 : Int32)]) (rest := []) ⟨hx, hb, hml, hown, hts⟩ (kX10_refuse l D Y A hI H.size S1 (-1 : Int32) _ h) (cwV 1 hts gX10_hideOf_X10_refuse rfl rfl rfl (by decide +kernel) ⟨Nat.le_of_ble_eq_true rfl, Nat.le_of_ble_eq_true rfl⟩) hK hP hS (gF_le hS.1) (aM0 Y A S1) (show vwCl[10]? = some (RX10, TX10, 54) from rfl) rfl rfl hl.1 (Nat.le_of_ble_eq_true rfl) dX10_hideOf_16 ⟨Nat.zero_le _, Nat.zero_le _⟩ ?_
    intro r16 S15 H locs h hP hS
    exact hret _ _ _ _ _ _ dX10_hideOf_19 h hP hS

def qX10_watched (S : gS) (a1 : Int32) (Q : Int32 → gS → Prop) : Prop :=
  qX10_isCove S a1 (fun r2 S1 => (r2 = 0 → (qX10_refuse S1 (-1 : Int32) (fun r5 S4 => Q r5 S4))) ∧ (¬ r2 = 0 → (vp_in a1 6 ∧ (Q (ga S1 26 a1.toNatClampNeg) S1))))
abbrev rmX10_watched : Room := { frames := 2, cells := 0, slots := 0, locals := 42 }
set_option maxHeartbeats 4000000 in
set_option maxRecDepth 100000 in
theorem kX10_watched (l : Launch) (D : va_G) (Y : Nat → ClassId) (A : Nat → Nat) (hI : iM A) (sz : Nat) (S : gS) (a1 : Int32) (Q : Int32 → gS → Prop) (h : qX10_watched S a1 Q) : Met l yX10_watched wsX10_watched rmX10_watched (gPc [.ref (A 0), .int a1] sz D vwCl (tY Y) (wM Y A S)) (va_Qi Q (fun S' t => gH D vwCl (tY Y) (wM Y A S') t) (gF A 44 sz)) 0 0 (gF A 44 sz) := by
  refine gMet_i (cc := cX10_watched) (maxL := 2) (by decide +kernel) rfl (Nat.le_of_ble_eq_true rfl) (fun p e s m args below meth c Z H locs hx hb hml hts hown hK hP hS hret ls hl => ?_)
  have hown : s.vm.findClass RX10 = some m.cls := hown
  have hl : lv_has ls 2 [(0, .ref (A 0)), (1, .int a1)] := hl
  have hD : ∀ S0 : gS, va_D (gF A 44 s.heap.size) (wM Y A S0) := fun S0 => dM hI S0 (fun k hk => gF_in hk)
  have k0 : ∀ w ∈ u_ws RX10 TX10 54, w ∈ wsX10_watched := by decide +kernel
  have k1 := hts (.fieldLink RX10 93 "CoastWatchModel" "there" "[I") (by decide +kernel)
  refine lv_iload_n hx hb dX10_watched_0 rfl (lv_at hl 1 rfl) ?_
  refine gSi (As := [.int a1]) (rest := []) ⟨hx, hb, hml, hown, hts⟩ (kX10_isCove l D Y A hI H.size S a1 _ h) (va_cwS 1 hts gX10_watched_X10_isCove rfl rfl rfl (by decide +kernel) ⟨Nat.le_of_ble_eq_true rfl, Nat.le_of_ble_eq_true rfl⟩) hK hP hS (gF_le hS.1) rfl rfl hl.1 (Nat.le_of_ble_eq_true rfl) dX10_watched_1 ⟨Nat.zero_le _, Nat.zero_le _⟩ ?_
  intro r2 S1 H locs h hP hS
  refine lv_if_eq (tgt := 16) hx hb dX10_watched_4 (by decide) (fun c3 => ?_) (fun c3 => ?_)
  · have h := h.1 c3
    refine lv_aload_n hx hb dX10_watched_16 rfl (lv_at hl 0 rfl) ?_
    refine lv_iconst (v := (-1 : Int32)) hx hb dX10_watched_17 (by decide) ?_
    refine gVi (As := [.int (-1 : Int32)]) (rest := []) ⟨hx, hb, hml, hown, hts⟩ (kX10_refuse l D Y A hI H.size S1 (-1 : Int32) _ h) (cwV 1 hts gX10_watched_X10_refuse rfl rfl rfl (by decide +kernel) ⟨Nat.le_of_ble_eq_true rfl, Nat.le_of_ble_eq_true rfl⟩) hK hP hS (gF_le hS.1) (aM0 Y A S1) (show vwCl[10]? = some (RX10, TX10, 54) from rfl) rfl rfl hl.1 (Nat.le_of_ble_eq_true rfl) dX10_watched_18 ⟨Nat.zero_le _, Nat.zero_le _⟩ ?_
    intro r5 S4 H locs h hP hS
    exact hret _ _ _ _ _ _ dX10_watched_21 h hP hS
  · have h := h.2 c3
    refine lv_aload_n hx hb dX10_watched_7 rfl (lv_at hl 0 rfl) ?_
    refine va_get (ci := 10) (v := .ref (A 27)) (C := RX10) (T := TX10) (N := 54) hx hb hts k0 hown hK hP 0 (aM0 Y A S1) rfl 31 (by decide) k1 (fun _ h9 => h9) rfl dX10_watched_8 ?_
    refine lv_iload_n hx hb dX10_watched_11 rfl (lv_at hl 1 rfl) ?_
    have v_6 := h.1
    have h := h.2
    refine va_iald hx hb hK hP 27 0 (aM27 Y A S1) rfl v_6 dX10_watched_12 ?_
    refine lv_goto (tgt := 21) hx hb dX10_watched_13 (by decide) ?_
    exact hret _ _ _ _ _ _ dX10_watched_21 h hP hS

def qX10_coins (S : gS) (a1 : Int32) (Q : Int32 → gS → Prop) : Prop :=
  qX10_in S a1 (0 : Int32) (7 : Int32) (fun r2 S1 => (r2 = 0 → (qX10_refuse S1 (-2 : Int32) (fun r5 S4 => Q r5 S4))) ∧ (¬ r2 = 0 → (vp_in a1 8 ∧ (Q (ga S1 39 a1.toNatClampNeg) S1))))
abbrev rmX10_coins : Room := { frames := 1, cells := 0, slots := 0, locals := 22 }
set_option maxHeartbeats 4000000 in
set_option maxRecDepth 100000 in
theorem kX10_coins (l : Launch) (D : va_G) (Y : Nat → ClassId) (A : Nat → Nat) (hI : iM A) (sz : Nat) (S : gS) (a1 : Int32) (Q : Int32 → gS → Prop) (h : qX10_coins S a1 Q) : Met l yX10_coins wsX10_coins rmX10_coins (gPc [.ref (A 0), .int a1] sz D vwCl (tY Y) (wM Y A S)) (va_Qi Q (fun S' t => gH D vwCl (tY Y) (wM Y A S') t) (gF A 44 sz)) 0 0 (gF A 44 sz) := by
  refine gMet_i (cc := cX10_coins) (maxL := 2) (by decide +kernel) rfl (Nat.le_of_ble_eq_true rfl) (fun p e s m args below meth c Z H locs hx hb hml hts hown hK hP hS hret ls hl => ?_)
  have hown : s.vm.findClass RX10 = some m.cls := hown
  have hl : lv_has ls 2 [(0, .ref (A 0)), (1, .int a1)] := hl
  have hD : ∀ S0 : gS, va_D (gF A 44 s.heap.size) (wM Y A S0) := fun S0 => dM hI S0 (fun k hk => gF_in hk)
  have k0 : ∀ w ∈ u_ws RX10 TX10 54, w ∈ wsX10_coins := by decide +kernel
  have k1 := hts (.fieldLink RX10 132 "CoastWatchModel" "coins" "[I") (by decide +kernel)
  refine lv_iload_n hx hb dX10_coins_0 rfl (lv_at hl 1 rfl) ?_
  refine lv_iconst (v := (0 : Int32)) hx hb dX10_coins_1 (by decide) ?_
  refine lv_bipush (v := (7 : Int32)) hx hb dX10_coins_2 (by decide) ?_
  refine gSi (As := [.int a1, .int (0 : Int32), .int (7 : Int32)]) (rest := []) ⟨hx, hb, hml, hown, hts⟩ (kX10_in l D Y A hI H.size S a1 (0 : Int32) (7 : Int32) _ h) (va_cwS 3 hts gX10_coins_X10_in rfl rfl rfl (by decide +kernel) ⟨Nat.le_of_ble_eq_true rfl, Nat.le_of_ble_eq_true rfl⟩) hK hP hS (gF_le hS.1) rfl rfl hl.1 (Nat.le_of_ble_eq_true rfl) dX10_coins_4 ⟨Nat.zero_le _, Nat.zero_le _⟩ ?_
  intro r2 S1 H locs h hP hS
  refine lv_if_eq (tgt := 19) hx hb dX10_coins_7 (by decide) (fun c3 => ?_) (fun c3 => ?_)
  · have h := h.1 c3
    refine lv_aload_n hx hb dX10_coins_19 rfl (lv_at hl 0 rfl) ?_
    refine lv_bipush (v := (-2 : Int32)) hx hb dX10_coins_20 (by decide) ?_
    refine gVi (As := [.int (-2 : Int32)]) (rest := []) ⟨hx, hb, hml, hown, hts⟩ (kX10_refuse l D Y A hI H.size S1 (-2 : Int32) _ h) (cwV 1 hts gX10_coins_X10_refuse rfl rfl rfl (by decide +kernel) ⟨Nat.le_of_ble_eq_true rfl, Nat.le_of_ble_eq_true rfl⟩) hK hP hS (gF_le hS.1) (aM0 Y A S1) (show vwCl[10]? = some (RX10, TX10, 54) from rfl) rfl rfl hl.1 (Nat.le_of_ble_eq_true rfl) dX10_coins_22 ⟨Nat.zero_le _, Nat.zero_le _⟩ ?_
    intro r5 S4 H locs h hP hS
    exact hret _ _ _ _ _ _ dX10_coins_25 h hP hS
  · have h := h.2 c3
    refine lv_aload_n hx hb dX10_coins_10 rfl (lv_at hl 0 rfl) ?_
    refine va_get (ci := 10) (v := .ref (A 40)) (C := RX10) (T := TX10) (N := 54) hx hb hts k0 hown hK hP 0 (aM0 Y A S1) rfl 48 (by decide) k1 (fun _ h9 => h9) rfl dX10_coins_11 ?_
    refine lv_iload_n hx hb dX10_coins_14 rfl (lv_at hl 1 rfl) ?_
    have v_6 := h.1
    have h := h.2
    refine va_iald hx hb hK hP 40 0 (aM40 Y A S1) rfl v_6 dX10_coins_15 ?_
    refine lv_goto (tgt := 25) hx hb dX10_coins_16 (by decide) ?_
    exact hret _ _ _ _ _ _ dX10_coins_25 h hP hS

def qX10_count_L83 (a1 : Int32) (Q : Int32 → gS → Prop) (K83 : Int32 × Int32 × gS → Prop) : Int32 × Int32 × gS → Prop := fun ⟨v2, v3, S⟩ =>
  ((6 : Int32) ≤ v3 → (Q v2 S)) ∧ (¬ (6 : Int32) ≤ v3 → ((a1 = (5 : Int32) → (vp_in v3 6 ∧ (∀ x7 : Int32, x7 = (v2 + (ga S 34 v3.toNatClampNeg)) → (∀ x8 : Int32, x8 = v3 + (1 : Int32) → (K83 (x7, x8, S)))))) ∧ (¬ a1 = (5 : Int32) → (vp_in v3 6 ∧ (∀ x4 : Int32, x4 = (v2 + (ga S 35 v3.toNatClampNeg)) → (∀ x5 : Int32, x5 = v3 + (1 : Int32) → (K83 (x4, x5, S))))))))
def qX10_count (S : gS) (a1 : Int32) (Q : Int32 → gS → Prop) : Prop :=
  (a1 = (0 : Int32) → (Q (gi S 1) S)) ∧ (¬ a1 = (0 : Int32) → ((a1 = (1 : Int32) → (Q (gi S 2) S)) ∧ (¬ a1 = (1 : Int32) → ((a1 = (2 : Int32) → (Q (gi S 3) S)) ∧ (¬ a1 = (2 : Int32) → ((a1 = (3 : Int32) → (Q (gi S 4) S)) ∧ (¬ a1 = (3 : Int32) → ((a1 = (4 : Int32) → (Q (gi S 8) S)) ∧ (¬ a1 = (4 : Int32) → ((a1 = (5 : Int32) → (lp (qX10_count_L83 a1 Q) ((0 : Int32), (0 : Int32), S))) ∧ (¬ a1 = (5 : Int32) → ((a1 = (6 : Int32) → (lp (qX10_count_L83 a1 Q) ((0 : Int32), (0 : Int32), S))) ∧ (¬ a1 = (6 : Int32) → ((a1 = (7 : Int32) → (Q (gi S 7) S)) ∧ (¬ a1 = (7 : Int32) → ((a1 = (8 : Int32) → (qX10_lightAt S (gi S 1) (fun r19 S18 => Q r19 S18))) ∧ (¬ a1 = (8 : Int32) → ((a1 = (9 : Int32) → (Q ((gi S 0) &&& (65535 : Int32)) S)) ∧ (¬ a1 = (9 : Int32) → (qX10_in S a1 (11 : Int32) (17 : Int32) (fun r22 S21 => (r22 = 0 → (Q (-9 : Int32) S21)) ∧ (¬ r22 = 0 → (vp_in (a1 - (10 : Int32)) 8 ∧ (Q (ga S21 40 (a1 - (10 : Int32)).toNatClampNeg) S21))))))))))))))))))))))))
abbrev rmX10_count : Room := { frames := 1, cells := 0, slots := 0, locals := 22 }
set_option maxHeartbeats 4000000 in
set_option maxRecDepth 100000 in
theorem kX10_count (l : Launch) (D : va_G) (Y : Nat → ClassId) (A : Nat → Nat) (hI : iM A) (sz : Nat) (S : gS) (a1 : Int32) (Q : Int32 → gS → Prop) (h : qX10_count S a1 Q) : Met l yX10_count wsX10_count rmX10_count (gPc [.ref (A 0), .int a1] sz D vwCl (tY Y) (wM Y A S)) (va_Qi Q (fun S' t => gH D vwCl (tY Y) (wM Y A S') t) (gF A 44 sz)) 0 0 (gF A 44 sz) := by
  refine gMet_i (cc := cX10_count) (maxL := 4) (by decide +kernel) rfl (Nat.le_of_ble_eq_true rfl) (fun p e s m args below meth c Z H locs hx hb hml hts hown hK hP hS hret ls hl => ?_)
  have hown : s.vm.findClass RX10 = some m.cls := hown
  have hl : lv_has ls 4 [(0, .ref (A 0)), (1, .int a1)] := hl
  have hD : ∀ S0 : gS, va_D (gF A 44 s.heap.size) (wM Y A S0) := fun S0 => dM hI S0 (fun k hk => gF_in hk)
  have k0 : ∀ w ∈ u_ws RX10 TX10 54, w ∈ wsX10_count := by decide +kernel
  have k1 := hts (.fieldLink RX10 120 "CoastWatchModel" "wrong" "[I") (by decide +kernel)
  have k2 := hts (.fieldLink RX10 117 "CoastWatchModel" "right" "[I") (by decide +kernel)
  have k3 := hts (.fieldLink RX10 173 "CoastWatchModel" "night" "I") (by decide +kernel)
  have k4 := hts (.fieldLink RX10 161 "CoastWatchModel" "boats" "I") (by decide +kernel)
  have k5 := hts (.fieldLink RX10 164 "CoastWatchModel" "hides" "I") (by decide +kernel)
  have k6 := hts (.fieldLink RX10 189 "CoastWatchModel" "lots" "I") (by decide +kernel)
  have k7 := hts (.fieldLink RX10 179 "CoastWatchModel" "words" "I") (by decide +kernel)
  have k8 := hts (.fieldLink RX10 176 "CoastWatchModel" "laws" "I") (by decide +kernel)
  have k9 := hts (.fieldLink RX10 7 "CoastWatchModel" "seed" "I") (by decide +kernel)
  have k10 := hts (.constant RX10 263 65535) (by decide +kernel)
  have k11 := hts (.fieldLink RX10 135 "CoastWatchModel" "refused" "[I") (by decide +kernel)
  have tL83 : ∀ (v2 : Int32) (v3 : Int32) (S : gS), lp (qX10_count_L83 a1 Q) (v2, v3, S) → ∀ (H : Heap) (locs : List Loc) (ls : Array Slot), va_P D vwCl (wM Y A S) H → va_S (gF A 44 s.heap.size) s.heap H locs → lv_has ls 4 [(0, .ref (A 0)), (1, .int a1), (2, .int v2), (3, .int v3)] → W p l e rmX10_count s m args below meth c H locs 0 0 Z (F0 m 83 ls []) := by
    intro  v2 v3 S h
    refine lp_walk (G := fun a => match a with | (v2, v3, S) => ∀ (H : Heap) (locs : List Loc) (ls : Array Slot), va_P D vwCl (wM Y A S) H → va_S (gF A 44 s.heap.size) s.heap H locs → lv_has ls 4 [(0, .ref (A 0)), (1, .int a1), (2, .int v2), (3, .int v3)] → W p l e rmX10_count s m args below meth c H locs 0 0 Z (F0 m 83 ls [])) (fun K83 a ih83 h => ?_) (v2, v3, S) h
    obtain ⟨v2, v3, S⟩ := a
    have ih83 : ∀ (v2 : Int32) (v3 : Int32) (S : gS), K83 (v2, v3, S) → ∀ (H : Heap) (locs : List Loc) (ls : Array Slot), va_P D vwCl (wM Y A S) H → va_S (gF A 44 s.heap.size) s.heap H locs → lv_has ls 4 [(0, .ref (A 0)), (1, .int a1), (2, .int v2), (3, .int v3)] → W p l e rmX10_count s m args below meth c H locs 0 0 Z (F0 m 83 ls []) := fun v2 v3 S q => ih83 (v2, v3, S) q
    intro H locs ls hP hS hl
    refine lv_iload_n hx hb dX10_count_83 rfl (lv_at hl 3 rfl) ?_
    refine lv_bipush (v := (6 : Int32)) hx hb dX10_count_84 (by decide) ?_
    refine lv_icmp_ge (tgt := 118) hx hb dX10_count_86 (by decide) (fun c1 => ?_) (fun c1 => ?_)
    · have h := h.1 c1
      refine lv_iload_n hx hb dX10_count_118 rfl (lv_at hl 2 rfl) ?_
      exact hret _ _ _ _ _ _ dX10_count_119 h hP hS
    · have h := h.2 c1
      refine lv_iload_n hx hb dX10_count_89 rfl (lv_at hl 2 rfl) ?_
      refine lv_iload_n hx hb dX10_count_90 rfl (lv_at hl 1 rfl) ?_
      refine lv_iconst (v := (5 : Int32)) hx hb dX10_count_91 (by decide) ?_
      refine lv_icmp_ne (tgt := 104) hx hb dX10_count_92 (by decide) (fun c2 => ?_) (fun c2 => ?_)
      · have h := h.2 c2
        refine lv_aload_n hx hb dX10_count_104 rfl (lv_at hl 0 rfl) ?_
        refine va_get (ci := 10) (v := .ref (A 36)) (C := RX10) (T := TX10) (N := 54) hx hb hts k0 hown hK hP 0 (aM0 Y A S) rfl 44 (by decide) k1 (fun _ h9 => h9) rfl dX10_count_105 ?_
        refine lv_iload_n hx hb dX10_count_108 rfl (lv_at hl 3 rfl) ?_
        have v_3 := h.1
        have h := h.2
        refine va_iald hx hb hK hP 36 0 (aM36 Y A S) rfl v_3 dX10_count_109 ?_
        refine lv_iadd hx hb dX10_count_110 ?_
        refine lv_topi (fun x4 ex4 => ?_)
        have h := h x4 ex4
        refine lv_istore_n (lv' := [(2, .int x4), (0, .ref (A 0)), (1, .int a1), (3, .int v3)]) hx hb dX10_count_111 rfl hl (by decide) rfl (fun ls hl => ?_)
        obtain ⟨x5, ex5⟩ : ∃ z : Int32, z = v3 + (1 : Int32) := ⟨_, rfl⟩
        have h := h x5 ex5
        refine lv_iinc (v := x5) (lv' := [(3, .int x5), (2, .int x4), (0, .ref (A 0)), (1, .int a1)]) hx hb dX10_count_112 hl (k := 3) rfl (by rw [ex5]; rfl) (by decide) rfl (fun ls hl => ?_)
        refine lv_goto (tgt := 83) hx hb dX10_count_115 (by decide) ?_
        exact ih83 x4 x5 S h _ _ _ hP hS (lv_sub hl [2, 3, 1, 0] rfl)
      · have h := h.1 c2
        refine lv_aload_n hx hb dX10_count_95 rfl (lv_at hl 0 rfl) ?_
        refine va_get (ci := 10) (v := .ref (A 35)) (C := RX10) (T := TX10) (N := 54) hx hb hts k0 hown hK hP 0 (aM0 Y A S) rfl 43 (by decide) k2 (fun _ h9 => h9) rfl dX10_count_96 ?_
        refine lv_iload_n hx hb dX10_count_99 rfl (lv_at hl 3 rfl) ?_
        have v_6 := h.1
        have h := h.2
        refine va_iald hx hb hK hP 35 0 (aM35 Y A S) rfl v_6 dX10_count_100 ?_
        refine lv_goto (tgt := 110) hx hb dX10_count_101 (by decide) ?_
        refine lv_iadd hx hb dX10_count_110 ?_
        refine lv_topi (fun x7 ex7 => ?_)
        have h := h x7 ex7
        refine lv_istore_n (lv' := [(2, .int x7), (0, .ref (A 0)), (1, .int a1), (3, .int v3)]) hx hb dX10_count_111 rfl hl (by decide) rfl (fun ls hl => ?_)
        obtain ⟨x8, ex8⟩ : ∃ z : Int32, z = v3 + (1 : Int32) := ⟨_, rfl⟩
        have h := h x8 ex8
        refine lv_iinc (v := x8) (lv' := [(3, .int x8), (2, .int x7), (0, .ref (A 0)), (1, .int a1)]) hx hb dX10_count_112 hl (k := 3) rfl (by rw [ex8]; rfl) (by decide) rfl (fun ls hl => ?_)
        refine lv_goto (tgt := 83) hx hb dX10_count_115 (by decide) ?_
        exact ih83 x7 x8 S h _ _ _ hP hS (lv_sub hl [2, 3, 1, 0] rfl)
  refine lv_iconst (v := (0 : Int32)) hx hb dX10_count_0 (by decide) ?_
  refine lv_istore_n (lv' := [(2, .int (0 : Int32)), (0, .ref (A 0)), (1, .int a1)]) hx hb dX10_count_1 rfl hl (by decide) rfl (fun ls hl => ?_)
  refine lv_iload_n hx hb dX10_count_2 rfl (lv_at hl 2 rfl) ?_
  by_cases c9 : a1 = (0 : Int32)
  · have h := h.1 c9
    refine lv_tableIn (tgt := 56) hx hb dX10_count_3 (by rw [c9]; decide) (by rw [c9]; decide) (by rw [c9]; rfl) (by decide) ?_
    refine lv_aload_n hx hb dX10_count_56 rfl (lv_at hl 1 rfl) ?_
    refine va_get (ci := 10) (v := .int (gi S 1)) (C := RX10) (T := TX10) (N := 54) hx hb hts k0 hown hK hP 0 (aM0 Y A S) rfl 1 (by decide) k3 (fun _ h9 => h9) rfl dX10_count_57 ?_
    exact hret _ _ _ _ _ _ dX10_count_60 h hP hS
  have h := h.2 c9
  by_cases c10 : a1 = (1 : Int32)
  · have h := h.1 c10
    refine lv_tableIn (tgt := 61) hx hb dX10_count_3 (by rw [c10]; decide) (by rw [c10]; decide) (by rw [c10]; rfl) (by decide) ?_
    refine lv_aload_n hx hb dX10_count_61 rfl (lv_at hl 1 rfl) ?_
    refine va_get (ci := 10) (v := .int (gi S 2)) (C := RX10) (T := TX10) (N := 54) hx hb hts k0 hown hK hP 0 (aM0 Y A S) rfl 7 (by decide) k4 (fun _ h9 => h9) rfl dX10_count_62 ?_
    exact hret _ _ _ _ _ _ dX10_count_65 h hP hS
  have h := h.2 c10
  by_cases c11 : a1 = (2 : Int32)
  · have h := h.1 c11
    refine lv_tableIn (tgt := 66) hx hb dX10_count_3 (by rw [c11]; decide) (by rw [c11]; decide) (by rw [c11]; rfl) (by decide) ?_
    refine lv_aload_n hx hb dX10_count_66 rfl (lv_at hl 1 rfl) ?_
    refine va_get (ci := 10) (v := .int (gi S 3)) (C := RX10) (T := TX10) (N := 54) hx hb hts k0 hown hK hP 0 (aM0 Y A S) rfl 16 (by decide) k5 (fun _ h9 => h9) rfl dX10_count_67 ?_
    exact hret _ _ _ _ _ _ dX10_count_70 h hP hS
  have h := h.2 c11
  by_cases c12 : a1 = (3 : Int32)
  · have h := h.1 c12
    refine lv_tableIn (tgt := 71) hx hb dX10_count_3 (by rw [c12]; decide) (by rw [c12]; decide) (by rw [c12]; rfl) (by decide) ?_
    refine lv_aload_n hx hb dX10_count_71 rfl (lv_at hl 1 rfl) ?_
    refine va_get (ci := 10) (v := .int (gi S 4)) (C := RX10) (T := TX10) (N := 54) hx hb hts k0 hown hK hP 0 (aM0 Y A S) rfl 21 (by decide) k6 (fun _ h9 => h9) rfl dX10_count_72 ?_
    exact hret _ _ _ _ _ _ dX10_count_75 h hP hS
  have h := h.2 c12
  by_cases c13 : a1 = (4 : Int32)
  · have h := h.1 c13
    refine lv_tableIn (tgt := 76) hx hb dX10_count_3 (by rw [c13]; decide) (by rw [c13]; decide) (by rw [c13]; rfl) (by decide) ?_
    refine lv_aload_n hx hb dX10_count_76 rfl (lv_at hl 1 rfl) ?_
    refine va_get (ci := 10) (v := .int (gi S 8)) (C := RX10) (T := TX10) (N := 54) hx hb hts k0 hown hK hP 0 (aM0 Y A S) rfl 39 (by decide) k7 (fun _ h9 => h9) rfl dX10_count_77 ?_
    exact hret _ _ _ _ _ _ dX10_count_80 h hP hS
  have h := h.2 c13
  by_cases c14 : a1 = (5 : Int32)
  · have h := h.1 c14
    refine lv_tableIn (tgt := 81) hx hb dX10_count_3 (by rw [c14]; decide) (by rw [c14]; decide) (by rw [c14]; rfl) (by decide) ?_
    refine lv_iconst (v := (0 : Int32)) hx hb dX10_count_81 (by decide) ?_
    refine lv_istore_n (lv' := [(3, .int (0 : Int32)), (2, .int (0 : Int32)), (0, .ref (A 0)), (1, .int a1)]) hx hb dX10_count_82 rfl hl (by decide) rfl (fun ls hl => ?_)
    exact tL83  (0 : Int32) (0 : Int32) S h _ _ _ hP hS (lv_sub hl [2, 3, 1, 0] rfl)
  have h := h.2 c14
  by_cases c15 : a1 = (6 : Int32)
  · have h := h.1 c15
    refine lv_tableIn (tgt := 81) hx hb dX10_count_3 (by rw [c15]; decide) (by rw [c15]; decide) (by rw [c15]; rfl) (by decide) ?_
    refine lv_iconst (v := (0 : Int32)) hx hb dX10_count_81 (by decide) ?_
    refine lv_istore_n (lv' := [(3, .int (0 : Int32)), (2, .int (0 : Int32)), (0, .ref (A 0)), (1, .int a1)]) hx hb dX10_count_82 rfl hl (by decide) rfl (fun ls hl => ?_)
    exact tL83  (0 : Int32) (0 : Int32) S h _ _ _ hP hS (lv_sub hl [2, 3, 1, 0] rfl)
  have h := h.2 c15
  by_cases c16 : a1 = (7 : Int32)
  · have h := h.1 c16
    refine lv_tableIn (tgt := 120) hx hb dX10_count_3 (by rw [c16]; decide) (by rw [c16]; decide) (by rw [c16]; rfl) (by decide) ?_
    refine lv_aload_n hx hb dX10_count_120 rfl (lv_at hl 1 rfl) ?_
    refine va_get (ci := 10) (v := .int (gi S 7)) (C := RX10) (T := TX10) (N := 54) hx hb hts k0 hown hK hP 0 (aM0 Y A S) rfl 35 (by decide) k8 (fun _ h9 => h9) rfl dX10_count_121 ?_
    exact hret _ _ _ _ _ _ dX10_count_124 h hP hS
  have h := h.2 c16
  by_cases c17 : a1 = (8 : Int32)
  · have h := h.1 c17
    refine lv_tableIn (tgt := 125) hx hb dX10_count_3 (by rw [c17]; decide) (by rw [c17]; decide) (by rw [c17]; rfl) (by decide) ?_
    refine lv_aload_n hx hb dX10_count_125 rfl (lv_at hl 1 rfl) ?_
    refine va_get (ci := 10) (v := .int (gi S 1)) (C := RX10) (T := TX10) (N := 54) hx hb hts k0 hown hK hP 0 (aM0 Y A S) rfl 1 (by decide) k3 (fun _ h9 => h9) rfl dX10_count_126 ?_
    refine gSi (As := [.int (gi S 1)]) (rest := []) ⟨hx, hb, hml, hown, hts⟩ (kX10_lightAt l D Y A hI H.size S (gi S 1) _ h) (va_cwS 1 hts gX10_count_X10_lightAt rfl rfl rfl (by decide +kernel) ⟨Nat.le_of_ble_eq_true rfl, Nat.le_of_ble_eq_true rfl⟩) hK hP hS (gF_le hS.1) rfl rfl hl.1 (Nat.le_of_ble_eq_true rfl) dX10_count_129 ⟨Nat.zero_le _, Nat.zero_le _⟩ ?_
    intro r19 S18 H locs h hP hS
    exact hret _ _ _ _ _ _ dX10_count_132 h hP hS
  have h := h.2 c17
  by_cases c20 : a1 = (9 : Int32)
  · have h := h.1 c20
    refine lv_tableIn (tgt := 133) hx hb dX10_count_3 (by rw [c20]; decide) (by rw [c20]; decide) (by rw [c20]; rfl) (by decide) ?_
    refine lv_aload_n hx hb dX10_count_133 rfl (lv_at hl 1 rfl) ?_
    refine va_get (ci := 10) (v := .int (gi S 0)) (C := RX10) (T := TX10) (N := 54) hx hb hts k0 hown hK hP 0 (aM0 Y A S) rfl 0 (by decide) k9 (fun _ h9 => h9) rfl dX10_count_134 ?_
    refine lv_ldcw (v := (65535 : Int32)) hx hb hown k10 dX10_count_137 ?_
    refine lv_iand hx hb dX10_count_140 ?_
    exact hret _ _ _ _ _ _ dX10_count_141 h hP hS
  have h := h.2 c20
  refine lv_tableOut (tgt := 142) hx hb dX10_count_3 (by
    have := ne_toInt (z := 0) c9 (by decide)
    have := ne_toInt (z := 1) c10 (by decide)
    have := ne_toInt (z := 2) c11 (by decide)
    have := ne_toInt (z := 3) c12 (by decide)
    have := ne_toInt (z := 4) c13 (by decide)
    have := ne_toInt (z := 5) c14 (by decide)
    have := ne_toInt (z := 6) c15 (by decide)
    have := ne_toInt (z := 7) c16 (by decide)
    have := ne_toInt (z := 8) c17 (by decide)
    have := ne_toInt (z := 9) c20 (by decide)
    omega) (by decide) ?_
  refine lv_iload_n hx hb dX10_count_142 rfl (lv_at hl 2 rfl) ?_
  refine lv_bipush (v := (11 : Int32)) hx hb dX10_count_143 (by decide) ?_
  refine lv_bipush (v := (17 : Int32)) hx hb dX10_count_145 (by decide) ?_
  refine gSi (As := [.int a1, .int (11 : Int32), .int (17 : Int32)]) (rest := []) ⟨hx, hb, hml, hown, hts⟩ (kX10_in l D Y A hI H.size S a1 (11 : Int32) (17 : Int32) _ h) (va_cwS 3 hts gX10_count_X10_in rfl rfl rfl (by decide +kernel) ⟨Nat.le_of_ble_eq_true rfl, Nat.le_of_ble_eq_true rfl⟩) hK hP hS (gF_le hS.1) rfl rfl hl.1 (Nat.le_of_ble_eq_true rfl) dX10_count_147 ⟨Nat.zero_le _, Nat.zero_le _⟩ ?_
  intro r22 S21 H locs h hP hS
  refine lv_if_eq (tgt := 165) hx hb dX10_count_150 (by decide) (fun c23 => ?_) (fun c23 => ?_)
  · have h := h.1 c23
    refine lv_bipush (v := (-9 : Int32)) hx hb dX10_count_165 (by decide) ?_
    exact hret _ _ _ _ _ _ dX10_count_167 h hP hS
  · have h := h.2 c23
    refine lv_aload_n hx hb dX10_count_153 rfl (lv_at hl 1 rfl) ?_
    refine va_get (ci := 10) (v := .ref (A 41)) (C := RX10) (T := TX10) (N := 54) hx hb hts k0 hown hK hP 0 (aM0 Y A S21) rfl 49 (by decide) k11 (fun _ h9 => h9) rfl dX10_count_154 ?_
    refine lv_iload_n hx hb dX10_count_157 rfl (lv_at hl 2 rfl) ?_
    refine lv_bipush (v := (10 : Int32)) hx hb dX10_count_158 (by decide) ?_
    refine lv_isub hx hb dX10_count_160 ?_
    have v_24 := h.1
    have h := h.2
    refine va_iald hx hb hK hP 41 0 (aM41 Y A S21) rfl v_24 dX10_count_161 ?_
    refine lv_goto (tgt := 167) hx hb dX10_count_162 (by decide) ?_
    exact hret _ _ _ _ _ _ dX10_count_167 h hP hS
