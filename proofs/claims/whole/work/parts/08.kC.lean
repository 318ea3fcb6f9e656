def qX9_seed (S : gS) (a1 : Int32) (Q : Int32 → gS → Prop) : Prop :=
  ∀ x1 : Int32, x1 = (gi S 1) → (∀ S2 : gS, S2 = sI S 1 a1 → (Q x1 S2))
abbrev rmX9_seed : Room := { frames := 0, cells := 0, slots := 0, locals := 0 }
set_option maxHeartbeats 4000000 in
set_option maxRecDepth 100000 in
theorem kX9_seed (l : Launch) (D : va_G) (Y : Nat → ClassId) (A : Nat → Nat) (hI : iC A) (sz : Nat) (S : gS) (a1 : Int32) (Q : Int32 → gS → Prop) (h : qX9_seed S a1 Q) : Met l yX9_seed wsX9_seed rmX9_seed (gPc [.ref (A 0), .int a1] sz D vwCl (tY Y) (wC Y A S)) (va_Qi Q (fun S' t => gH D vwCl (tY Y) (wC Y A S') t) (gF A 65 sz)) 0 0 (gF A 65 sz) := by
  refine gMet_i (cc := cX9_seed) (maxL := 3) (by decide +kernel) rfl (Nat.le_of_ble_eq_true rfl) (fun p e s m args below meth c Z H locs hx hb hml hts hown hK hP hS hret ls hl => ?_)
  have hown : s.vm.findClass RX9 = some m.cls := hown
  have hl : lv_has ls 3 [(0, .ref (A 0)), (1, .int a1)] := hl
  have hD : ∀ S0 : gS, va_D (gF A 65 s.heap.size) (wC Y A S0) := fun S0 => dC hI S0 (fun k hk => gF_in hk)
  have k0 : ∀ w ∈ u_ws RX9 TX9 15, w ∈ wsX9_seed := by decide +kernel
  have k1 := hts (.fieldLink RX9 13 "CoastWatch" "seed" "I") (by decide +kernel)
  refine lv_aload_n hx hb dX9_seed_0 rfl (lv_at hl 0 rfl) ?_
  refine va_get (ci := 9) (v := .int (gi S 1)) (C := RX9) (T := TX9) (N := 15) hx hb hts k0 hown hK hP 0 (aC0 Y A S) rfl 1 (by decide) k1 (fun _ h9 => h9) rfl dX9_seed_1 ?_
  refine lv_topi (fun x1 ex1 => ?_)
  have h := h x1 ex1
  refine lv_istore_n (lv' := [(2, .int x1), (0, .ref (A 0)), (1, .int a1)]) hx hb dX9_seed_4 rfl hl (by decide) rfl (fun ls hl => ?_)
  refine lv_aload_n hx hb dX9_seed_5 rfl (lv_at hl 1 rfl) ?_
  refine lv_iload_n hx hb dX9_seed_6 rfl (lv_at hl 2 rfl) ?_
  obtain ⟨S2, eS2⟩ : ∃ z : gS, z = sI S 1 a1 := ⟨_, rfl⟩
  have h := h S2 eS2
  refine va_put (ci := 9) (v := .int a1) (ty := .int) (C := RX9) (T := TX9) (N := 15) hx hb hts k0 tyX9 tyX9_ok nmX9 hown hK hP (hD S) hS 0 (aC0 Y A S) rfl 1 (by decide) k1 (fun _ h9 => h9) rfl rfl rfl rfl (by simp) dX9_seed_7 (fun H locs hP _ hS => ?_)
  have hP := pC0_1 eS2 hP
  refine lv_iload_n hx hb dX9_seed_10 rfl (lv_at hl 0 rfl) ?_
  exact hret _ _ _ _ _ _ dX9_seed_11 h hP hS

def qX9_isCove (S : gS) (a0 : Int32) (Q : Int32 → gS → Prop) : Prop :=
  (a0 < 0 → (Q (0 : Int32) S)) ∧ (¬ a0 < 0 → (((6 : Int32) ≤ a0 → (Q (0 : Int32) S)) ∧ (¬ (6 : Int32) ≤ a0 → (Q (1 : Int32) S))))
abbrev rmX9_isCove : Room := { frames := 0, cells := 0, slots := 0, locals := 0 }
set_option maxHeartbeats 4000000 in
set_option maxRecDepth 100000 in
theorem kX9_isCove (l : Launch) (D : va_G) (Y : Nat → ClassId) (A : Nat → Nat) (hI : iC A) (sz : Nat) (S : gS) (a0 : Int32) (Q : Int32 → gS → Prop) (h : qX9_isCove S a0 Q) : Met l yX9_isCove wsX9_isCove rmX9_isCove (gPc [.int a0] sz D vwCl (tY Y) (wC Y A S)) (va_Qi Q (fun S' t => gH D vwCl (tY Y) (wC Y A S') t) (gF A 65 sz)) 0 0 (gF A 65 sz) := by
  refine gMet_z (cc := cX9_isCove) (maxL := 1) (by decide +kernel) rfl (Nat.le_of_ble_eq_true rfl) (fun p e s m args below meth c Z H locs hx hb hml hts hown hK hP hS hret ls hl => ?_)
  have hown : s.vm.findClass RX9 = some m.cls := hown
  have hl : lv_has ls 1 [(0, .int a0)] := hl
  have hD : ∀ S0 : gS, va_D (gF A 65 s.heap.size) (wC Y A S0) := fun S0 => dC hI S0 (fun k hk => gF_in hk)
  refine lv_iload_n hx hb dX9_isCove_0 rfl (lv_at hl 0 rfl) ?_
  refine lv_if_lt (tgt := 14) hx hb dX9_isCove_1 (by decide) (fun c1 => ?_) (fun c1 => ?_)
  · have h := h.1 c1
    refine lv_iconst (v := (0 : Int32)) hx hb dX9_isCove_14 (by decide) ?_
    exact hret _ _ _ _ _ _ dX9_isCove_15 rfl h hP hS
  · have h := h.2 c1
    refine lv_iload_n hx hb dX9_isCove_4 rfl (lv_at hl 0 rfl) ?_
    refine lv_bipush (v := (6 : Int32)) hx hb dX9_isCove_5 (by decide) ?_
    refine lv_icmp_ge (tgt := 14) hx hb dX9_isCove_7 (by decide) (fun c2 => ?_) (fun c2 => ?_)
    · have h := h.1 c2
      refine lv_iconst (v := (0 : Int32)) hx hb dX9_isCove_14 (by decide) ?_
      exact hret _ _ _ _ _ _ dX9_isCove_15 rfl h hP hS
    · have h := h.2 c2
      refine lv_iconst (v := (1 : Int32)) hx hb dX9_isCove_10 (by decide) ?_
      refine lv_goto (tgt := 15) hx hb dX9_isCove_11 (by decide) ?_
      exact hret _ _ _ _ _ _ dX9_isCove_15 rfl h hP hS

def qX9_refuse (S : gS) (a1 : Int32) (Q : Int32 → gS → Prop) : Prop :=
  ∀ x1 : Int32, x1 = (-a1) → ((x1 < 0 → (Q a1 S)) ∧ (¬ x1 < 0 → (((8 : Int32) ≤ x1 → (Q a1 S)) ∧ (¬ (8 : Int32) ≤ x1 → (vp_in x1 8 ∧ (∀ S5 : gS, S5 = sA S 0 (upd (ga S 0) x1.toNatClampNeg ((ga S 0 x1.toNatClampNeg) + (1 : Int32))) → (Q a1 S5)))))))
abbrev rmX9_refuse : Room := { frames := 0, cells := 0, slots := 0, locals := 0 }
set_option maxHeartbeats 4000000 in
set_option maxRecDepth 100000 in
theorem kX9_refuse (l : Launch) (D : va_G) (Y : Nat → ClassId) (A : Nat → Nat) (hI : iC A) (sz : Nat) (S : gS) (a1 : Int32) (Q : Int32 → gS → Prop) (h : qX9_refuse S a1 Q) : Met l yX9_refuse wsX9_refuse rmX9_refuse (gPc [.ref (A 0), .int a1] sz D vwCl (tY Y) (wC Y A S)) (va_Qi Q (fun S' t => gH D vwCl (tY Y) (wC Y A S') t) (gF A 65 sz)) 0 0 (gF A 65 sz) := by
  refine gMet_i (cc := cX9_refuse) (maxL := 3) (by decide +kernel) rfl (Nat.le_of_ble_eq_true rfl) (fun p e s m args below meth c Z H locs hx hb hml hts hown hK hP hS hret ls hl => ?_)
  have hown : s.vm.findClass RX9 = some m.cls := hown
  have hl : lv_has ls 3 [(0, .ref (A 0)), (1, .int a1)] := hl
  have hD : ∀ S0 : gS, va_D (gF A 65 s.heap.size) (wC Y A S0) := fun S0 => dC hI S0 (fun k hk => gF_in hk)
  have k0 : ∀ w ∈ u_ws RX9 TX9 15, w ∈ wsX9_refuse := by decide +kernel
  have k1 := hts (.fieldLink RX9 22 "CoastWatch" "refusals" "[I") (by decide +kernel)
  refine lv_iload_n hx hb dX9_refuse_0 rfl (lv_at hl 1 rfl) ?_
  refine lv_ineg hx hb dX9_refuse_1 ?_
  refine lv_topi (fun x1 ex1 => ?_)
  have h := h x1 ex1
  refine lv_istore_n (lv' := [(2, .int x1), (0, .ref (A 0)), (1, .int a1)]) hx hb dX9_refuse_2 rfl hl (by decide) rfl (fun ls hl => ?_)
  refine lv_iload_n hx hb dX9_refuse_3 rfl (lv_at hl 0 rfl) ?_
  refine lv_if_lt (tgt := 26) hx hb dX9_refuse_4 (by decide) (fun c2 => ?_) (fun c2 => ?_)
  · have h := h.1 c2
    refine lv_iload_n hx hb dX9_refuse_26 rfl (lv_at hl 2 rfl) ?_
    exact hret _ _ _ _ _ _ dX9_refuse_27 h hP hS
  · have h := h.2 c2
    refine lv_iload_n hx hb dX9_refuse_7 rfl (lv_at hl 0 rfl) ?_
    refine lv_aload_n hx hb dX9_refuse_8 rfl (lv_at hl 1 rfl) ?_
    refine va_get (ci := 9) (v := .ref (A 10)) (C := RX9) (T := TX9) (N := 15) hx hb hts k0 hown hK hP 0 (aC0 Y A S) rfl 4 (by decide) k1 (fun _ h9 => h9) rfl dX9_refuse_9 ?_
    refine va_alen (v := (8 : Int32)) hx hb hK hP 10 0 (aC10 Y A S) rfl rfl dX9_refuse_12 ?_
    refine lv_icmp_ge (tgt := 26) hx hb dX9_refuse_13 (by decide) (fun c3 => ?_) (fun c3 => ?_)
    · have h := h.1 c3
      refine lv_iload_n hx hb dX9_refuse_26 rfl (lv_at hl 2 rfl) ?_
      exact hret _ _ _ _ _ _ dX9_refuse_27 h hP hS
    · have h := h.2 c3
      refine lv_aload_n hx hb dX9_refuse_16 rfl (lv_at hl 1 rfl) ?_
      refine va_get (ci := 9) (v := .ref (A 10)) (C := RX9) (T := TX9) (N := 15) hx hb hts k0 hown hK hP 0 (aC0 Y A S) rfl 4 (by decide) k1 (fun _ h9 => h9) rfl dX9_refuse_17 ?_
      refine lv_iload_n hx hb dX9_refuse_20 rfl (lv_at hl 0 rfl) ?_
      refine lv_dup2_11 hx hb dX9_refuse_21 rfl rfl ?_
      have v_4 := h.1
      have h := h.2
      refine va_iald hx hb hK hP 10 0 (aC10 Y A S) rfl v_4 dX9_refuse_22 ?_
      refine lv_iconst (v := (1 : Int32)) hx hb dX9_refuse_23 (by decide) ?_
      refine lv_iadd hx hb dX9_refuse_24 ?_
      obtain ⟨S5, eS5⟩ : ∃ z : gS, z = sA S 0 (upd (ga S 0) x1.toNatClampNeg ((ga S 0 x1.toNatClampNeg) + (1 : Int32))) := ⟨_, rfl⟩
      refine va_iast hx hb hK hP (hD S) hS 10 0 (aC10 Y A S) rfl v_4 dX9_refuse_25 (fun H locs hP _ hS => ?_)
      have hP := uC10 eS5 hP
      have h := h S5 eS5
      refine lv_iload_n hx hb dX9_refuse_26 rfl (lv_at hl 2 rfl) ?_
      exact hret _ _ _ _ _ _ dX9_refuse_27 h hP hS

def qX9_cove (S : gS) (a1 : Int32) (a2 : Int32) (a3 : Int32) (Q : Int32 → gS → Prop) : Prop :=
  qX9_isCove S a1 (fun r2 S1 => (r2 = 0 → (qX9_refuse S1 (-1 : Int32) (fun r20 S19 => Q r20 S19))) ∧ (¬ r2 = 0 → ((a2 < 0 → (qX9_refuse S1 (-4 : Int32) (fun r6 S5 => Q r6 S5))) ∧ (¬ a2 < 0 → (((1 : Int32) ≤ a3 → (((9 : Int32) < a2 → (qX9_refuse S1 (-6 : Int32) (fun r10 S9 => Q r10 S9))) ∧ (¬ (9 : Int32) < a2 → ((a3 ≤ (99 : Int32) → (vp_in a1 6 ∧ (∀ S12 : gS, S12 = sA S1 7 (upd (ga S1 7) a1.toNatClampNeg a2) → (∀ S14 : gS, S14 = sA S12 8 (upd (ga S12 8) a1.toNatClampNeg a3) → (Q (1 : Int32) S14))))) ∧ (¬ a3 ≤ (99 : Int32) → (qX9_refuse S1 (-6 : Int32) (fun r16 S15 => Q r16 S15))))))) ∧ (¬ (1 : Int32) ≤ a3 → (qX9_refuse S1 (-4 : Int32) (fun r18 S17 => Q r18 S17))))))))
abbrev rmX9_cove : Room := { frames := 1, cells := 0, slots := 0, locals := 22 }
set_option maxHeartbeats 4000000 in
set_option maxRecDepth 100000 in
theorem kX9_cove (l : Launch) (D : va_G) (Y : Nat → ClassId) (A : Nat → Nat) (hI : iC A) (sz : Nat) (S : gS) (a1 : Int32) (a2 : Int32) (a3 : Int32) (Q : Int32 → gS → Prop) (h : qX9_cove S a1 a2 a3 Q) : Met l yX9_cove wsX9_cove rmX9_cove (gPc [.ref (A 0), .int a1, .int a2, .int a3] sz D vwCl (tY Y) (wC Y A S)) (va_Qi Q (fun S' t => gH D vwCl (tY Y) (wC Y A S') t) (gF A 65 sz)) 0 0 (gF A 65 sz) := by
  refine gMet_i (cc := cX9_cove) (maxL := 4) (by decide +kernel) rfl (Nat.le_of_ble_eq_true rfl) (fun p e s m args below meth c Z H locs hx hb hml hts hown hK hP hS hret ls hl => ?_)
  have hown : s.vm.findClass RX9 = some m.cls := hown
  have hl : lv_has ls 4 [(0, .ref (A 0)), (1, .int a1), (2, .int a2), (3, .int a3)] := hl
  have hD : ∀ S0 : gS, va_D (gF A 65 s.heap.size) (wC Y A S0) := fun S0 => dC hI S0 (fun k hk => gF_in hk)
  have k0 : ∀ w ∈ u_ws RX9 TX9 15, w ∈ wsX9_cove := by decide +kernel
  have k1 := hts (.fieldLink RX9 39 "CoastWatch" "coves" "LCoastWatch$Coves;") (by decide +kernel)
  have k2 : ∀ w ∈ u_ws RX1 TX1 7, w ∈ wsX9_cove := by decide +kernel
  have k3 := hts (.fieldLink RX9 100 "CoastWatch$Coves" "depth" "[I") (by decide +kernel)
  have k4 := hts (.fieldLink RX9 103 "CoastWatch$Coves" "worth" "[I") (by decide +kernel)
  refine lv_iload_n hx hb dX9_cove_0 rfl (lv_at hl 1 rfl) ?_
  refine gSi (As := [.int a1]) (rest := []) ⟨hx, hb, hml, hown, hts⟩ (kX9_isCove l D Y A hI H.size S a1 _ h) (va_cwS 1 hts gX9_cove_X9_isCove rfl rfl rfl (by decide +kernel) ⟨Nat.le_of_ble_eq_true rfl, Nat.le_of_ble_eq_true rfl⟩) hK hP hS (gF_le hS.1) rfl rfl hl.1 (Nat.le_of_ble_eq_true rfl) dX9_cove_1 ⟨Nat.zero_le _, Nat.zero_le _⟩ ?_
  intro r2 S1 H locs h hP hS
  refine lv_if_ne (tgt := 13) hx hb dX9_cove_4 (by decide) (fun c3 => ?_) (fun c3 => ?_)
  · have h := h.2 c3
    refine lv_iload_n hx hb dX9_cove_13 rfl (lv_at hl 2 rfl) ?_
    refine lv_if_lt (tgt := 22) hx hb dX9_cove_14 (by decide) (fun c4 => ?_) (fun c4 => ?_)
    · have h := h.1 c4
      refine lv_aload_n hx hb dX9_cove_22 rfl (lv_at hl 0 rfl) ?_
      refine lv_bipush (v := (-4 : Int32)) hx hb dX9_cove_23 (by decide) ?_
      refine gVi (As := [.int (-4 : Int32)]) (rest := []) ⟨hx, hb, hml, hown, hts⟩ (kX9_refuse l D Y A hI H.size S1 (-4 : Int32) _ h) (cwV 1 hts gX9_cove_X9_refuse rfl rfl rfl (by decide +kernel) ⟨Nat.le_of_ble_eq_true rfl, Nat.le_of_ble_eq_true rfl⟩) hK hP hS (gF_le hS.1) (aC0 Y A S1) (show vwCl[9]? = some (RX9, TX9, 15) from rfl) rfl rfl hl.1 (Nat.le_of_ble_eq_true rfl) dX9_cove_25 ⟨Nat.zero_le _, Nat.zero_le _⟩ ?_
      intro r6 S5 H locs h hP hS
      exact hret _ _ _ _ _ _ dX9_cove_28 h hP hS
    · have h := h.2 c4
      refine lv_iload_n hx hb dX9_cove_17 rfl (lv_at hl 3 rfl) ?_
      refine lv_iconst (v := (1 : Int32)) hx hb dX9_cove_18 (by decide) ?_
      refine lv_icmp_ge (tgt := 29) hx hb dX9_cove_19 (by decide) (fun c7 => ?_) (fun c7 => ?_)
      · have h := h.1 c7
        refine lv_iload_n hx hb dX9_cove_29 rfl (lv_at hl 2 rfl) ?_
        refine lv_bipush (v := (9 : Int32)) hx hb dX9_cove_30 (by decide) ?_
        refine lv_icmp_gt (tgt := 41) hx hb dX9_cove_32 (by decide) (fun c8 => ?_) (fun c8 => ?_)
        · have h := h.1 c8
          refine lv_aload_n hx hb dX9_cove_41 rfl (lv_at hl 0 rfl) ?_
          refine lv_bipush (v := (-6 : Int32)) hx hb dX9_cove_42 (by decide) ?_
          refine gVi (As := [.int (-6 : Int32)]) (rest := []) ⟨hx, hb, hml, hown, hts⟩ (kX9_refuse l D Y A hI H.size S1 (-6 : Int32) _ h) (cwV 1 hts gX9_cove_X9_refuse rfl rfl rfl (by decide +kernel) ⟨Nat.le_of_ble_eq_true rfl, Nat.le_of_ble_eq_true rfl⟩) hK hP hS (gF_le hS.1) (aC0 Y A S1) (show vwCl[9]? = some (RX9, TX9, 15) from rfl) rfl rfl hl.1 (Nat.le_of_ble_eq_true rfl) dX9_cove_44 ⟨Nat.zero_le _, Nat.zero_le _⟩ ?_
          intro r10 S9 H locs h hP hS
          exact hret _ _ _ _ _ _ dX9_cove_47 h hP hS
        · have h := h.2 c8
          refine lv_iload_n hx hb dX9_cove_35 rfl (lv_at hl 3 rfl) ?_
          refine lv_bipush (v := (99 : Int32)) hx hb dX9_cove_36 (by decide) ?_
          refine lv_icmp_le (tgt := 48) hx hb dX9_cove_38 (by decide) (fun c11 => ?_) (fun c11 => ?_)
          · have h := h.1 c11
            refine lv_aload_n hx hb dX9_cove_48 rfl (lv_at hl 0 rfl) ?_
            refine va_get (ci := 9) (v := .ref (A 2)) (C := RX9) (T := TX9) (N := 15) hx hb hts k0 hown hK hP 0 (aC0 Y A S1) rfl 7 (by decide) k1 (fun _ h9 => h9) rfl dX9_cove_49 ?_
            refine va_get (ci := 1) (v := .ref (A 18)) (C := RX1) (T := TX1) (N := 7) hx hb hts k2 hown hK hP 2 (aC2 Y A S1) rfl 0 (by decide) k3 (fun _ h9 => h9) rfl dX9_cove_52 ?_
            refine lv_iload_n hx hb dX9_cove_55 rfl (lv_at hl 1 rfl) ?_
            refine lv_iload_n hx hb dX9_cove_56 rfl (lv_at hl 2 rfl) ?_
            have v_13 := h.1
            have h := h.2
            obtain ⟨S12, eS12⟩ : ∃ z : gS, z = sA S1 7 (upd (ga S1 7) a1.toNatClampNeg a2) := ⟨_, rfl⟩
            refine va_iast hx hb hK hP (hD S1) hS 18 0 (aC18 Y A S1) rfl v_13 dX9_cove_57 (fun H locs hP _ hS => ?_)
            have hP := uC18 eS12 hP
            have h := h S12 eS12
            refine lv_aload_n hx hb dX9_cove_58 rfl (lv_at hl 0 rfl) ?_
            refine va_get (ci := 9) (v := .ref (A 2)) (C := RX9) (T := TX9) (N := 15) hx hb hts k0 hown hK hP 0 (aC0 Y A S12) rfl 7 (by decide) k1 (fun _ h9 => h9) rfl dX9_cove_59 ?_
            refine va_get (ci := 1) (v := .ref (A 19)) (C := RX1) (T := TX1) (N := 7) hx hb hts k2 hown hK hP 2 (aC2 Y A S12) rfl 1 (by decide) k4 (fun _ h9 => h9) rfl dX9_cove_62 ?_
            refine lv_iload_n hx hb dX9_cove_65 rfl (lv_at hl 1 rfl) ?_
            refine lv_iload_n hx hb dX9_cove_66 rfl (lv_at hl 3 rfl) ?_
            obtain ⟨S14, eS14⟩ : ∃ z : gS, z = sA S12 8 (upd (ga S12 8) a1.toNatClampNeg a3) := ⟨_, rfl⟩
            refine va_iast hx hb hK hP (hD S12) hS 19 0 (aC19 Y A S12) rfl v_13 dX9_cove_67 (fun H locs hP _ hS => ?_)
            have hP := uC19 eS14 hP
            have h := h S14 eS14
            refine lv_iconst (v := (1 : Int32)) hx hb dX9_cove_68 (by decide) ?_
            exact hret _ _ _ _ _ _ dX9_cove_69 h hP hS
          · have h := h.2 c11
            refine lv_aload_n hx hb dX9_cove_41 rfl (lv_at hl 0 rfl) ?_
            refine lv_bipush (v := (-6 : Int32)) hx hb dX9_cove_42 (by decide) ?_
            refine gVi (As := [.int (-6 : Int32)]) (rest := []) ⟨hx, hb, hml, hown, hts⟩ (kX9_refuse l D Y A hI H.size S1 (-6 : Int32) _ h) (cwV 1 hts gX9_cove_X9_refuse rfl rfl rfl (by decide +kernel) ⟨Nat.le_of_ble_eq_true rfl, Nat.le_of_ble_eq_true rfl⟩) hK hP hS (gF_le hS.1) (aC0 Y A S1) (show vwCl[9]? = some (RX9, TX9, 15) from rfl) rfl rfl hl.1 (Nat.le_of_ble_eq_true rfl) dX9_cove_44 ⟨Nat.zero_le _, Nat.zero_le _⟩ ?_
            intro r16 S15 H locs h hP hS
            exact hret _ _ _ _ _ _ dX9_cove_47 h hP hS
      · have h := h.2 c7
        refine lv_aload_n hx hb dX9_cove_22 rfl (lv_at hl 0 rfl) ?_
        refine lv_bipush (v := (-4 : Int32)) hx hb dX9_cove_23 (by decide) ?_
        refine gVi (As := [.int (-4 : Int32)]) (rest := []) ⟨hx, hb, hml, hown, hts⟩ (kX9_refuse l D Y A hI H.size S1 (-4 : Int32) _ h) (cwV 1 hts gX9_cove_X9_refuse rfl rfl rfl (by decide +kernel) ⟨Nat.le_of_ble_eq_true rfl, Nat.le_of_ble_eq_true rfl⟩) hK hP hS (gF_le hS.1) (aC0 Y A S1) (show vwCl[9]? = some (RX9, TX9, 15) from rfl) rfl rfl hl.1 (Nat.le_of_ble_eq_true rfl) dX9_cove_25 ⟨Nat.zero_le _, Nat.zero_le _⟩ ?_
        intro r18 S17 H locs h hP hS
        exact hret _ _ _ _ _ _ dX9_cove_28 h hP hS
  · have h := h.1 c3
    refine lv_aload_n hx hb dX9_cove_7 rfl (lv_at hl 0 rfl) ?_
    refine lv_iconst (v := (-1 : Int32)) hx hb dX9_cove_8 (by decide) ?_
    refine gVi (As := [.int (-1 : Int32)]) (rest := []) ⟨hx, hb, hml, hown, hts⟩ (kX9_refuse l D Y A hI H.size S1 (-1 : Int32) _ h) (cwV 1 hts gX9_cove_X9_refuse rfl rfl rfl (by decide +kernel) ⟨Nat.le_of_ble_eq_true rfl, Nat.le_of_ble_eq_true rfl⟩) hK hP hS (gF_le hS.1) (aC0 Y A S1) (show vwCl[9]? = some (RX9, TX9, 15) from rfl) rfl rfl hl.1 (Nat.le_of_ble_eq_true rfl) dX9_cove_9 ⟨Nat.zero_le _, Nat.zero_le _⟩ ?_
    intro r20 S19 H locs h hP hS
    exact hret _ _ _ _ _ _ dX9_cove_12 h hP hS

def qX9_isTable (S : gS) (a0 : Int32) (Q : Int32 → gS → Prop) : Prop :=
  (a0 < 0 → (Q (0 : Int32) S)) ∧ (¬ a0 < 0 → (((4 : Int32) ≤ a0 → (Q (0 : Int32) S)) ∧ (¬ (4 : Int32) ≤ a0 → (Q (1 : Int32) S))))
abbrev rmX9_isTable : Room := { frames := 0, cells := 0, slots := 0, locals := 0 }
set_option maxHeartbeats 4000000 in
set_option maxRecDepth 100000 in
theorem kX9_isTable (l : Launch) (D : va_G) (Y : Nat → ClassId) (A : Nat → Nat) (hI : iC A) (sz : Nat) (S : gS) (a0 : Int32) (Q : Int32 → gS → Prop) (h : qX9_isTable S a0 Q) : Met l yX9_isTable wsX9_isTable rmX9_isTable (gPc [.int a0] sz D vwCl (tY Y) (wC Y A S)) (va_Qi Q (fun S' t => gH D vwCl (tY Y) (wC Y A S') t) (gF A 65 sz)) 0 0 (gF A 65 sz) := by
  refine gMet_z (cc := cX9_isTable) (maxL := 1) (by decide +kernel) rfl (Nat.le_of_ble_eq_true rfl) (fun p e s m args below meth c Z H locs hx hb hml hts hown hK hP hS hret ls hl => ?_)
  have hown : s.vm.findClass RX9 = some m.cls := hown
  have hl : lv_has ls 1 [(0, .int a0)] := hl
  have hD : ∀ S0 : gS, va_D (gF A 65 s.heap.size) (wC Y A S0) := fun S0 => dC hI S0 (fun k hk => gF_in hk)
  refine lv_iload_n hx hb dX9_isTable_0 rfl (lv_at hl 0 rfl) ?_
  refine lv_if_lt (tgt := 13) hx hb dX9_isTable_1 (by decide) (fun c1 => ?_) (fun c1 => ?_)
  · have h := h.1 c1
    refine lv_iconst (v := (0 : Int32)) hx hb dX9_isTable_13 (by decide) ?_
    exact hret _ _ _ _ _ _ dX9_isTable_14 rfl h hP hS
  · have h := h.2 c1
    refine lv_iload_n hx hb dX9_isTable_4 rfl (lv_at hl 0 rfl) ?_
    refine lv_iconst (v := (4 : Int32)) hx hb dX9_isTable_5 (by decide) ?_
    refine lv_icmp_ge (tgt := 13) hx hb dX9_isTable_6 (by decide) (fun c2 => ?_) (fun c2 => ?_)
    · have h := h.1 c2
      refine lv_iconst (v := (0 : Int32)) hx hb dX9_isTable_13 (by decide) ?_
      exact hret _ _ _ _ _ _ dX9_isTable_14 rfl h hP hS
    · have h := h.2 c2
      refine lv_iconst (v := (1 : Int32)) hx hb dX9_isTable_9 (by decide) ?_
      refine lv_goto (tgt := 14) hx hb dX9_isTable_10 (by decide) ?_
      exact hret _ _ _ _ _ _ dX9_isTable_14 rfl h hP hS

def qX9_row (S : gS) (a1 : Int32) (a2 : Int32) (Q : Int32 → gS → Prop) : Prop :=
  qX9_isTable S a1 (fun r2 S1 => (r2 = 0 → (qX9_refuse S1 (-1 : Int32) (fun r12 S11 => Q r12 S11))) ∧ (¬ r2 = 0 → ((0 ≤ a2 → ((a2 ≤ (30 : Int32) → (qX7_begin S1 a1 a2 (fun S6 => Q a2 S6))) ∧ (¬ a2 ≤ (30 : Int32) → (qX9_refuse S1 (-6 : Int32) (fun r8 S7 => Q r8 S7))))) ∧ (¬ 0 ≤ a2 → (qX9_refuse S1 (-4 : Int32) (fun r10 S9 => Q r10 S9))))))
abbrev rmX9_row : Room := { frames := 1, cells := 0, slots := 0, locals := 23 }
set_option maxHeartbeats 4000000 in
set_option maxRecDepth 100000 in
theorem kX9_row (l : Launch) (D : va_G) (Y : Nat → ClassId) (A : Nat → Nat) (hI : iC A) (sz : Nat) (S : gS) (a1 : Int32) (a2 : Int32) (Q : Int32 → gS → Prop) (h : qX9_row S a1 a2 Q) : Met l yX9_row wsX9_row rmX9_row (gPc [.ref (A 0), .int a1, .int a2] sz D vwCl (tY Y) (wC Y A S)) (va_Qi Q (fun S' t => gH D vwCl (tY Y) (wC Y A S') t) (gF A 65 sz)) 0 0 (gF A 65 sz) := by
  refine gMet_i (cc := cX9_row) (maxL := 3) (by decide +kernel) rfl (Nat.le_of_ble_eq_true rfl) (fun p e s m args below meth c Z H locs hx hb hml hts hown hK hP hS hret ls hl => ?_)
  have hown : s.vm.findClass RX9 = some m.cls := hown
  have hl : lv_has ls 3 [(0, .ref (A 0)), (1, .int a1), (2, .int a2)] := hl
  have hD : ∀ S0 : gS, va_D (gF A 65 s.heap.size) (wC Y A S0) := fun S0 => dC hI S0 (fun k hk => gF_in hk)
  have k0 : ∀ w ∈ u_ws RX9 TX9 15, w ∈ wsX9_row := by decide +kernel
  have k1 := hts (.fieldLink RX9 32 "CoastWatch" "tables" "LCoastWatch$Tables;") (by decide +kernel)
  refine lv_iload_n hx hb dX9_row_0 rfl (lv_at hl 1 rfl) ?_
  refine gSi (As := [.int a1]) (rest := []) ⟨hx, hb, hml, hown, hts⟩ (kX9_isTable l D Y A hI H.size S a1 _ h) (va_cwS 1 hts gX9_row_X9_isTable rfl rfl rfl (by decide +kernel) ⟨Nat.le_of_ble_eq_true rfl, Nat.le_of_ble_eq_true rfl⟩) hK hP hS (gF_le hS.1) rfl rfl hl.1 (Nat.le_of_ble_eq_true rfl) dX9_row_1 ⟨Nat.zero_le _, Nat.zero_le _⟩ ?_
  intro r2 S1 H locs h hP hS
  refine lv_if_ne (tgt := 13) hx hb dX9_row_4 (by decide) (fun c3 => ?_) (fun c3 => ?_)
  · have h := h.2 c3
    refine lv_iload_n hx hb dX9_row_13 rfl (lv_at hl 2 rfl) ?_
    refine lv_if_ge (tgt := 24) hx hb dX9_row_14 (by decide) (fun c4 => ?_) (fun c4 => ?_)
    · have h := h.1 c4
      refine lv_iload_n hx hb dX9_row_24 rfl (lv_at hl 2 rfl) ?_
      refine lv_bipush (v := (30 : Int32)) hx hb dX9_row_25 (by decide) ?_
      refine lv_icmp_le (tgt := 37) hx hb dX9_row_27 (by decide) (fun c5 => ?_) (fun c5 => ?_)
      · have h := h.1 c5
        refine lv_aload_n hx hb dX9_row_37 rfl (lv_at hl 0 rfl) ?_
        refine va_get (ci := 9) (v := .ref (A 1)) (C := RX9) (T := TX9) (N := 15) hx hb hts k0 hown hK hP 0 (aC0 Y A S1) rfl 6 (by decide) k1 (fun _ h9 => h9) rfl dX9_row_38 ?_
        refine lv_iload_n hx hb dX9_row_41 rfl (lv_at hl 1 rfl) ?_
        refine lv_iload_n hx hb dX9_row_42 rfl (lv_at hl 2 rfl) ?_
        refine gVv (As := [.int a1, .int a2]) (rest := []) ⟨hx, hb, hml, hown, hts⟩ (kX7_begin l D Y A hI H.size S1 a1 a2 _ h) (cwV 2 hts gX9_row_X7_begin rfl rfl rfl (by decide +kernel) ⟨Nat.le_of_ble_eq_true rfl, Nat.le_of_ble_eq_true rfl⟩) hK hP hS (gF_le hS.1) (aC1 Y A S1) (show vwCl[7]? = some (RX7, TX7, 2) from rfl) rfl rfl hl.1 (Nat.le_of_ble_eq_true rfl) dX9_row_43 ⟨Nat.zero_le _, Nat.zero_le _⟩ ?_
        intro S6 H locs h hP hS
        refine lv_iload_n hx hb dX9_row_46 rfl (lv_at hl 2 rfl) ?_
        exact hret _ _ _ _ _ _ dX9_row_47 h hP hS
      · have h := h.2 c5
        refine lv_aload_n hx hb dX9_row_30 rfl (lv_at hl 0 rfl) ?_
        refine lv_bipush (v := (-6 : Int32)) hx hb dX9_row_31 (by decide) ?_
        refine gVi (As := [.int (-6 : Int32)]) (rest := []) ⟨hx, hb, hml, hown, hts⟩ (kX9_refuse l D Y A hI H.size S1 (-6 : Int32) _ h) (cwV 1 hts gX9_row_X9_refuse rfl rfl rfl (by decide +kernel) ⟨Nat.le_of_ble_eq_true rfl, Nat.le_of_ble_eq_true rfl⟩) hK hP hS (gF_le hS.1) (aC0 Y A S1) (show vwCl[9]? = some (RX9, TX9, 15) from rfl) rfl rfl hl.1 (Nat.le_of_ble_eq_true rfl) dX9_row_33 ⟨Nat.zero_le _, Nat.zero_le _⟩ ?_
        intro r8 S7 H locs h hP hS
        exact hret _ _ _ _ _ _ dX9_row_36 h hP hS
    · have h := h.2 c4
      refine lv_aload_n hx hb dX9_row_17 rfl (lv_at hl 0 rfl) ?_
      refine lv_bipush (v := (-4 : Int32)) hx hb dX9_row_18 (by decide) ?_
      refine gVi (As := [.int (-4 : Int32)]) (rest := []) ⟨hx, hb, hml, hown, hts⟩ (kX9_refuse l D Y A hI H.size S1 (-4 : Int32) _ h) (cwV 1 hts gX9_row_X9_refuse rfl rfl rfl (by decide +kernel) ⟨Nat.le_of_ble_eq_true rfl, Nat.le_of_ble_eq_true rfl⟩) hK hP hS (gF_le hS.1) (aC0 Y A S1) (show vwCl[9]? = some (RX9, TX9, 15) from rfl) rfl rfl hl.1 (Nat.le_of_ble_eq_true rfl) dX9_row_20 ⟨Nat.zero_le _, Nat.zero_le _⟩ ?_
      intro r10 S9 H locs h hP hS
      exact hret _ _ _ _ _ _ dX9_row_23 h hP hS
  · have h := h.1 c3
    refine lv_aload_n hx hb dX9_row_7 rfl (lv_at hl 0 rfl) ?_
    refine lv_iconst (v := (-1 : Int32)) hx hb dX9_row_8 (by decide) ?_
    refine gVi (As := [.int (-1 : Int32)]) (rest := []) ⟨hx, hb, hml, hown, hts⟩ (kX9_refuse l D Y A hI H.size S1 (-1 : Int32) _ h) (cwV 1 hts gX9_row_X9_refuse rfl rfl rfl (by decide +kernel) ⟨Nat.le_of_ble_eq_true rfl, Nat.le_of_ble_eq_true rfl⟩) hK hP hS (gF_le hS.1) (aC0 Y A S1) (show vwCl[9]? = some (RX9, TX9, 15) from rfl) rfl rfl hl.1 (Nat.le_of_ble_eq_true rfl) dX9_row_9 ⟨Nat.zero_le _, Nat.zero_le _⟩ ?_
    intro r12 S11 H locs h hP hS
    exact hret _ _ _ _ _ _ dX9_row_12 h hP hS

def qX9_lose (S : gS) (a1 : Int32) (Q : Int32 → gS → Prop) : Prop :=
  qX9_isTable S a1 (fun r2 S1 => (r2 = 0 → (qX9_refuse S1 (-1 : Int32) (fun r9 S8 => Q r9 S8))) ∧ (¬ r2 = 0 → (qX7_isMissing S1 a1 (fun r5 S4 => (r5 = 0 → (qX7_forget S4 a1 (fun S7 => Q (1 : Int32) S7))) ∧ (¬ r5 = 0 → (Q (0 : Int32) S4))))))
abbrev rmX9_lose : Room := { frames := 1, cells := 0, slots := 0, locals := 22 }
set_option maxHeartbeats 4000000 in
set_option maxRecDepth 100000 in
theorem kX9_lose (l : Launch) (D : va_G) (Y : Nat → ClassId) (A : Nat → Nat) (hI : iC A) (sz : Nat) (S : gS) (a1 : Int32) (Q : Int32 → gS → Prop) (h : qX9_lose S a1 Q) : Met l yX9_lose wsX9_lose rmX9_lose (gPc [.ref (A 0), .int a1] sz D vwCl (tY Y) (wC Y A S)) (va_Qi Q (fun S' t => gH D vwCl (tY Y) (wC Y A S') t) (gF A 65 sz)) 0 0 (gF A 65 sz) := by
  refine gMet_i (cc := cX9_lose) (maxL := 2) (by decide +kernel) rfl (Nat.le_of_ble_eq_true rfl) (fun p e s m args below meth c Z H locs hx hb hml hts hown hK hP hS hret ls hl => ?_)
  have hown : s.vm.findClass RX9 = some m.cls := hown
  have hl : lv_has ls 2 [(0, .ref (A 0)), (1, .int a1)] := hl
  have hD : ∀ S0 : gS, va_D (gF A 65 s.heap.size) (wC Y A S0) := fun S0 => dC hI S0 (fun k hk => gF_in hk)
  have k0 : ∀ w ∈ u_ws RX9 TX9 15, w ∈ wsX9_lose := by decide +kernel
  have k1 := hts (.fieldLink RX9 32 "CoastWatch" "tables" "LCoastWatch$Tables;") (by decide +kernel)
  refine lv_iload_n hx hb dX9_lose_0 rfl (lv_at hl 1 rfl) ?_
  refine gSi (As := [.int a1]) (rest := []) ⟨hx, hb, hml, hown, hts⟩ (kX9_isTable l D Y A hI H.size S a1 _ h) (va_cwS 1 hts gX9_lose_X9_isTable rfl rfl rfl (by decide +kernel) ⟨Nat.le_of_ble_eq_true rfl, Nat.le_of_ble_eq_true rfl⟩) hK hP hS (gF_le hS.1) rfl rfl hl.1 (Nat.le_of_ble_eq_true rfl) dX9_lose_1 ⟨Nat.zero_le _, Nat.zero_le _⟩ ?_
  intro r2 S1 H locs h hP hS
  refine lv_if_ne (tgt := 13) hx hb dX9_lose_4 (by decide) (fun c3 => ?_) (fun c3 => ?_)
  · have h := h.2 c3
    refine lv_aload_n hx hb dX9_lose_13 rfl (lv_at hl 0 rfl) ?_
    refine va_get (ci := 9) (v := .ref (A 1)) (C := RX9) (T := TX9) (N := 15) hx hb hts k0 hown hK hP 0 (aC0 Y A S1) rfl 6 (by decide) k1 (fun _ h9 => h9) rfl dX9_lose_14 ?_
    refine lv_iload_n hx hb dX9_lose_17 rfl (lv_at hl 1 rfl) ?_
    refine gVi (As := [.int a1]) (rest := []) ⟨hx, hb, hml, hown, hts⟩ (kX7_isMissing l D Y A hI H.size S1 a1 _ h) (cwV 1 hts gX9_lose_X7_isMissing rfl rfl rfl (by decide +kernel) ⟨Nat.le_of_ble_eq_true rfl, Nat.le_of_ble_eq_true rfl⟩) hK hP hS (gF_le hS.1) (aC1 Y A S1) (show vwCl[7]? = some (RX7, TX7, 2) from rfl) rfl rfl hl.1 (Nat.le_of_ble_eq_true rfl) dX9_lose_18 ⟨Nat.zero_le _, Nat.zero_le _⟩ ?_
    intro r5 S4 H locs h hP hS
    refine lv_if_eq (tgt := 26) hx hb dX9_lose_21 (by decide) (fun c6 => ?_) (fun c6 => ?_)
    · have h := h.1 c6
      refine lv_aload_n hx hb dX9_lose_26 rfl (lv_at hl 0 rfl) ?_
      refine va_get (ci := 9) (v := .ref (A 1)) (C := RX9) (T := TX9) (N := 15) hx hb hts k0 hown hK hP 0 (aC0 Y A S4) rfl 6 (by decide) k1 (fun _ h9 => h9) rfl dX9_lose_27 ?_
      refine lv_iload_n hx hb dX9_lose_30 rfl (lv_at hl 1 rfl) ?_
      refine gVv (As := [.int a1]) (rest := []) ⟨hx, hb, hml, hown, hts⟩ (kX7_forget l D Y A hI H.size S4 a1 _ h) (cwV 1 hts gX9_lose_X7_forget rfl rfl rfl (by decide +kernel) ⟨Nat.le_of_ble_eq_true rfl, Nat.le_of_ble_eq_true rfl⟩) hK hP hS (gF_le hS.1) (aC1 Y A S4) (show vwCl[7]? = some (RX7, TX7, 2) from rfl) rfl rfl hl.1 (Nat.le_of_ble_eq_true rfl) dX9_lose_31 ⟨Nat.zero_le _, Nat.zero_le _⟩ ?_
      intro S7 H locs h hP hS
      refine lv_iconst (v := (1 : Int32)) hx hb dX9_lose_34 (by decide) ?_
      exact hret _ _ _ _ _ _ dX9_lose_35 h hP hS
    · have h := h.2 c6
      refine lv_iconst (v := (0 : Int32)) hx hb dX9_lose_24 (by decide) ?_
      exact hret _ _ _ _ _ _ dX9_lose_25 h hP hS
  · have h := h.1 c3
    refine lv_aload_n hx hb dX9_lose_7 rfl (lv_at hl 0 rfl) ?_
    refine lv_iconst (v := (-1 : Int32)) hx hb dX9_lose_8 (by decide) ?_
    refine gVi (As := [.int (-1 : Int32)]) (rest := []) ⟨hx, hb, hml, hown, hts⟩ (kX9_refuse l D Y A hI H.size S1 (-1 : Int32) _ h) (cwV 1 hts gX9_lose_X9_refuse rfl rfl rfl (by decide +kernel) ⟨Nat.le_of_ble_eq_true rfl, Nat.le_of_ble_eq_true rfl⟩) hK hP hS (gF_le hS.1) (aC0 Y A S1) (show vwCl[9]? = some (RX9, TX9, 15) from rfl) rfl rfl hl.1 (Nat.le_of_ble_eq_true rfl) dX9_lose_9 ⟨Nat.zero_le _, Nat.zero_le _⟩ ?_
    intro r9 S8 H locs h hP hS
    exact hret _ _ _ _ _ _ dX9_lose_12 h hP hS

def qX9_put (S : gS) (a1 : Int32) (a2 : Int32) (a3 : Int32) (Q : Int32 → gS → Prop) : Prop :=
  qX9_isTable S a1 (fun r2 S1 => (r2 = 0 → (qX9_refuse S1 (-1 : Int32) (fun r26 S25 => Q r26 S25))) ∧ (¬ r2 = 0 → (qX7_isMissing S1 a1 (fun r5 S4 => (r5 = 0 → ((a2 < 0 → (qX9_refuse S4 (-7 : Int32) (fun r9 S8 => Q r9 S8))) ∧ (¬ a2 < 0 → (vp_in a1 4 ∧ ((a2 < (ga S4 6 a1.toNatClampNeg) → ((0 ≤ a3 → ((a3 ≤ (20 : Int32) → (vp_in a2 30 ∧ (∀ x15 : Int32, x15 = (ga S4 (2 + a1.toNatClampNeg) a2.toNatClampNeg) → (∀ S16 : gS, S16 = sA S4 (2 + a1.toNatClampNeg) (upd (ga S4 (2 + a1.toNatClampNeg)) a2.toNatClampNeg a3) → (Q x15 S16))))) ∧ (¬ a3 ≤ (20 : Int32) → (qX9_refuse S4 (-6 : Int32) (fun r18 S17 => Q r18 S17))))) ∧ (¬ 0 ≤ a3 → (qX9_refuse S4 (-4 : Int32) (fun r20 S19 => Q r20 S19))))) ∧ (¬ a2 < (ga S4 6 a1.toNatClampNeg) → (qX9_refuse S4 (-7 : Int32) (fun r22 S21 => Q r22 S21)))))))) ∧ (¬ r5 = 0 → (qX9_refuse S4 (-5 : Int32) (fun r24 S23 => Q r24 S23)))))))
abbrev rmX9_put : Room := { frames := 1, cells := 0, slots := 0, locals := 22 }
set_option maxHeartbeats 4000000 in
set_option maxRecDepth 100000 in
theorem kX9_put (l : Launch) (D : va_G) (Y : Nat → ClassId) (A : Nat → Nat) (hI : iC A) (sz : Nat) (S : gS) (a1 : Int32) (a2 : Int32) (a3 : Int32) (Q : Int32 → gS → Prop) (h : qX9_put S a1 a2 a3 Q) : Met l yX9_put wsX9_put rmX9_put (gPc [.ref (A 0), .int a1, .int a2, .int a3] sz D vwCl (tY Y) (wC Y A S)) (va_Qi Q (fun S' t => gH D vwCl (tY Y) (wC Y A S') t) (gF A 65 sz)) 0 0 (gF A 65 sz) := by
  refine gMet_i (cc := cX9_put) (maxL := 5) (by decide +kernel) rfl (Nat.le_of_ble_eq_true rfl) (fun p e s m args below meth c Z H locs hx hb hml hts hown hK hP hS hret ls hl => ?_)
  have hown : s.vm.findClass RX9 = some m.cls := hown
  have hl : lv_has ls 5 [(0, .ref (A 0)), (1, .int a1), (2, .int a2), (3, .int a3)] := hl
  have hD : ∀ S0 : gS, va_D (gF A 65 s.heap.size) (wC Y A S0) := fun S0 => dC hI S0 (fun k hk => gF_in hk)
  have k0 : ∀ w ∈ u_ws RX9 TX9 15, w ∈ wsX9_put := by decide +kernel
  have k1 := hts (.fieldLink RX9 32 "CoastWatch" "tables" "LCoastWatch$Tables;") (by decide +kernel)
  have k2 : ∀ w ∈ u_ws RX7 TX7 2, w ∈ wsX9_put := by decide +kernel
  have k3 := hts (.fieldLink RX9 120 "CoastWatch$Tables" "length" "[I") (by decide +kernel)
  have k4 := hts (.fieldLink RX9 123 "CoastWatch$Tables" "numbers" "[[I") (by decide +kernel)
  refine lv_iload_n hx hb dX9_put_0 rfl (lv_at hl 1 rfl) ?_
  refine gSi (As := [.int a1]) (rest := []) ⟨hx, hb, hml, hown, hts⟩ (kX9_isTable l D Y A hI H.size S a1 _ h) (va_cwS 1 hts gX9_put_X9_isTable rfl rfl rfl (by decide +kernel) ⟨Nat.le_of_ble_eq_true rfl, Nat.le_of_ble_eq_true rfl⟩) hK hP hS (gF_le hS.1) rfl rfl hl.1 (Nat.le_of_ble_eq_true rfl) dX9_put_1 ⟨Nat.zero_le _, Nat.zero_le _⟩ ?_
  intro r2 S1 H locs h hP hS
  refine lv_if_ne (tgt := 13) hx hb dX9_put_4 (by decide) (fun c3 => ?_) (fun c3 => ?_)
  · have h := h.2 c3
    refine lv_aload_n hx hb dX9_put_13 rfl (lv_at hl 0 rfl) ?_
    refine va_get (ci := 9) (v := .ref (A 1)) (C := RX9) (T := TX9) (N := 15) hx hb hts k0 hown hK hP 0 (aC0 Y A S1) rfl 6 (by decide) k1 (fun _ h9 => h9) rfl dX9_put_14 ?_
    refine lv_iload_n hx hb dX9_put_17 rfl (lv_at hl 1 rfl) ?_
    refine gVi (As := [.int a1]) (rest := []) ⟨hx, hb, hml, hown, hts⟩ (kX7_isMissing l D Y A hI H.size S1 a1 _ h) (cwV 1 hts gX9_put_X7_isMissing rfl rfl rfl (by decide +kernel) ⟨Nat.le_of_ble_eq_true rfl, Nat.le_of_ble_eq_true rfl⟩) hK hP hS (gF_le hS.1) (aC1 Y A S1) (show vwCl[7]? = some (RX7, TX7, 2) from rfl) rfl rfl hl.1 (Nat.le_of_ble_eq_true rfl) dX9_put_18 ⟨Nat.zero_le _, Nat.zero_le _⟩ ?_
    intro r5 S4 H locs h hP hS
    refine lv_if_eq (tgt := 31) hx hb dX9_put_21 (by decide) (fun c6 => ?_) (fun c6 => ?_)
    · have h := h.1 c6
      refine lv_iload_n hx hb dX9_put_31 rfl (lv_at hl 2 rfl) ?_
      refine lv_if_lt (tgt := 48) hx hb dX9_put_32 (by decide) (fun c7 => ?_) (fun c7 => ?_)
      · have h := h.1 c7
        refine lv_aload_n hx hb dX9_put_48 rfl (lv_at hl 0 rfl) ?_
        refine lv_bipush (v := (-7 : Int32)) hx hb dX9_put_49 (by decide) ?_
        refine gVi (As := [.int (-7 : Int32)]) (rest := []) ⟨hx, hb, hml, hown, hts⟩ (kX9_refuse l D Y A hI H.size S4 (-7 : Int32) _ h) (cwV 1 hts gX9_put_X9_refuse rfl rfl rfl (by decide +kernel) ⟨Nat.le_of_ble_eq_true rfl, Nat.le_of_ble_eq_true rfl⟩) hK hP hS (gF_le hS.1) (aC0 Y A S4) (show vwCl[9]? = some (RX9, TX9, 15) from rfl) rfl rfl hl.1 (Nat.le_of_ble_eq_true rfl) dX9_put_51 ⟨Nat.zero_le _, Nat.zero_le _⟩ ?_
        intro r9 S8 H locs h hP hS
        exact hret _ _ _ _ _ _ dX9_put_54 h hP hS
      · have h := h.2 c7
        refine lv_iload_n hx hb dX9_put_35 rfl (lv_at hl 2 rfl) ?_
        refine lv_aload_n hx hb dX9_put_36 rfl (lv_at hl 0 rfl) ?_
        refine va_get (ci := 9) (v := .ref (A 1)) (C := RX9) (T := TX9) (N := 15) hx hb hts k0 hown hK hP 0 (aC0 Y A S4) rfl 6 (by decide) k1 (fun _ h9 => h9) rfl dX9_put_37 ?_
        refine va_get (ci := 7) (v := .ref (A 17)) (C := RX7) (T := TX7) (N := 2) hx hb hts k2 hown hK hP 1 (aC1 Y A S4) rfl 1 (by decide) k3 (fun _ h9 => h9) rfl dX9_put_40 ?_
        refine lv_iload_n hx hb dX9_put_43 rfl (lv_at hl 1 rfl) ?_
        have v_10 := h.1
        have h := h.2
        refine va_iald hx hb hK hP 17 0 (aC17 Y A S4) rfl v_10 dX9_put_44 ?_
        refine lv_icmp_lt (tgt := 55) hx hb dX9_put_45 (by decide) (fun c11 => ?_) (fun c11 => ?_)
        · have h := h.1 c11
          refine lv_iload_n hx hb dX9_put_55 rfl (lv_at hl 3 rfl) ?_
          refine lv_if_ge (tgt := 66) hx hb dX9_put_56 (by decide) (fun c12 => ?_) (fun c12 => ?_)
          · have h := h.1 c12
            refine lv_iload_n hx hb dX9_put_66 rfl (lv_at hl 3 rfl) ?_
            refine lv_bipush (v := (20 : Int32)) hx hb dX9_put_67 (by decide) ?_
            refine lv_icmp_le (tgt := 79) hx hb dX9_put_69 (by decide) (fun c13 => ?_) (fun c13 => ?_)
            · have h := h.1 c13
              refine lv_aload_n hx hb dX9_put_79 rfl (lv_at hl 0 rfl) ?_
              refine va_get (ci := 9) (v := .ref (A 1)) (C := RX9) (T := TX9) (N := 15) hx hb hts k0 hown hK hP 0 (aC0 Y A S4) rfl 6 (by decide) k1 (fun _ h9 => h9) rfl dX9_put_80 ?_
              refine va_get (ci := 7) (v := .ref (A 12)) (C := RX7) (T := TX7) (N := 2) hx hb hts k2 hown hK hP 1 (aC1 Y A S4) rfl 0 (by decide) k4 (fun _ h9 => h9) rfl dX9_put_83 ?_
              refine lv_iload_n hx hb dX9_put_86 rfl (lv_at hl 1 rfl) ?_
              refine gAald (g := fun j => A (13 + j)) hx hb hK hP 12 3 (aC12 Y A S4) rfl (fun j hj => if_pos hj) v_10 dX9_put_87 ?_
              refine lv_iload_n hx hb dX9_put_88 rfl (lv_at hl 2 rfl) ?_
              have v_14 := h.1
              have h := h.2
              refine va_iald hx hb hK hP (13 + a1.toNatClampNeg) 0 (arC12 Y A S4 (vp_lt v_10)) rfl v_14 dX9_put_89 ?_
              refine lv_topi (fun x15 ex15 => ?_)
              have h := h x15 ex15
              refine lv_istore (lv' := [(4, .int x15), (0, .ref (A 0)), (1, .int a1), (2, .int a2), (3, .int a3)]) hx hb dX9_put_90 hl (by decide) rfl (fun ls hl => ?_)
              refine lv_aload_n hx hb dX9_put_92 rfl (lv_at hl 1 rfl) ?_
              refine va_get (ci := 9) (v := .ref (A 1)) (C := RX9) (T := TX9) (N := 15) hx hb hts k0 hown hK hP 0 (aC0 Y A S4) rfl 6 (by decide) k1 (fun _ h9 => h9) rfl dX9_put_93 ?_
              refine va_get (ci := 7) (v := .ref (A 12)) (C := RX7) (T := TX7) (N := 2) hx hb hts k2 hown hK hP 1 (aC1 Y A S4) rfl 0 (by decide) k4 (fun _ h9 => h9) rfl dX9_put_96 ?_
              refine lv_iload_n hx hb dX9_put_99 rfl (lv_at hl 2 rfl) ?_
              refine gAald (g := fun j => A (13 + j)) hx hb hK hP 12 3 (aC12 Y A S4) rfl (fun j hj => if_pos hj) v_10 dX9_put_100 ?_
              refine lv_iload_n hx hb dX9_put_101 rfl (lv_at hl 3 rfl) ?_
              refine lv_iload_n hx hb dX9_put_102 rfl (lv_at hl 4 rfl) ?_
              obtain ⟨S16, eS16⟩ : ∃ z : gS, z = sA S4 (2 + a1.toNatClampNeg) (upd (ga S4 (2 + a1.toNatClampNeg)) a2.toNatClampNeg a3) := ⟨_, rfl⟩
              refine va_iast hx hb hK hP (hD S4) hS (13 + a1.toNatClampNeg) 0 (arC12 Y A S4 (vp_lt v_10)) rfl v_14 dX9_put_103 (fun H locs hP _ hS => ?_)
              have hP := urC12 (vp_lt v_10) eS16 hP
              have h := h S16 eS16
              refine lv_iload hx hb dX9_put_104 (lv_at hl 0 rfl) ?_
              exact hret _ _ _ _ _ _ dX9_put_106 h hP hS
            · have h := h.2 c13
              refine lv_aload_n hx hb dX9_put_72 rfl (lv_at hl 0 rfl) ?_
              refine lv_bipush (v := (-6 : Int32)) hx hb dX9_put_73 (by decide) ?_
              refine gVi (As := [.int (-6 : Int32)]) (rest := []) ⟨hx, hb, hml, hown, hts⟩ (kX9_refuse l D Y A hI H.size S4 (-6 : Int32) _ h) (cwV 1 hts gX9_put_X9_refuse rfl rfl rfl (by decide +kernel) ⟨Nat.le_of_ble_eq_true rfl, Nat.le_of_ble_eq_true rfl⟩) hK hP hS (gF_le hS.1) (aC0 Y A S4) (show vwCl[9]? = some (RX9, TX9, 15) from rfl) rfl rfl hl.1 (Nat.le_of_ble_eq_true rfl) dX9_put_75 ⟨Nat.zero_le _, Nat.zero_le _⟩ ?_
              intro r18 S17 H locs h hP hS
              exact hret _ _ _ _ _ _ dX9_put_78 h hP hS
          · have h := h.2 c12
            refine lv_aload_n hx hb dX9_put_59 rfl (lv_at hl 0 rfl) ?_
            refine lv_bipush (v := (-4 : Int32)) hx hb dX9_put_60 (by decide) ?_
            refine gVi (As := [.int (-4 : Int32)]) (rest := []) ⟨hx, hb, hml, hown, hts⟩ (kX9_refuse l D Y A hI H.size S4 (-4 : Int32) _ h) (cwV 1 hts gX9_put_X9_refuse rfl rfl rfl (by decide +kernel) ⟨Nat.le_of_ble_eq_true rfl, Nat.le_of_ble_eq_true rfl⟩) hK hP hS (gF_le hS.1) (aC0 Y A S4) (show vwCl[9]? = some (RX9, TX9, 15) from rfl) rfl rfl hl.1 (Nat.le_of_ble_eq_true rfl) dX9_put_62 ⟨Nat.zero_le _, Nat.zero_le _⟩ ?_
            intro r20 S19 H locs h hP hS
            exact hret _ _ _ _ _ _ dX9_put_65 h hP hS
        · have h := h.2 c11
          refine lv_aload_n hx hb dX9_put_48 rfl (lv_at hl 0 rfl) ?_
          refine lv_bipush (v := (-7 : Int32)) hx hb dX9_put_49 (by decide) ?_
          refine gVi (As := [.int (-7 : Int32)]) (rest := []) ⟨hx, hb, hml, hown, hts⟩ (kX9_refuse l D Y A hI H.size S4 (-7 : Int32) _ h) (cwV 1 hts gX9_put_X9_refuse rfl rfl rfl (by decide +kernel) ⟨Nat.le_of_ble_eq_true rfl, Nat.le_of_ble_eq_true rfl⟩) hK hP hS (gF_le hS.1) (aC0 Y A S4) (show vwCl[9]? = some (RX9, TX9, 15) from rfl) rfl rfl hl.1 (Nat.le_of_ble_eq_true rfl) dX9_put_51 ⟨Nat.zero_le _, Nat.zero_le _⟩ ?_
          intro r22 S21 H locs h hP hS
          exact hret _ _ _ _ _ _ dX9_put_54 h hP hS
    · have h := h.2 c6
      refine lv_aload_n hx hb dX9_put_24 rfl (lv_at hl 0 rfl) ?_
      refine lv_bipush (v := (-5 : Int32)) hx hb dX9_put_25 (by decide) ?_
      refine gVi (As := [.int (-5 : Int32)]) (rest := []) ⟨hx, hb, hml, hown, hts⟩ (kX9_refuse l D Y A hI H.size S4 (-5 : Int32) _ h) (cwV 1 hts gX9_put_X9_refuse rfl rfl rfl (by decide +kernel) ⟨Nat.le_of_ble_eq_true rfl, Nat.le_of_ble_eq_true rfl⟩) hK hP hS (gF_le hS.1) (aC0 Y A S4) (show vwCl[9]? = some (RX9, TX9, 15) from rfl) rfl rfl hl.1 (Nat.le_of_ble_eq_true rfl) dX9_put_27 ⟨Nat.zero_le _, Nat.zero_le _⟩ ?_
      intro r24 S23 H locs h hP hS
      exact hret _ _ _ _ _ _ dX9_put_30 h hP hS
  · have h := h.1 c3
    refine lv_aload_n hx hb dX9_put_7 rfl (lv_at hl 0 rfl) ?_
    refine lv_iconst (v := (-1 : Int32)) hx hb dX9_put_8 (by decide) ?_
    refine gVi (As := [.int (-1 : Int32)]) (rest := []) ⟨hx, hb, hml, hown, hts⟩ (kX9_refuse l D Y A hI H.size S1 (-1 : Int32) _ h) (cwV 1 hts gX9_put_X9_refuse rfl rfl rfl (by decide +kernel) ⟨Nat.le_of_ble_eq_true rfl, Nat.le_of_ble_eq_true rfl⟩) hK hP hS (gF_le hS.1) (aC0 Y A S1) (show vwCl[9]? = some (RX9, TX9, 15) from rfl) rfl rfl hl.1 (Nat.le_of_ble_eq_true rfl) dX9_put_9 ⟨Nat.zero_le _, Nat.zero_le _⟩ ?_
    intro r26 S25 H locs h hP hS
    exact hret _ _ _ _ _ _ dX9_put_12 h hP hS

def qX9_copy (S : gS) (a1 : Int32) (a2 : Int32) (a3 : Int32) (a4 : Int32) (a5 : Int32) (Q : Int32 → gS → Prop) : Prop :=
  qX9_isTable S a1 (fun r2 S1 => (r2 = 0 → (qX9_refuse S1 (-1 : Int32) (fun r5 S4 => Q r5 S4))) ∧ (¬ r2 = 0 → (qX9_isTable S1 a3 (fun r7 S6 => (r7 = 0 → (qX9_refuse S6 (-1 : Int32) (fun r33 S32 => Q r33 S32))) ∧ (¬ r7 = 0 → (qX7_isMissing S6 a1 (fun r10 S9 => (r10 = 0 → (qX7_isMissing S9 a3 (fun r15 S14 => (r15 = 0 → (qX7_hasPlaces S14 a1 a2 a5 (fun r18 S17 => (r18 = 0 → (qX9_refuse S17 (-7 : Int32) (fun r21 S20 => Q r21 S20))) ∧ (¬ r18 = 0 → (qX7_hasPlaces S17 a3 a4 a5 (fun r23 S22 => (r23 = 0 → (qX9_refuse S22 (-7 : Int32) (fun r29 S28 => Q r29 S28))) ∧ (¬ r23 = 0 → (vp_in a1 4 ∧ (vp_in a3 4 ∧ (¬ a2 < 0 ∧ ¬ a4 < 0 ∧ ¬ a5 < 0 ∧ a2.toNatClampNeg + a5.toNatClampNeg ≤ 30 ∧ a4.toNatClampNeg + a5.toNatClampNeg ≤ 30 ∧ ∀ S27 : gS, S27 = sA S22 (2 + a3.toNatClampNeg) (va_cpy (ga S22 (2 + a1.toNatClampNeg)) (ga S22 (2 + a3.toNatClampNeg)) a2.toNatClampNeg a4.toNatClampNeg a5.toNatClampNeg) → (Q a5 S27))))))))))) ∧ (¬ r15 = 0 → (qX9_refuse S14 (-5 : Int32) (fun r31 S30 => Q r31 S30)))))) ∧ (¬ r10 = 0 → (qX9_refuse S9 (-5 : Int32) (fun r13 S12 => Q r13 S12))))))))))
abbrev rmX9_copy : Room := { frames := 1, cells := 0, slots := 0, locals := 73 }
set_option maxHeartbeats 4000000 in
set_option maxRecDepth 100000 in
theorem kX9_copy (l : Launch) (D : va_G) (Y : Nat → ClassId) (A : Nat → Nat) (hI : iC A) (sz : Nat) (S : gS) (a1 : Int32) (a2 : Int32) (a3 : Int32) (a4 : Int32) (a5 : Int32) (Q : Int32 → gS → Prop) (h : qX9_copy S a1 a2 a3 a4 a5 Q) : Met l yX9_copy wsX9_copy rmX9_copy (gPc [.ref (A 0), .int a1, .int a2, .int a3, .int a4, .int a5] sz D vwCl (tY Y) (wC Y A S)) (va_Qi Q (fun S' t => gH D vwCl (tY Y) (wC Y A S') t) (gF A 65 sz)) 0 0 (gF A 65 sz) := by
  refine gMet_i (cc := cX9_copy) (maxL := 6) (by decide +kernel) rfl (Nat.le_of_ble_eq_true rfl) (fun p e s m args below meth c Z H locs hx hb hml hts hown hK hP hS hret ls hl => ?_)
  have hown : s.vm.findClass RX9 = some m.cls := hown
  have hl : lv_has ls 6 [(0, .ref (A 0)), (1, .int a1), (2, .int a2), (3, .int a3), (4, .int a4), (5, .int a5)] := hl
  have hD : ∀ S0 : gS, va_D (gF A 65 s.heap.size) (wC Y A S0) := fun S0 => dC hI S0 (fun k hk => gF_in hk)
  have k0 : ∀ w ∈ u_ws RX9 TX9 15, w ∈ wsX9_copy := by decide +kernel
  have k1 := hts (.fieldLink RX9 32 "CoastWatch" "tables" "LCoastWatch$Tables;") (by decide +kernel)
  have k2 : ∀ w ∈ u_ws RX7 TX7 2, w ∈ wsX9_copy := by decide +kernel
  have k3 := hts (.fieldLink RX9 123 "CoastWatch$Tables" "numbers" "[[I") (by decide +kernel)
  have k4 := hts (.methodLink RX9 131 arraycopyName) (by decide +kernel)
  have k5 := hts (.native arraycopyName) (by decide +kernel)
  have k6 := hts (.static arraycopyName) (by decide +kernel)
  have k7 := hts (.initialized "java/lang/System") (by decide +kernel)
  refine lv_iload_n hx hb dX9_copy_0 rfl (lv_at hl 1 rfl) ?_
  refine gSi (As := [.int a1]) (rest := []) ⟨hx, hb, hml, hown, hts⟩ (kX9_isTable l D Y A hI H.size S a1 _ h) (va_cwS 1 hts gX9_copy_X9_isTable rfl rfl rfl (by decide +kernel) ⟨Nat.le_of_ble_eq_true rfl, Nat.le_of_ble_eq_true rfl⟩) hK hP hS (gF_le hS.1) rfl rfl hl.1 (Nat.le_of_ble_eq_true rfl) dX9_copy_1 ⟨Nat.zero_le _, Nat.zero_le _⟩ ?_
  intro r2 S1 H locs h hP hS
  refine lv_if_eq (tgt := 14) hx hb dX9_copy_4 (by decide) (fun c3 => ?_) (fun c3 => ?_)
  · have h := h.1 c3
    refine lv_aload_n hx hb dX9_copy_14 rfl (lv_at hl 0 rfl) ?_
    refine lv_iconst (v := (-1 : Int32)) hx hb dX9_copy_15 (by decide) ?_
    refine gVi (As := [.int (-1 : Int32)]) (rest := []) ⟨hx, hb, hml, hown, hts⟩ (kX9_refuse l D Y A hI H.size S1 (-1 : Int32) _ h) (cwV 1 hts gX9_copy_X9_refuse rfl rfl rfl (by decide +kernel) ⟨Nat.le_of_ble_eq_true rfl, Nat.le_of_ble_eq_true rfl⟩) hK hP hS (gF_le hS.1) (aC0 Y A S1) (show vwCl[9]? = some (RX9, TX9, 15) from rfl) rfl rfl hl.1 (Nat.le_of_ble_eq_true rfl) dX9_copy_16 ⟨Nat.zero_le _, Nat.zero_le _⟩ ?_
    intro r5 S4 H locs h hP hS
    exact hret _ _ _ _ _ _ dX9_copy_19 h hP hS
  · have h := h.2 c3
    refine lv_iload_n hx hb dX9_copy_7 rfl (lv_at hl 3 rfl) ?_
    refine gSi (As := [.int a3]) (rest := []) ⟨hx, hb, hml, hown, hts⟩ (kX9_isTable l D Y A hI H.size S1 a3 _ h) (va_cwS 1 hts gX9_copy_X9_isTable rfl rfl rfl (by decide +kernel) ⟨Nat.le_of_ble_eq_true rfl, Nat.le_of_ble_eq_true rfl⟩) hK hP hS (gF_le hS.1) rfl rfl hl.1 (Nat.le_of_ble_eq_true rfl) dX9_copy_8 ⟨Nat.zero_le _, Nat.zero_le _⟩ ?_
    intro r7 S6 H locs h hP hS
    refine lv_if_ne (tgt := 20) hx hb dX9_copy_11 (by decide) (fun c8 => ?_) (fun c8 => ?_)
    · have h := h.2 c8
      refine lv_aload_n hx hb dX9_copy_20 rfl (lv_at hl 0 rfl) ?_
      refine va_get (ci := 9) (v := .ref (A 1)) (C := RX9) (T := TX9) (N := 15) hx hb hts k0 hown hK hP 0 (aC0 Y A S6) rfl 6 (by decide) k1 (fun _ h9 => h9) rfl dX9_copy_21 ?_
      refine lv_iload_n hx hb dX9_copy_24 rfl (lv_at hl 1 rfl) ?_
      refine gVi (As := [.int a1]) (rest := []) ⟨hx, hb, hml, hown, hts⟩ (kX7_isMissing l D Y A hI H.size S6 a1 _ h) (cwV 1 hts gX9_copy_X7_isMissing rfl rfl rfl (by decide +kernel) ⟨Nat.le_of_ble_eq_true rfl, Nat.le_of_ble_eq_true rfl⟩) hK hP hS (gF_le hS.1) (aC1 Y A S6) (show vwCl[7]? = some (RX7, TX7, 2) from rfl) rfl rfl hl.1 (Nat.le_of_ble_eq_true rfl) dX9_copy_25 ⟨Nat.zero_le _, Nat.zero_le _⟩ ?_
      intro r10 S9 H locs h hP hS
      refine lv_if_ne (tgt := 42) hx hb dX9_copy_28 (by decide) (fun c11 => ?_) (fun c11 => ?_)
      · have h := h.2 c11
        refine lv_aload_n hx hb dX9_copy_42 rfl (lv_at hl 0 rfl) ?_
        refine lv_bipush (v := (-5 : Int32)) hx hb dX9_copy_43 (by decide) ?_
        refine gVi (As := [.int (-5 : Int32)]) (rest := []) ⟨hx, hb, hml, hown, hts⟩ (kX9_refuse l D Y A hI H.size S9 (-5 : Int32) _ h) (cwV 1 hts gX9_copy_X9_refuse rfl rfl rfl (by decide +kernel) ⟨Nat.le_of_ble_eq_true rfl, Nat.le_of_ble_eq_true rfl⟩) hK hP hS (gF_le hS.1) (aC0 Y A S9) (show vwCl[9]? = some (RX9, TX9, 15) from rfl) rfl rfl hl.1 (Nat.le_of_ble_eq_true rfl) dX9_copy_45 ⟨Nat.zero_le _, Nat.zero_le _⟩ ?_
        intro r13 S12 H locs h hP hS
        exact hret _ _ _ _ _ _ dX9_copy_48 h hP hS
      · have h := h.1 c11
        refine lv_aload_n hx hb dX9_copy_31 rfl (lv_at hl 0 rfl) ?_
        refine va_get (ci := 9) (v := .ref (A 1)) (C := RX9) (T := TX9) (N := 15) hx hb hts k0 hown hK hP 0 (aC0 Y A S9) rfl 6 (by decide) k1 (fun _ h9 => h9) rfl dX9_copy_32 ?_
        refine lv_iload_n hx hb dX9_copy_35 rfl (lv_at hl 3 rfl) ?_
        refine gVi (As := [.int a3]) (rest := []) ⟨hx, hb, hml, hown, hts⟩ (kX7_isMissing l D Y A hI H.size S9 a3 _ h) (cwV 1 hts gX9_copy_X7_isMissing rfl rfl rfl (by decide +kernel) ⟨Nat.le_of_ble_eq_true rfl, Nat.le_of_ble_eq_true rfl⟩) hK hP hS (gF_le hS.1) (aC1 Y A S9) (show vwCl[7]? = some (RX7, TX7, 2) from rfl) rfl rfl hl.1 (Nat.le_of_ble_eq_true rfl) dX9_copy_36 ⟨Nat.zero_le _, Nat.zero_le _⟩ ?_
        intro r15 S14 H locs h hP hS
        refine lv_if_eq (tgt := 49) hx hb dX9_copy_39 (by decide) (fun c16 => ?_) (fun c16 => ?_)
        · have h := h.1 c16
          refine lv_aload_n hx hb dX9_copy_49 rfl (lv_at hl 0 rfl) ?_
          refine va_get (ci := 9) (v := .ref (A 1)) (C := RX9) (T := TX9) (N := 15) hx hb hts k0 hown hK hP 0 (aC0 Y A S14) rfl 6 (by decide) k1 (fun _ h9 => h9) rfl dX9_copy_50 ?_
          refine lv_iload_n hx hb dX9_copy_53 rfl (lv_at hl 1 rfl) ?_
          refine lv_iload_n hx hb dX9_copy_54 rfl (lv_at hl 2 rfl) ?_
          refine lv_iload hx hb dX9_copy_55 (lv_at hl 5 rfl) ?_
          refine gVi (As := [.int a1, .int a2, .int a5]) (rest := []) ⟨hx, hb, hml, hown, hts⟩ (kX7_hasPlaces l D Y A hI H.size S14 a1 a2 a5 _ h) (cwV 3 hts gX9_copy_X7_hasPlaces rfl rfl rfl (by decide +kernel) ⟨Nat.le_of_ble_eq_true rfl, Nat.le_of_ble_eq_true rfl⟩) hK hP hS (gF_le hS.1) (aC1 Y A S14) (show vwCl[7]? = some (RX7, TX7, 2) from rfl) rfl rfl hl.1 (Nat.le_of_ble_eq_true rfl) dX9_copy_57 ⟨Nat.zero_le _, Nat.zero_le _⟩ ?_
          intro r18 S17 H locs h hP hS
          refine lv_if_eq (tgt := 78) hx hb dX9_copy_60 (by decide) (fun c19 => ?_) (fun c19 => ?_)
          · have h := h.1 c19
            refine lv_aload_n hx hb dX9_copy_78 rfl (lv_at hl 0 rfl) ?_
            refine lv_bipush (v := (-7 : Int32)) hx hb dX9_copy_79 (by decide) ?_
            refine gVi (As := [.int (-7 : Int32)]) (rest := []) ⟨hx, hb, hml, hown, hts⟩ (kX9_refuse l D Y A hI H.size S17 (-7 : Int32) _ h) (cwV 1 hts gX9_copy_X9_refuse rfl rfl rfl (by decide +kernel) ⟨Nat.le_of_ble_eq_true rfl, Nat.le_of_ble_eq_true rfl⟩) hK hP hS (gF_le hS.1) (aC0 Y A S17) (show vwCl[9]? = some (RX9, TX9, 15) from rfl) rfl rfl hl.1 (Nat.le_of_ble_eq_true rfl) dX9_copy_81 ⟨Nat.zero_le _, Nat.zero_le _⟩ ?_
            intro r21 S20 H locs h hP hS
            exact hret _ _ _ _ _ _ dX9_copy_84 h hP hS
          · have h := h.2 c19
            refine lv_aload_n hx hb dX9_copy_63 rfl (lv_at hl 0 rfl) ?_
            refine va_get (ci := 9) (v := .ref (A 1)) (C := RX9) (T := TX9) (N := 15) hx hb hts k0 hown hK hP 0 (aC0 Y A S17) rfl 6 (by decide) k1 (fun _ h9 => h9) rfl dX9_copy_64 ?_
            refine lv_iload_n hx hb dX9_copy_67 rfl (lv_at hl 3 rfl) ?_
            refine lv_iload hx hb dX9_copy_68 (lv_at hl 4 rfl) ?_
            refine lv_iload hx hb dX9_copy_70 (lv_at hl 5 rfl) ?_
            refine gVi (As := [.int a3, .int a4, .int a5]) (rest := []) ⟨hx, hb, hml, hown, hts⟩ (kX7_hasPlaces l D Y A hI H.size S17 a3 a4 a5 _ h) (cwV 3 hts gX9_copy_X7_hasPlaces rfl rfl rfl (by decide +kernel) ⟨Nat.le_of_ble_eq_true rfl, Nat.le_of_ble_eq_true rfl⟩) hK hP hS (gF_le hS.1) (aC1 Y A S17) (show vwCl[7]? = some (RX7, TX7, 2) from rfl) rfl rfl hl.1 (Nat.le_of_ble_eq_true rfl) dX9_copy_72 ⟨Nat.zero_le _, Nat.zero_le _⟩ ?_
            intro r23 S22 H locs h hP hS
            refine lv_if_ne (tgt := 85) hx hb dX9_copy_75 (by decide) (fun c24 => ?_) (fun c24 => ?_)
            · have h := h.2 c24
              refine lv_aload_n hx hb dX9_copy_85 rfl (lv_at hl 0 rfl) ?_
              refine va_get (ci := 9) (v := .ref (A 1)) (C := RX9) (T := TX9) (N := 15) hx hb hts k0 hown hK hP 0 (aC0 Y A S22) rfl 6 (by decide) k1 (fun _ h9 => h9) rfl dX9_copy_86 ?_
              refine va_get (ci := 7) (v := .ref (A 12)) (C := RX7) (T := TX7) (N := 2) hx hb hts k2 hown hK hP 1 (aC1 Y A S22) rfl 0 (by decide) k3 (fun _ h9 => h9) rfl dX9_copy_89 ?_
              refine lv_iload_n hx hb dX9_copy_92 rfl (lv_at hl 1 rfl) ?_
              have v_25 := h.1
              have h := h.2
              refine gAald (g := fun j => A (13 + j)) hx hb hK hP 12 3 (aC12 Y A S22) rfl (fun j hj => if_pos hj) v_25 dX9_copy_93 ?_
              refine lv_iload_n hx hb dX9_copy_94 rfl (lv_at hl 2 rfl) ?_
              refine lv_aload_n hx hb dX9_copy_95 rfl (lv_at hl 0 rfl) ?_
              refine va_get (ci := 9) (v := .ref (A 1)) (C := RX9) (T := TX9) (N := 15) hx hb hts k0 hown hK hP 0 (aC0 Y A S22) rfl 6 (by decide) k1 (fun _ h9 => h9) rfl dX9_copy_96 ?_
              refine va_get (ci := 7) (v := .ref (A 12)) (C := RX7) (T := TX7) (N := 2) hx hb hts k2 hown hK hP 1 (aC1 Y A S22) rfl 0 (by decide) k3 (fun _ h9 => h9) rfl dX9_copy_99 ?_
              refine lv_iload_n hx hb dX9_copy_102 rfl (lv_at hl 3 rfl) ?_
              have v_26 := h.1
              have h := h.2
              refine gAald (g := fun j => A (13 + j)) hx hb hK hP 12 3 (aC12 Y A S22) rfl (fun j hj => if_pos hj) v_26 dX9_copy_103 ?_
              refine lv_iload hx hb dX9_copy_104 (lv_at hl 4 rfl) ?_
              refine lv_iload hx hb dX9_copy_106 (lv_at hl 5 rfl) ?_
              obtain ⟨q1, q2, q3, q4, q5, h⟩ := h
              obtain ⟨S27, eS27⟩ : ∃ z : gS, z = sA S22 (2 + a3.toNatClampNeg) (va_cpy (ga S22 (2 + a1.toNatClampNeg)) (ga S22 (2 + a3.toNatClampNeg)) a2.toNatClampNeg a4.toNatClampNeg a5.toNatClampNeg) := ⟨_, rfl⟩
              have h := h S27 eS27
              refine va_copyi hx hb (hml.trans hl.1.symm) hown k4 k5 k6 k7 hK hP (hD S22) hS (13 + a1.toNatClampNeg) (13 + a3.toNatClampNeg) 0 0 (arC12 Y A S22 (vp_lt v_25)) (arC12 Y A S22 (vp_lt v_26)) rfl rfl rfl q1 q2 q3 q4 q5 (fun _ _ => rfl) (Nat.le_of_ble_eq_true rfl) (Nat.le_of_ble_eq_true rfl) dX9_copy_108 (fun H locs hP _ hS => ?_)
              have hP := urC12 (vp_lt v_26) eS27 hP
              refine lv_iload hx hb dX9_copy_111 (lv_at hl 5 rfl) ?_
              exact hret _ _ _ _ _ _ dX9_copy_113 h hP hS
            · have h := h.1 c24
              refine lv_aload_n hx hb dX9_copy_78 rfl (lv_at hl 0 rfl) ?_
              refine lv_bipush (v := (-7 : Int32)) hx hb dX9_copy_79 (by decide) ?_
              refine gVi (As := [.int (-7 : Int32)]) (rest := []) ⟨hx, hb, hml, hown, hts⟩ (kX9_refuse l D Y A hI H.size S22 (-7 : Int32) _ h) (cwV 1 hts gX9_copy_X9_refuse rfl rfl rfl (by decide +kernel) ⟨Nat.le_of_ble_eq_true rfl, Nat.le_of_ble_eq_true rfl⟩) hK hP hS (gF_le hS.1) (aC0 Y A S22) (show vwCl[9]? = some (RX9, TX9, 15) from rfl) rfl rfl hl.1 (Nat.le_of_ble_eq_true rfl) dX9_copy_81 ⟨Nat.zero_le _, Nat.zero_le _⟩ ?_
              intro r29 S28 H locs h hP hS
              exact hret _ _ _ _ _ _ dX9_copy_84 h hP hS
        · have h := h.2 c16
          refine lv_aload_n hx hb dX9_copy_42 rfl (lv_at hl 0 rfl) ?_
          refine lv_bipush (v := (-5 : Int32)) hx hb dX9_copy_43 (by decide) ?_
          refine gVi (As := [.int (-5 : Int32)]) (rest := []) ⟨hx, hb, hml, hown, hts⟩ (kX9_refuse l D Y A hI H.size S14 (-5 : Int32) _ h) (cwV 1 hts gX9_copy_X9_refuse rfl rfl rfl (by decide +kernel) ⟨Nat.le_of_ble_eq_true rfl, Nat.le_of_ble_eq_true rfl⟩) hK hP hS (gF_le hS.1) (aC0 Y A S14) (show vwCl[9]? = some (RX9, TX9, 15) from rfl) rfl rfl hl.1 (Nat.le_of_ble_eq_true rfl) dX9_copy_45 ⟨Nat.zero_le _, Nat.zero_le _⟩ ?_
          intro r31 S30 H locs h hP hS
          exact hret _ _ _ _ _ _ dX9_copy_48 h hP hS
    · have h := h.1 c8
      refine lv_aload_n hx hb dX9_copy_14 rfl (lv_at hl 0 rfl) ?_
      refine lv_iconst (v := (-1 : Int32)) hx hb dX9_copy_15 (by decide) ?_
      refine gVi (As := [.int (-1 : Int32)]) (rest := []) ⟨hx, hb, hml, hown, hts⟩ (kX9_refuse l D Y A hI H.size S6 (-1 : Int32) _ h) (cwV 1 hts gX9_copy_X9_refuse rfl rfl rfl (by decide +kernel) ⟨Nat.le_of_ble_eq_true rfl, Nat.le_of_ble_eq_true rfl⟩) hK hP hS (gF_le hS.1) (aC0 Y A S6) (show vwCl[9]? = some (RX9, TX9, 15) from rfl) rfl rfl hl.1 (Nat.le_of_ble_eq_true rfl) dX9_copy_16 ⟨Nat.zero_le _, Nat.zero_le _⟩ ?_
      intro r33 S32 H locs h hP hS
      exact hret _ _ _ _ _ _ dX9_copy_19 h hP hS

def qX9_lead_J28 (a1 : Int32) (a2 : Int32) (Q : Int32 → gS → Prop) : gS → Prop := fun S =>
  vp_in a1 6 ∧ (∀ x2 : Int32, x2 = (ga S 9 a1.toNatClampNeg) → (∀ S3 : gS, S3 = sA S 9 (upd (ga S 9) a1.toNatClampNeg a2) → (Q x2 S3)))
def qX9_lead (S : gS) (a1 : Int32) (a2 : Int32) (Q : Int32 → gS → Prop) : Prop :=
  qX9_isCove S a1 (fun r5 S4 => (r5 = 0 → (qX9_refuse S4 (-1 : Int32) (fun r8 S7 => Q ((2000000000 : Int32) - r8) S7))) ∧ (¬ r5 = 0 → ((a2 = (-1 : Int32) → (qX9_lead_J28 a1 a2 Q S4)) ∧ (¬ a2 = (-1 : Int32) → (qX9_isTable S4 a2 (fun r11 S10 => (r11 = 0 → (qX9_refuse S10 (-1 : Int32) (fun r14 S13 => Q ((2000000000 : Int32) - r14) S13))) ∧ (¬ r11 = 0 → (qX9_lead_J28 a1 a2 Q S10))))))))
abbrev rmX9_lead : Room := { frames := 1, cells := 0, slots := 0, locals := 22 }
set_option maxHeartbeats 4000000 in
set_option maxRecDepth 100000 in
theorem kX9_lead (l : Launch) (D : va_G) (Y : Nat → ClassId) (A : Nat → Nat) (hI : iC A) (sz : Nat) (S : gS) (a1 : Int32) (a2 : Int32) (Q : Int32 → gS → Prop) (h : qX9_lead S a1 a2 Q) : Met l yX9_lead wsX9_lead rmX9_lead (gPc [.ref (A 0), .int a1, .int a2] sz D vwCl (tY Y) (wC Y A S)) (va_Qi Q (fun S' t => gH D vwCl (tY Y) (wC Y A S') t) (gF A 65 sz)) 0 0 (gF A 65 sz) := by
  refine gMet_i (cc := cX9_lead) (maxL := 4) (by decide +kernel) rfl (Nat.le_of_ble_eq_true rfl) (fun p e s m args below meth c Z H locs hx hb hml hts hown hK hP hS hret ls hl => ?_)
  have hown : s.vm.findClass RX9 = some m.cls := hown
  have hl : lv_has ls 4 [(0, .ref (A 0)), (1, .int a1), (2, .int a2)] := hl
  have hD : ∀ S0 : gS, va_D (gF A 65 s.heap.size) (wC Y A S0) := fun S0 => dC hI S0 (fun k hk => gF_in hk)
  have k0 : ∀ w ∈ u_ws RX9 TX9 15, w ∈ wsX9_lead := by decide +kernel
  have k1 := hts (.fieldLink RX9 39 "CoastWatch" "coves" "LCoastWatch$Coves;") (by decide +kernel)
  have k2 : ∀ w ∈ u_ws RX1 TX1 7, w ∈ wsX9_lead := by decide +kernel
  have k3 := hts (.fieldLink RX9 138 "CoastWatch$Coves" "ledBy" "[I") (by decide +kernel)
  have k4 := hts (.constant RX9 137 2000000000) (by decide +kernel)
  have tJ28 : ∀ (S : gS), qX9_lead_J28 a1 a2 Q S → ∀ (H : Heap) (locs : List Loc) (ls : Array Slot), va_P D vwCl (wC Y A S) H → va_S (gF A 65 s.heap.size) s.heap H locs → lv_has ls 4 [(0, .ref (A 0)), (1, .int a1), (2, .int a2)] → W p l e rmX9_lead s m args below meth c H locs 0 0 Z (F0 m 28 ls []) := by
    intro  S h
    intro H locs ls hP hS hl
    refine lv_aload_n hx hb dX9_lead_28 rfl (lv_at hl 0 rfl) ?_
    refine va_get (ci := 9) (v := .ref (A 2)) (C := RX9) (T := TX9) (N := 15) hx hb hts k0 hown hK hP 0 (aC0 Y A S) rfl 7 (by decide) k1 (fun _ h9 => h9) rfl dX9_lead_29 ?_
    refine va_get (ci := 1) (v := .ref (A 20)) (C := RX1) (T := TX1) (N := 7) hx hb hts k2 hown hK hP 2 (aC2 Y A S) rfl 2 (by decide) k3 (fun _ h9 => h9) rfl dX9_lead_32 ?_
    refine lv_iload_n hx hb dX9_lead_35 rfl (lv_at hl 1 rfl) ?_
    have v_1 := h.1
    have h := h.2
    refine va_iald hx hb hK hP 20 0 (aC20 Y A S) rfl v_1 dX9_lead_36 ?_
    refine lv_topi (fun x2 ex2 => ?_)
    have h := h x2 ex2
    refine lv_istore_n (lv' := [(3, .int x2), (0, .ref (A 0)), (1, .int a1), (2, .int a2)]) hx hb dX9_lead_37 rfl hl (by decide) rfl (fun ls hl => ?_)
    refine lv_aload_n hx hb dX9_lead_38 rfl (lv_at hl 1 rfl) ?_
    refine va_get (ci := 9) (v := .ref (A 2)) (C := RX9) (T := TX9) (N := 15) hx hb hts k0 hown hK hP 0 (aC0 Y A S) rfl 7 (by decide) k1 (fun _ h9 => h9) rfl dX9_lead_39 ?_
    refine va_get (ci := 1) (v := .ref (A 20)) (C := RX1) (T := TX1) (N := 7) hx hb hts k2 hown hK hP 2 (aC2 Y A S) rfl 2 (by decide) k3 (fun _ h9 => h9) rfl dX9_lead_42 ?_
    refine lv_iload_n hx hb dX9_lead_45 rfl (lv_at hl 2 rfl) ?_
    refine lv_iload_n hx hb dX9_lead_46 rfl (lv_at hl 3 rfl) ?_
    obtain ⟨S3, eS3⟩ : ∃ z : gS, z = sA S 9 (upd (ga S 9) a1.toNatClampNeg a2) := ⟨_, rfl⟩
    refine va_iast hx hb hK hP (hD S) hS 20 0 (aC20 Y A S) rfl v_1 dX9_lead_47 (fun H locs hP _ hS => ?_)
    have hP := uC20 eS3 hP
    have h := h S3 eS3
    refine lv_iload_n hx hb dX9_lead_48 rfl (lv_at hl 0 rfl) ?_
    exact hret _ _ _ _ _ _ dX9_lead_49 h hP hS
  refine lv_iload_n hx hb dX9_lead_0 rfl (lv_at hl 1 rfl) ?_
  refine gSi (As := [.int a1]) (rest := []) ⟨hx, hb, hml, hown, hts⟩ (kX9_isCove l D Y A hI H.size S a1 _ h) (va_cwS 1 hts gX9_lead_X9_isCove rfl rfl rfl (by decide +kernel) ⟨Nat.le_of_ble_eq_true rfl, Nat.le_of_ble_eq_true rfl⟩) hK hP hS (gF_le hS.1) rfl rfl hl.1 (Nat.le_of_ble_eq_true rfl) dX9_lead_1 ⟨Nat.zero_le _, Nat.zero_le _⟩ ?_
  intro r5 S4 H locs h hP hS
  refine lv_if_eq (tgt := 19) hx hb dX9_lead_4 (by decide) (fun c6 => ?_) (fun c6 => ?_)
  · have h := h.1 c6
    refine lv_ldc (v := (2000000000 : Int32)) hx hb hown k4 dX9_lead_19 ?_
    refine lv_aload_n hx hb dX9_lead_21 rfl (lv_at hl 0 rfl) ?_
    refine lv_iconst (v := (-1 : Int32)) hx hb dX9_lead_22 (by decide) ?_
    refine gVi (As := [.int (-1 : Int32)]) (rest := [.int (2000000000 : Int32)]) ⟨hx, hb, hml, hown, hts⟩ (kX9_refuse l D Y A hI H.size S4 (-1 : Int32) _ h) (cwV 1 hts gX9_lead_X9_refuse rfl rfl rfl (by decide +kernel) ⟨Nat.le_of_ble_eq_true rfl, Nat.le_of_ble_eq_true rfl⟩) hK hP hS (gF_le hS.1) (aC0 Y A S4) (show vwCl[9]? = some (RX9, TX9, 15) from rfl) rfl rfl hl.1 (Nat.le_of_ble_eq_true rfl) dX9_lead_23 ⟨Nat.zero_le _, Nat.zero_le _⟩ ?_
    intro r8 S7 H locs h hP hS
    refine lv_isub hx hb dX9_lead_26 ?_
    exact hret _ _ _ _ _ _ dX9_lead_27 h hP hS
  · have h := h.2 c6
    refine lv_iload_n hx hb dX9_lead_7 rfl (lv_at hl 2 rfl) ?_
    refine lv_iconst (v := (-1 : Int32)) hx hb dX9_lead_8 (by decide) ?_
    refine lv_icmp_eq (tgt := 28) hx hb dX9_lead_9 (by decide) (fun c9 => ?_) (fun c9 => ?_)
    · have h := h.1 c9
      exact tJ28  S4 h _ _ _ hP hS (lv_sub hl [0, 1, 2] rfl)
    · have h := h.2 c9
      refine lv_iload_n hx hb dX9_lead_12 rfl (lv_at hl 2 rfl) ?_
      refine gSi (As := [.int a2]) (rest := []) ⟨hx, hb, hml, hown, hts⟩ (kX9_isTable l D Y A hI H.size S4 a2 _ h) (va_cwS 1 hts gX9_lead_X9_isTable rfl rfl rfl (by decide +kernel) ⟨Nat.le_of_ble_eq_true rfl, Nat.le_of_ble_eq_true rfl⟩) hK hP hS (gF_le hS.1) rfl rfl hl.1 (Nat.le_of_ble_eq_true rfl) dX9_lead_13 ⟨Nat.zero_le _, Nat.zero_le _⟩ ?_
      intro r11 S10 H locs h hP hS
      refine lv_if_ne (tgt := 28) hx hb dX9_lead_16 (by decide) (fun c12 => ?_) (fun c12 => ?_)
      · have h := h.2 c12
        exact tJ28  S10 h _ _ _ hP hS (lv_sub hl [0, 1, 2] rfl)
      · have h := h.1 c12
        refine lv_ldc (v := (2000000000 : Int32)) hx hb hown k4 dX9_lead_19 ?_
        refine lv_aload_n hx hb dX9_lead_21 rfl (lv_at hl 0 rfl) ?_
        refine lv_iconst (v := (-1 : Int32)) hx hb dX9_lead_22 (by decide) ?_
        refine gVi (As := [.int (-1 : Int32)]) (rest := [.int (2000000000 : Int32)]) ⟨hx, hb, hml, hown, hts⟩ (kX9_refuse l D Y A hI H.size S10 (-1 : Int32) _ h) (cwV 1 hts gX9_lead_X9_refuse rfl rfl rfl (by decide +kernel) ⟨Nat.le_of_ble_eq_true rfl, Nat.le_of_ble_eq_true rfl⟩) hK hP hS (gF_le hS.1) (aC0 Y A S10) (show vwCl[9]? = some (RX9, TX9, 15) from rfl) rfl rfl hl.1 (Nat.le_of_ble_eq_true rfl) dX9_lead_23 ⟨Nat.zero_le _, Nat.zero_le _⟩ ?_
        intro r14 S13 H locs h hP hS
        refine lv_isub hx hb dX9_lead_26 ?_
        exact hret _ _ _ _ _ _ dX9_lead_27 h hP hS

def qX9_tideAt_J51 (a1 : Int32) (a2 : Int32) (Q : Int32 → gS → Prop) : gS → Prop := fun S =>
  ∀ x1 : Int32, x1 = ((((7 : Int32) * a2) + ((5 : Int32) * a1)) - (((7 : Int32) * a2) + ((5 : Int32) * a1)) / (24 : Int32) * (24 : Int32)) → (((12 : Int32) < x1 → (Q ((24 : Int32) - x1) S)) ∧ (¬ (12 : Int32) < x1 → (Q x1 S)))
def qX9_tideAt (S : gS) (a1 : Int32) (a2 : Int32) (Q : Int32 → gS → Prop) : Prop :=
  vp_in a1 6 ∧ (∀ x4 : Int32, x4 = (ga S 9 a1.toNatClampNeg) → (qX9_isTable S x4 (fun r6 S5 => (r6 = 0 → (qX9_tideAt_J51 a1 a2 Q S5)) ∧ (¬ r6 = 0 → (vp_in x4 4 ∧ (((ga S5 6 x4.toNatClampNeg) ≤ 0 → (qX9_tideAt_J51 a1 a2 Q S5)) ∧ (¬ (ga S5 6 x4.toNatClampNeg) ≤ 0 → (¬ (ga S5 6 x4.toNatClampNeg) = 0 ∧ (vp_in (a2 - a2 / (ga S5 6 x4.toNatClampNeg) * (ga S5 6 x4.toNatClampNeg)) 30 ∧ (Q (ga S5 (2 + x4.toNatClampNeg) (a2 - a2 / (ga S5 6 x4.toNatClampNeg) * (ga S5 6 x4.toNatClampNeg)).toNatClampNeg) S5))))))))))
abbrev rmX9_tideAt : Room := { frames := 1, cells := 0, slots := 0, locals := 20 }
set_option maxHeartbeats 4000000 in
set_option maxRecDepth 100000 in
theorem kX9_tideAt (l : Launch) (D : va_G) (Y : Nat → ClassId) (A : Nat → Nat) (hI : iC A) (sz : Nat) (S : gS) (a1 : Int32) (a2 : Int32) (Q : Int32 → gS → Prop) (h : qX9_tideAt S a1 a2 Q) : Met l yX9_tideAt wsX9_tideAt rmX9_tideAt (gPc [.ref (A 0), .int a1, .int a2] sz D vwCl (tY Y) (wC Y A S)) (va_Qi Q (fun S' t => gH D vwCl (tY Y) (wC Y A S') t) (gF A 65 sz)) 0 0 (gF A 65 sz) := by
  refine gMet_i (cc := cX9_tideAt) (maxL := 5) (by decide +kernel) rfl (Nat.le_of_ble_eq_true rfl) (fun p e s m args below meth c Z H locs hx hb hml hts hown hK hP hS hret ls hl => ?_)
  have hown : s.vm.findClass RX9 = some m.cls := hown
  have hl : lv_has ls 5 [(0, .ref (A 0)), (1, .int a1), (2, .int a2)] := hl
  have hD : ∀ S0 : gS, va_D (gF A 65 s.heap.size) (wC Y A S0) := fun S0 => dC hI S0 (fun k hk => gF_in hk)
  have k0 : ∀ w ∈ u_ws RX9 TX9 15, w ∈ wsX9_tideAt := by decide +kernel
  have k1 := hts (.fieldLink RX9 39 "CoastWatch" "coves" "LCoastWatch$Coves;") (by decide +kernel)
  have k2 : ∀ w ∈ u_ws RX1 TX1 7, w ∈ wsX9_tideAt := by decide +kernel
  have k3 := hts (.fieldLink RX9 138 "CoastWatch$Coves" "ledBy" "[I") (by decide +kernel)
  have k4 := hts (.fieldLink RX9 32 "CoastWatch" "tables" "LCoastWatch$Tables;") (by decide +kernel)
  have k5 : ∀ w ∈ u_ws RX7 TX7 2, w ∈ wsX9_tideAt := by decide +kernel
  have k6 := hts (.fieldLink RX9 120 "CoastWatch$Tables" "length" "[I") (by decide +kernel)
  have k7 := hts (.fieldLink RX9 123 "CoastWatch$Tables" "numbers" "[[I") (by decide +kernel)
  have tJ51 : ∀ (S : gS), qX9_tideAt_J51 a1 a2 Q S → ∀ (H : Heap) (locs : List Loc) (ls : Array Slot), va_P D vwCl (wC Y A S) H → va_S (gF A 65 s.heap.size) s.heap H locs → lv_has ls 5 [(1, .int a1), (2, .int a2)] → W p l e rmX9_tideAt s m args below meth c H locs 0 0 Z (F0 m 51 ls []) := by
    intro  S h
    intro H locs ls hP hS hl
    refine lv_bipush (v := (7 : Int32)) hx hb dX9_tideAt_51 (by decide) ?_
    refine lv_iload_n hx hb dX9_tideAt_53 rfl (lv_at hl 1 rfl) ?_
    refine lv_imul hx hb dX9_tideAt_54 ?_
    refine lv_iconst (v := (5 : Int32)) hx hb dX9_tideAt_55 (by decide) ?_
    refine lv_iload_n hx hb dX9_tideAt_56 rfl (lv_at hl 0 rfl) ?_
    refine lv_imul hx hb dX9_tideAt_57 ?_
    refine lv_iadd hx hb dX9_tideAt_58 ?_
    refine lv_bipush (v := (24 : Int32)) hx hb dX9_tideAt_59 (by decide) ?_
    refine lv_irem hx hb dX9_tideAt_61 (by decide) ?_
    refine lv_topi (fun x1 ex1 => ?_)
    have h := h x1 ex1
    refine lv_istore (lv' := [(4, .int x1), (1, .int a1), (2, .int a2)]) hx hb dX9_tideAt_62 hl (by decide) rfl (fun ls hl => ?_)
    refine lv_iload hx hb dX9_tideAt_64 (lv_at hl 0 rfl) ?_
    refine lv_bipush (v := (12 : Int32)) hx hb dX9_tideAt_66 (by decide) ?_
    refine lv_icmp_gt (tgt := 76) hx hb dX9_tideAt_68 (by decide) (fun c2 => ?_) (fun c2 => ?_)
    · have h := h.1 c2
      refine lv_bipush (v := (24 : Int32)) hx hb dX9_tideAt_76 (by decide) ?_
      refine lv_iload hx hb dX9_tideAt_78 (lv_at hl 0 rfl) ?_
      refine lv_isub hx hb dX9_tideAt_80 ?_
      exact hret _ _ _ _ _ _ dX9_tideAt_81 h hP hS
    · have h := h.2 c2
      refine lv_iload hx hb dX9_tideAt_71 (lv_at hl 0 rfl) ?_
      refine lv_goto (tgt := 81) hx hb dX9_tideAt_73 (by decide) ?_
      exact hret _ _ _ _ _ _ dX9_tideAt_81 h hP hS
  refine lv_aload_n hx hb dX9_tideAt_0 rfl (lv_at hl 0 rfl) ?_
  refine va_get (ci := 9) (v := .ref (A 2)) (C := RX9) (T := TX9) (N := 15) hx hb hts k0 hown hK hP 0 (aC0 Y A S) rfl 7 (by decide) k1 (fun _ h9 => h9) rfl dX9_tideAt_1 ?_
  refine va_get (ci := 1) (v := .ref (A 20)) (C := RX1) (T := TX1) (N := 7) hx hb hts k2 hown hK hP 2 (aC2 Y A S) rfl 2 (by decide) k3 (fun _ h9 => h9) rfl dX9_tideAt_4 ?_
  refine lv_iload_n hx hb dX9_tideAt_7 rfl (lv_at hl 1 rfl) ?_
  have v_3 := h.1
  have h := h.2
  refine va_iald hx hb hK hP 20 0 (aC20 Y A S) rfl v_3 dX9_tideAt_8 ?_
  refine lv_topi (fun x4 ex4 => ?_)
  have h := h x4 ex4
  refine lv_istore_n (lv' := [(3, .int x4), (0, .ref (A 0)), (1, .int a1), (2, .int a2)]) hx hb dX9_tideAt_9 rfl hl (by decide) rfl (fun ls hl => ?_)
  refine lv_iload_n hx hb dX9_tideAt_10 rfl (lv_at hl 0 rfl) ?_
  refine gSi (As := [.int x4]) (rest := []) ⟨hx, hb, hml, hown, hts⟩ (kX9_isTable l D Y A hI H.size S x4 _ h) (va_cwS 1 hts gX9_tideAt_X9_isTable rfl rfl rfl (by decide +kernel) ⟨Nat.le_of_ble_eq_true rfl, Nat.le_of_ble_eq_true rfl⟩) hK hP hS (gF_le hS.1) rfl rfl hl.1 (Nat.le_of_ble_eq_true rfl) dX9_tideAt_11 ⟨Nat.zero_le _, Nat.zero_le _⟩ ?_
  intro r6 S5 H locs h hP hS
  refine lv_if_eq (tgt := 51) hx hb dX9_tideAt_14 (by decide) (fun c7 => ?_) (fun c7 => ?_)
  · have h := h.1 c7
    exact tJ51  S5 h _ _ _ hP hS (lv_sub hl [2, 3] rfl)
  · have h := h.2 c7
    refine lv_aload_n hx hb dX9_tideAt_17 rfl (lv_at hl 1 rfl) ?_
    refine va_get (ci := 9) (v := .ref (A 1)) (C := RX9) (T := TX9) (N := 15) hx hb hts k0 hown hK hP 0 (aC0 Y A S5) rfl 6 (by decide) k4 (fun _ h9 => h9) rfl dX9_tideAt_18 ?_
    refine va_get (ci := 7) (v := .ref (A 17)) (C := RX7) (T := TX7) (N := 2) hx hb hts k5 hown hK hP 1 (aC1 Y A S5) rfl 1 (by decide) k6 (fun _ h9 => h9) rfl dX9_tideAt_21 ?_
    refine lv_iload_n hx hb dX9_tideAt_24 rfl (lv_at hl 0 rfl) ?_
    have v_8 := h.1
    have h := h.2
    refine va_iald hx hb hK hP 17 0 (aC17 Y A S5) rfl v_8 dX9_tideAt_25 ?_
    refine lv_if_le (tgt := 51) hx hb dX9_tideAt_26 (by decide) (fun c9 => ?_) (fun c9 => ?_)
    · have h := h.1 c9
      exact tJ51  S5 h _ _ _ hP hS (lv_sub hl [2, 3] rfl)
    · have h := h.2 c9
      refine lv_aload_n hx hb dX9_tideAt_29 rfl (lv_at hl 1 rfl) ?_
      refine va_get (ci := 9) (v := .ref (A 1)) (C := RX9) (T := TX9) (N := 15) hx hb hts k0 hown hK hP 0 (aC0 Y A S5) rfl 6 (by decide) k4 (fun _ h9 => h9) rfl dX9_tideAt_30 ?_
      refine va_get (ci := 7) (v := .ref (A 12)) (C := RX7) (T := TX7) (N := 2) hx hb hts k5 hown hK hP 1 (aC1 Y A S5) rfl 0 (by decide) k7 (fun _ h9 => h9) rfl dX9_tideAt_33 ?_
      refine lv_iload_n hx hb dX9_tideAt_36 rfl (lv_at hl 0 rfl) ?_
      refine gAald (g := fun j => A (13 + j)) hx hb hK hP 12 3 (aC12 Y A S5) rfl (fun j hj => if_pos hj) v_8 dX9_tideAt_37 ?_
      refine lv_iload_n hx hb dX9_tideAt_38 rfl (lv_at hl 3 rfl) ?_
      refine lv_aload_n hx hb dX9_tideAt_39 rfl (lv_at hl 1 rfl) ?_
      refine va_get (ci := 9) (v := .ref (A 1)) (C := RX9) (T := TX9) (N := 15) hx hb hts k0 hown hK hP 0 (aC0 Y A S5) rfl 6 (by decide) k4 (fun _ h9 => h9) rfl dX9_tideAt_40 ?_
      refine va_get (ci := 7) (v := .ref (A 17)) (C := RX7) (T := TX7) (N := 2) hx hb hts k5 hown hK hP 1 (aC1 Y A S5) rfl 1 (by decide) k6 (fun _ h9 => h9) rfl dX9_tideAt_43 ?_
      refine lv_iload_n hx hb dX9_tideAt_46 rfl (lv_at hl 0 rfl) ?_
      refine va_iald hx hb hK hP 17 0 (aC17 Y A S5) rfl v_8 dX9_tideAt_47 ?_
      have n_10 := h.1
      have h := h.2
      refine lv_irem hx hb dX9_tideAt_48 n_10 ?_
      have v_11 := h.1
      have h := h.2
      refine va_iald hx hb hK hP (13 + x4.toNatClampNeg) 0 (arC12 Y A S5 (vp_lt v_8)) rfl v_11 dX9_tideAt_49 ?_
      exact hret _ _ _ _ _ _ dX9_tideAt_50 h hP hS

def qX9_tide (S : gS) (a1 : Int32) (a2 : Int32) (Q : Int32 → gS → Prop) : Prop :=
  qX9_isCove S a1 (fun r2 S1 => (r2 = 0 → (qX9_refuse S1 (-1 : Int32) (fun r13 S12 => Q r13 S12))) ∧ (¬ r2 = 0 → ((0 ≤ a2 → ((a2 ≤ (1000 : Int32) → (qX9_tideAt S1 a1 a2 (fun r7 S6 => Q r7 S6))) ∧ (¬ a2 ≤ (1000 : Int32) → (qX9_refuse S1 (-6 : Int32) (fun r9 S8 => Q r9 S8))))) ∧ (¬ 0 ≤ a2 → (qX9_refuse S1 (-4 : Int32) (fun r11 S10 => Q r11 S10))))))
abbrev rmX9_tide : Room := { frames := 2, cells := 0, slots := 0, locals := 44 }
set_option maxHeartbeats 4000000 in
set_option maxRecDepth 100000 in
theorem kX9_tide (l : Launch) (D : va_G) (Y : Nat → ClassId) (A : Nat → Nat) (hI : iC A) (sz : Nat) (S : gS) (a1 : Int32) (a2 : Int32) (Q : Int32 → gS → Prop) (h : qX9_tide S a1 a2 Q) : Met l yX9_tide wsX9_tide rmX9_tide (gPc [.ref (A 0), .int a1, .int a2] sz D vwCl (tY Y) (wC Y A S)) (va_Qi Q (fun S' t => gH D vwCl (tY Y) (wC Y A S') t) (gF A 65 sz)) 0 0 (gF A 65 sz) := by
  refine gMet_i (cc := cX9_tide) (maxL := 3) (by decide +kernel) rfl (Nat.le_of_ble_eq_true rfl) (fun p e s m args below meth c Z H locs hx hb hml hts hown hK hP hS hret ls hl => ?_)
  have hown : s.vm.findClass RX9 = some m.cls := hown
  have hl : lv_has ls 3 [(0, .ref (A 0)), (1, .int a1), (2, .int a2)] := hl
  have hD : ∀ S0 : gS, va_D (gF A 65 s.heap.size) (wC Y A S0) := fun S0 => dC hI S0 (fun k hk => gF_in hk)
  refine lv_iload_n hx hb dX9_tide_0 rfl (lv_at hl 1 rfl) ?_
  refine gSi (As := [.int a1]) (rest := []) ⟨hx, hb, hml, hown, hts⟩ (kX9_isCove l D Y A hI H.size S a1 _ h) (va_cwS 1 hts gX9_tide_X9_isCove rfl rfl rfl (by decide +kernel) ⟨Nat.le_of_ble_eq_true rfl, Nat.le_of_ble_eq_true rfl⟩) hK hP hS (gF_le hS.1) rfl rfl hl.1 (Nat.le_of_ble_eq_true rfl) dX9_tide_1 ⟨Nat.zero_le _, Nat.zero_le _⟩ ?_
  intro r2 S1 H locs h hP hS
  refine lv_if_ne (tgt := 13) hx hb dX9_tide_4 (by decide) (fun c3 => ?_) (fun c3 => ?_)
  · have h := h.2 c3
    refine lv_iload_n hx hb dX9_tide_13 rfl (lv_at hl 2 rfl) ?_
    refine lv_if_ge (tgt := 24) hx hb dX9_tide_14 (by decide) (fun c4 => ?_) (fun c4 => ?_)
    · have h := h.1 c4
      refine lv_iload_n hx hb dX9_tide_24 rfl (lv_at hl 2 rfl) ?_
      refine lv_sipush (v := (1000 : Int32)) hx hb dX9_tide_25 (by decide) ?_
      refine lv_icmp_le (tgt := 38) hx hb dX9_tide_28 (by decide) (fun c5 => ?_) (fun c5 => ?_)
      · have h := h.1 c5
        refine lv_aload_n hx hb dX9_tide_38 rfl (lv_at hl 0 rfl) ?_
        refine lv_iload_n hx hb dX9_tide_39 rfl (lv_at hl 1 rfl) ?_
        refine lv_iload_n hx hb dX9_tide_40 rfl (lv_at hl 2 rfl) ?_
        refine gVi (As := [.int a1, .int a2]) (rest := []) ⟨hx, hb, hml, hown, hts⟩ (kX9_tideAt l D Y A hI H.size S1 a1 a2 _ h) (cwV 2 hts gX9_tide_X9_tideAt rfl rfl rfl (by decide +kernel) ⟨Nat.le_of_ble_eq_true rfl, Nat.le_of_ble_eq_true rfl⟩) hK hP hS (gF_le hS.1) (aC0 Y A S1) (show vwCl[9]? = some (RX9, TX9, 15) from rfl) rfl rfl hl.1 (Nat.le_of_ble_eq_true rfl) dX9_tide_41 ⟨Nat.zero_le _, Nat.zero_le _⟩ ?_
        intro r7 S6 H locs h hP hS
        exact hret _ _ _ _ _ _ dX9_tide_44 h hP hS
      · have h := h.2 c5
        refine lv_aload_n hx hb dX9_tide_31 rfl (lv_at hl 0 rfl) ?_
        refine lv_bipush (v := (-6 : Int32)) hx hb dX9_tide_32 (by decide) ?_
        refine gVi (As := [.int (-6 : Int32)]) (rest := []) ⟨hx, hb, hml, hown, hts⟩ (kX9_refuse l D Y A hI H.size S1 (-6 : Int32) _ h) (cwV 1 hts gX9_tide_X9_refuse rfl rfl rfl (by decide +kernel) ⟨Nat.le_of_ble_eq_true rfl, Nat.le_of_ble_eq_true rfl⟩) hK hP hS (gF_le hS.1) (aC0 Y A S1) (show vwCl[9]? = some (RX9, TX9, 15) from rfl) rfl rfl hl.1 (Nat.le_of_ble_eq_true rfl) dX9_tide_34 ⟨Nat.zero_le _, Nat.zero_le _⟩ ?_
        intro r9 S8 H locs h hP hS
        exact hret _ _ _ _ _ _ dX9_tide_37 h hP hS
    · have h := h.2 c4
      refine lv_aload_n hx hb dX9_tide_17 rfl (lv_at hl 0 rfl) ?_
      refine lv_bipush (v := (-4 : Int32)) hx hb dX9_tide_18 (by decide) ?_
      refine gVi (As := [.int (-4 : Int32)]) (rest := []) ⟨hx, hb, hml, hown, hts⟩ (kX9_refuse l D Y A hI H.size S1 (-4 : Int32) _ h) (cwV 1 hts gX9_tide_X9_refuse rfl rfl rfl (by decide +kernel) ⟨Nat.le_of_ble_eq_true rfl, Nat.le_of_ble_eq_true rfl⟩) hK hP hS (gF_le hS.1) (aC0 Y A S1) (show vwCl[9]? = some (RX9, TX9, 15) from rfl) rfl rfl hl.1 (Nat.le_of_ble_eq_true rfl) dX9_tide_20 ⟨Nat.zero_le _, Nat.zero_le _⟩ ?_
      intro r11 S10 H locs h hP hS
      exact hret _ _ _ _ _ _ dX9_tide_23 h hP hS
  · have h := h.1 c3
    refine lv_aload_n hx hb dX9_tide_7 rfl (lv_at hl 0 rfl) ?_
    refine lv_iconst (v := (-1 : Int32)) hx hb dX9_tide_8 (by decide) ?_
    refine gVi (As := [.int (-1 : Int32)]) (rest := []) ⟨hx, hb, hml, hown, hts⟩ (kX9_refuse l D Y A hI H.size S1 (-1 : Int32) _ h) (cwV 1 hts gX9_tide_X9_refuse rfl rfl rfl (by decide +kernel) ⟨Nat.le_of_ble_eq_true rfl, Nat.le_of_ble_eq_true rfl⟩) hK hP hS (gF_le hS.1) (aC0 Y A S1) (show vwCl[9]? = some (RX9, TX9, 15) from rfl) rfl rfl hl.1 (Nat.le_of_ble_eq_true rfl) dX9_tide_9 ⟨Nat.zero_le _, Nat.zero_le _⟩ ?_
    intro r13 S12 H locs h hP hS
    exact hret _ _ _ _ _ _ dX9_tide_12 h hP hS

def qX9_boat (S : gS) (a1 : Int32) (a2 : Int32) (a3 : Int32) (a4 : Int32) (Q : Int32 → gS → Prop) : Prop :=
  (a1 < 0 → (qX9_refuse S (-4 : Int32) (fun r3 S2 => Q r3 S2))) ∧ (¬ a1 < 0 → ((a2 < (1 : Int32) → (qX9_refuse S (-4 : Int32) (fun r6 S5 => Q r6 S5))) ∧ (¬ a2 < (1 : Int32) → ((a3 < 0 → (qX9_refuse S (-4 : Int32) (fun r9 S8 => Q r9 S8))) ∧ (¬ a3 < 0 → ((0 ≤ a4 → (((20 : Int32) < a1 → (qX9_refuse S (-6 : Int32) (fun r13 S12 => Q r13 S12))) ∧ (¬ (20 : Int32) < a1 → (((60 : Int32) < a2 → (qX9_refuse S (-6 : Int32) (fun r16 S15 => Q r16 S15))) ∧ (¬ (60 : Int32) < a2 → (((99 : Int32) < a3 → (qX9_refuse S (-6 : Int32) (fun r19 S18 => Q r19 S18))) ∧ (¬ (99 : Int32) < a3 → (((15 : Int32) < a4 → (qX9_refuse S (-6 : Int32) (fun r22 S21 => Q r22 S21))) ∧ (¬ (15 : Int32) < a4 → (((gi S 4) < (8 : Int32) → (qX0_add S a1 a2 a3 a4 (fun r25 S24 => Q r25 S24))) ∧ (¬ (gi S 4) < (8 : Int32) → (qX9_refuse S (-6 : Int32) (fun r27 S26 => Q r27 S26))))))))))))) ∧ (¬ 0 ≤ a4 → (qX9_refuse S (-4 : Int32) (fun r29 S28 => Q r29 S28)))))))))
abbrev rmX9_boat : Room := { frames := 1, cells := 0, slots := 0, locals := 25 }
set_option maxHeartbeats 4000000 in
set_option maxRecDepth 100000 in
theorem kX9_boat (l : Launch) (D : va_G) (Y : Nat → ClassId) (A : Nat → Nat) (hI : iC A) (sz : Nat) (S : gS) (a1 : Int32) (a2 : Int32) (a3 : Int32) (a4 : Int32) (Q : Int32 → gS → Prop) (h : qX9_boat S a1 a2 a3 a4 Q) : Met l yX9_boat wsX9_boat rmX9_boat (gPc [.ref (A 0), .int a1, .int a2, .int a3, .int a4] sz D vwCl (tY Y) (wC Y A S)) (va_Qi Q (fun S' t => gH D vwCl (tY Y) (wC Y A S') t) (gF A 65 sz)) 0 0 (gF A 65 sz) := by
  refine gMet_i (cc := cX9_boat) (maxL := 5) (by decide +kernel) rfl (Nat.le_of_ble_eq_true rfl) (fun p e s m args below meth c Z H locs hx hb hml hts hown hK hP hS hret ls hl => ?_)
  have hown : s.vm.findClass RX9 = some m.cls := hown
  have hl : lv_has ls 5 [(0, .ref (A 0)), (1, .int a1), (2, .int a2), (3, .int a3), (4, .int a4)] := hl
  have hD : ∀ S0 : gS, va_D (gF A 65 s.heap.size) (wC Y A S0) := fun S0 => dC hI S0 (fun k hk => gF_in hk)
  have k0 : ∀ w ∈ u_ws RX9 TX9 15, w ∈ wsX9_boat := by decide +kernel
  have k1 := hts (.fieldLink RX9 46 "CoastWatch" "boats" "LCoastWatch$Boats;") (by decide +kernel)
  have k2 : ∀ w ∈ u_ws RX0 TX0 9, w ∈ wsX9_boat := by decide +kernel
  have k3 := hts (.fieldLink RX9 145 "CoastWatch$Boats" "size" "I") (by decide +kernel)
  refine lv_iload_n hx hb dX9_boat_0 rfl (lv_at hl 1 rfl) ?_
  refine lv_if_lt (tgt := 18) hx hb dX9_boat_1 (by decide) (fun c1 => ?_) (fun c1 => ?_)
  · have h := h.1 c1
    refine lv_aload_n hx hb dX9_boat_18 rfl (lv_at hl 0 rfl) ?_
    refine lv_bipush (v := (-4 : Int32)) hx hb dX9_boat_19 (by decide) ?_
    refine gVi (As := [.int (-4 : Int32)]) (rest := []) ⟨hx, hb, hml, hown, hts⟩ (kX9_refuse l D Y A hI H.size S (-4 : Int32) _ h) (cwV 1 hts gX9_boat_X9_refuse rfl rfl rfl (by decide +kernel) ⟨Nat.le_of_ble_eq_true rfl, Nat.le_of_ble_eq_true rfl⟩) hK hP hS (gF_le hS.1) (aC0 Y A S) (show vwCl[9]? = some (RX9, TX9, 15) from rfl) rfl rfl hl.1 (Nat.le_of_ble_eq_true rfl) dX9_boat_21 ⟨Nat.zero_le _, Nat.zero_le _⟩ ?_
    intro r3 S2 H locs h hP hS
    exact hret _ _ _ _ _ _ dX9_boat_24 h hP hS
  · have h := h.2 c1
    refine lv_iload_n hx hb dX9_boat_4 rfl (lv_at hl 2 rfl) ?_
    refine lv_iconst (v := (1 : Int32)) hx hb dX9_boat_5 (by decide) ?_
    refine lv_icmp_lt (tgt := 18) hx hb dX9_boat_6 (by decide) (fun c4 => ?_) (fun c4 => ?_)
    · have h := h.1 c4
      refine lv_aload_n hx hb dX9_boat_18 rfl (lv_at hl 0 rfl) ?_
      refine lv_bipush (v := (-4 : Int32)) hx hb dX9_boat_19 (by decide) ?_
      refine gVi (As := [.int (-4 : Int32)]) (rest := []) ⟨hx, hb, hml, hown, hts⟩ (kX9_refuse l D Y A hI H.size S (-4 : Int32) _ h) (cwV 1 hts gX9_boat_X9_refuse rfl rfl rfl (by decide +kernel) ⟨Nat.le_of_ble_eq_true rfl, Nat.le_of_ble_eq_true rfl⟩) hK hP hS (gF_le hS.1) (aC0 Y A S) (show vwCl[9]? = some (RX9, TX9, 15) from rfl) rfl rfl hl.1 (Nat.le_of_ble_eq_true rfl) dX9_boat_21 ⟨Nat.zero_le _, Nat.zero_le _⟩ ?_
      intro r6 S5 H locs h hP hS
      exact hret _ _ _ _ _ _ dX9_boat_24 h hP hS
    · have h := h.2 c4
      refine lv_iload_n hx hb dX9_boat_9 rfl (lv_at hl 3 rfl) ?_
      refine lv_if_lt (tgt := 18) hx hb dX9_boat_10 (by decide) (fun c7 => ?_) (fun c7 => ?_)
      · have h := h.1 c7
        refine lv_aload_n hx hb dX9_boat_18 rfl (lv_at hl 0 rfl) ?_
        refine lv_bipush (v := (-4 : Int32)) hx hb dX9_boat_19 (by decide) ?_
        refine gVi (As := [.int (-4 : Int32)]) (rest := []) ⟨hx, hb, hml, hown, hts⟩ (kX9_refuse l D Y A hI H.size S (-4 : Int32) _ h) (cwV 1 hts gX9_boat_X9_refuse rfl rfl rfl (by decide +kernel) ⟨Nat.le_of_ble_eq_true rfl, Nat.le_of_ble_eq_true rfl⟩) hK hP hS (gF_le hS.1) (aC0 Y A S) (show vwCl[9]? = some (RX9, TX9, 15) from rfl) rfl rfl hl.1 (Nat.le_of_ble_eq_true rfl) dX9_boat_21 ⟨Nat.zero_le _, Nat.zero_le _⟩ ?_
        intro r9 S8 H locs h hP hS
        exact hret _ _ _ _ _ _ dX9_boat_24 h hP hS
      · have h := h.2 c7
        refine lv_iload hx hb dX9_boat_13 (lv_at hl 4 rfl) ?_
        refine lv_if_ge (tgt := 25) hx hb dX9_boat_15 (by decide) (fun c10 => ?_) (fun c10 => ?_)
        · have h := h.1 c10
          refine lv_iload_n hx hb dX9_boat_25 rfl (lv_at hl 1 rfl) ?_
          refine lv_bipush (v := (20 : Int32)) hx hb dX9_boat_26 (by decide) ?_
          refine lv_icmp_gt (tgt := 62) hx hb dX9_boat_28 (by decide) (fun c11 => ?_) (fun c11 => ?_)
          · have h := h.1 c11
            refine lv_aload_n hx hb dX9_boat_62 rfl (lv_at hl 0 rfl) ?_
            refine lv_bipush (v := (-6 : Int32)) hx hb dX9_boat_63 (by decide) ?_
            refine gVi (As := [.int (-6 : Int32)]) (rest := []) ⟨hx, hb, hml, hown, hts⟩ (kX9_refuse l D Y A hI H.size S (-6 : Int32) _ h) (cwV 1 hts gX9_boat_X9_refuse rfl rfl rfl (by decide +kernel) ⟨Nat.le_of_ble_eq_true rfl, Nat.le_of_ble_eq_true rfl⟩) hK hP hS (gF_le hS.1) (aC0 Y A S) (show vwCl[9]? = some (RX9, TX9, 15) from rfl) rfl rfl hl.1 (Nat.le_of_ble_eq_true rfl) dX9_boat_65 ⟨Nat.zero_le _, Nat.zero_le _⟩ ?_
            intro r13 S12 H locs h hP hS
            exact hret _ _ _ _ _ _ dX9_boat_68 h hP hS
          · have h := h.2 c11
            refine lv_iload_n hx hb dX9_boat_31 rfl (lv_at hl 2 rfl) ?_
            refine lv_bipush (v := (60 : Int32)) hx hb dX9_boat_32 (by decide) ?_
            refine lv_icmp_gt (tgt := 62) hx hb dX9_boat_34 (by decide) (fun c14 => ?_) (fun c14 => ?_)
            · have h := h.1 c14
              refine lv_aload_n hx hb dX9_boat_62 rfl (lv_at hl 0 rfl) ?_
              refine lv_bipush (v := (-6 : Int32)) hx hb dX9_boat_63 (by decide) ?_
              refine gVi (As := [.int (-6 : Int32)]) (rest := []) ⟨hx, hb, hml, hown, hts⟩ (kX9_refuse l D Y A hI H.size S (-6 : Int32) _ h) (cwV 1 hts gX9_boat_X9_refuse rfl rfl rfl (by decide +kernel) ⟨Nat.le_of_ble_eq_true rfl, Nat.le_of_ble_eq_true rfl⟩) hK hP hS (gF_le hS.1) (aC0 Y A S) (show vwCl[9]? = some (RX9, TX9, 15) from rfl) rfl rfl hl.1 (Nat.le_of_ble_eq_true rfl) dX9_boat_65 ⟨Nat.zero_le _, Nat.zero_le _⟩ ?_
              intro r16 S15 H locs h hP hS
              exact hret _ _ _ _ _ _ dX9_boat_68 h hP hS
            · have h := h.2 c14
              refine lv_iload_n hx hb dX9_boat_37 rfl (lv_at hl 3 rfl) ?_
              refine lv_bipush (v := (99 : Int32)) hx hb dX9_boat_38 (by decide) ?_
              refine lv_icmp_gt (tgt := 62) hx hb dX9_boat_40 (by decide) (fun c17 => ?_) (fun c17 => ?_)
              · have h := h.1 c17
                refine lv_aload_n hx hb dX9_boat_62 rfl (lv_at hl 0 rfl) ?_
                refine lv_bipush (v := (-6 : Int32)) hx hb dX9_boat_63 (by decide) ?_
                refine gVi (As := [.int (-6 : Int32)]) (rest := []) ⟨hx, hb, hml, hown, hts⟩ (kX9_refuse l D Y A hI H.size S (-6 : Int32) _ h) (cwV 1 hts gX9_boat_X9_refuse rfl rfl rfl (by decide +kernel) ⟨Nat.le_of_ble_eq_true rfl, Nat.le_of_ble_eq_true rfl⟩) hK hP hS (gF_le hS.1) (aC0 Y A S) (show vwCl[9]? = some (RX9, TX9, 15) from rfl) rfl rfl hl.1 (Nat.le_of_ble_eq_true rfl) dX9_boat_65 ⟨Nat.zero_le _, Nat.zero_le _⟩ ?_
                intro r19 S18 H locs h hP hS
                exact hret _ _ _ _ _ _ dX9_boat_68 h hP hS
              · have h := h.2 c17
                refine lv_iload hx hb dX9_boat_43 (lv_at hl 4 rfl) ?_
                refine lv_bipush (v := (15 : Int32)) hx hb dX9_boat_45 (by decide) ?_
                refine lv_icmp_gt (tgt := 62) hx hb dX9_boat_47 (by decide) (fun c20 => ?_) (fun c20 => ?_)
                · have h := h.1 c20
                  refine lv_aload_n hx hb dX9_boat_62 rfl (lv_at hl 0 rfl) ?_
                  refine lv_bipush (v := (-6 : Int32)) hx hb dX9_boat_63 (by decide) ?_
                  refine gVi (As := [.int (-6 : Int32)]) (rest := []) ⟨hx, hb, hml, hown, hts⟩ (kX9_refuse l D Y A hI H.size S (-6 : Int32) _ h) (cwV 1 hts gX9_boat_X9_refuse rfl rfl rfl (by decide +kernel) ⟨Nat.le_of_ble_eq_true rfl, Nat.le_of_ble_eq_true rfl⟩) hK hP hS (gF_le hS.1) (aC0 Y A S) (show vwCl[9]? = some (RX9, TX9, 15) from rfl) rfl rfl hl.1 (Nat.le_of_ble_eq_true rfl) dX9_boat_65 ⟨Nat.zero_le _, Nat.zero_le _⟩ ?_
                  intro r22 S21 H locs h hP hS
                  exact hret _ _ _ _ _ _ dX9_boat_68 h hP hS
                · have h := h.2 c20
                  refine lv_aload_n hx hb dX9_boat_50 rfl (lv_at hl 0 rfl) ?_
                  refine va_get (ci := 9) (v := .ref (A 3)) (C := RX9) (T := TX9) (N := 15) hx hb hts k0 hown hK hP 0 (aC0 Y A S) rfl 8 (by decide) k1 (fun _ h9 => h9) rfl dX9_boat_51 ?_
                  refine va_get (ci := 0) (v := .int (gi S 4)) (C := RX0) (T := TX0) (N := 9) hx hb hts k2 hown hK hP 3 (aC3 Y A S) rfl 0 (by decide) k3 (fun _ h9 => h9) rfl dX9_boat_54 ?_
                  refine lv_bipush (v := (8 : Int32)) hx hb dX9_boat_57 (by decide) ?_
                  refine lv_icmp_lt (tgt := 69) hx hb dX9_boat_59 (by decide) (fun c23 => ?_) (fun c23 => ?_)
                  · have h := h.1 c23
                    refine lv_aload_n hx hb dX9_boat_69 rfl (lv_at hl 0 rfl) ?_
                    refine va_get (ci := 9) (v := .ref (A 3)) (C := RX9) (T := TX9) (N := 15) hx hb hts k0 hown hK hP 0 (aC0 Y A S) rfl 8 (by decide) k1 (fun _ h9 => h9) rfl dX9_boat_70 ?_
                    refine lv_iload_n hx hb dX9_boat_73 rfl (lv_at hl 1 rfl) ?_
                    refine lv_iload_n hx hb dX9_boat_74 rfl (lv_at hl 2 rfl) ?_
                    refine lv_iload_n hx hb dX9_boat_75 rfl (lv_at hl 3 rfl) ?_
                    refine lv_iload hx hb dX9_boat_76 (lv_at hl 4 rfl) ?_
                    refine gVi (As := [.int a1, .int a2, .int a3, .int a4]) (rest := []) ⟨hx, hb, hml, hown, hts⟩ (kX0_add l D Y A hI H.size S a1 a2 a3 a4 _ h) (cwV 4 hts gX9_boat_X0_add rfl rfl rfl (by decide +kernel) ⟨Nat.le_of_ble_eq_true rfl, Nat.le_of_ble_eq_true rfl⟩) hK hP hS (gF_le hS.1) (aC3 Y A S) (show vwCl[0]? = some (RX0, TX0, 9) from rfl) rfl rfl hl.1 (Nat.le_of_ble_eq_true rfl) dX9_boat_78 ⟨Nat.zero_le _, Nat.zero_le _⟩ ?_
                    intro r25 S24 H locs h hP hS
                    exact hret _ _ _ _ _ _ dX9_boat_81 h hP hS
                  · have h := h.2 c23
                    refine lv_aload_n hx hb dX9_boat_62 rfl (lv_at hl 0 rfl) ?_
                    refine lv_bipush (v := (-6 : Int32)) hx hb dX9_boat_63 (by decide) ?_
                    refine gVi (As := [.int (-6 : Int32)]) (rest := []) ⟨hx, hb, hml, hown, hts⟩ (kX9_refuse l D Y A hI H.size S (-6 : Int32) _ h) (cwV 1 hts gX9_boat_X9_refuse rfl rfl rfl (by decide +kernel) ⟨Nat.le_of_ble_eq_true rfl, Nat.le_of_ble_eq_true rfl⟩) hK hP hS (gF_le hS.1) (aC0 Y A S) (show vwCl[9]? = some (RX9, TX9, 15) from rfl) rfl rfl hl.1 (Nat.le_of_ble_eq_true rfl) dX9_boat_65 ⟨Nat.zero_le _, Nat.zero_le _⟩ ?_
                    intro r27 S26 H locs h hP hS
                    exact hret _ _ _ _ _ _ dX9_boat_68 h hP hS
        · have h := h.2 c10
          refine lv_aload_n hx hb dX9_boat_18 rfl (lv_at hl 0 rfl) ?_
          refine lv_bipush (v := (-4 : Int32)) hx hb dX9_boat_19 (by decide) ?_
          refine gVi (As := [.int (-4 : Int32)]) (rest := []) ⟨hx, hb, hml, hown, hts⟩ (kX9_refuse l D Y A hI H.size S (-4 : Int32) _ h) (cwV 1 hts gX9_boat_X9_refuse rfl rfl rfl (by decide +kernel) ⟨Nat.le_of_ble_eq_true rfl, Nat.le_of_ble_eq_true rfl⟩) hK hP hS (gF_le hS.1) (aC0 Y A S) (show vwCl[9]? = some (RX9, TX9, 15) from rfl) rfl rfl hl.1 (Nat.le_of_ble_eq_true rfl) dX9_boat_21 ⟨Nat.zero_le _, Nat.zero_le _⟩ ?_
          intro r29 S28 H locs h hP hS
          exact hret _ _ _ _ _ _ dX9_boat_24 h hP hS

def qX9_isBoat (S : gS) (a1 : Int32) (Q : Int32 → gS → Prop) : Prop :=
  (a1 < 0 → (Q (0 : Int32) S)) ∧ (¬ a1 < 0 → (((gi S 4) ≤ a1 → (Q (0 : Int32) S)) ∧ (¬ (gi S 4) ≤ a1 → (Q (1 : Int32) S))))
abbrev rmX9_isBoat : Room := { frames := 0, cells := 0, slots := 0, locals := 0 }
set_option maxHeartbeats 4000000 in
set_option maxRecDepth 100000 in
theorem kX9_isBoat (l : Launch) (D : va_G) (Y : Nat → ClassId) (A : Nat → Nat) (hI : iC A) (sz : Nat) (S : gS) (a1 : Int32) (Q : Int32 → gS → Prop) (h : qX9_isBoat S a1 Q) : Met l yX9_isBoat wsX9_isBoat rmX9_isBoat (gPc [.ref (A 0), .int a1] sz D vwCl (tY Y) (wC Y A S)) (va_Qi Q (fun S' t => gH D vwCl (tY Y) (wC Y A S') t) (gF A 65 sz)) 0 0 (gF A 65 sz) := by
  refine gMet_z (cc := cX9_isBoat) (maxL := 2) (by decide +kernel) rfl (Nat.le_of_ble_eq_true rfl) (fun p e s m args below meth c Z H locs hx hb hml hts hown hK hP hS hret ls hl => ?_)
  have hown : s.vm.findClass RX9 = some m.cls := hown
  have hl : lv_has ls 2 [(0, .ref (A 0)), (1, .int a1)] := hl
  have hD : ∀ S0 : gS, va_D (gF A 65 s.heap.size) (wC Y A S0) := fun S0 => dC hI S0 (fun k hk => gF_in hk)
  have k0 : ∀ w ∈ u_ws RX9 TX9 15, w ∈ wsX9_isBoat := by decide +kernel
  have k1 := hts (.fieldLink RX9 46 "CoastWatch" "boats" "LCoastWatch$Boats;") (by decide +kernel)
  have k2 : ∀ w ∈ u_ws RX0 TX0 9, w ∈ wsX9_isBoat := by decide +kernel
  have k3 := hts (.fieldLink RX9 145 "CoastWatch$Boats" "size" "I") (by decide +kernel)
  refine lv_iload_n hx hb dX9_isBoat_0 rfl (lv_at hl 1 rfl) ?_
  refine lv_if_lt (tgt := 19) hx hb dX9_isBoat_1 (by decide) (fun c1 => ?_) (fun c1 => ?_)
  · have h := h.1 c1
    refine lv_iconst (v := (0 : Int32)) hx hb dX9_isBoat_19 (by decide) ?_
    exact hret _ _ _ _ _ _ dX9_isBoat_20 rfl h hP hS
  · have h := h.2 c1
    refine lv_iload_n hx hb dX9_isBoat_4 rfl (lv_at hl 1 rfl) ?_
    refine lv_aload_n hx hb dX9_isBoat_5 rfl (lv_at hl 0 rfl) ?_
    refine va_get (ci := 9) (v := .ref (A 3)) (C := RX9) (T := TX9) (N := 15) hx hb hts k0 hown hK hP 0 (aC0 Y A S) rfl 8 (by decide) k1 (fun _ h9 => h9) rfl dX9_isBoat_6 ?_
    refine va_get (ci := 0) (v := .int (gi S 4)) (C := RX0) (T := TX0) (N := 9) hx hb hts k2 hown hK hP 3 (aC3 Y A S) rfl 0 (by decide) k3 (fun _ h9 => h9) rfl dX9_isBoat_9 ?_
    refine lv_icmp_ge (tgt := 19) hx hb dX9_isBoat_12 (by decide) (fun c2 => ?_) (fun c2 => ?_)
    · have h := h.1 c2
      refine lv_iconst (v := (0 : Int32)) hx hb dX9_isBoat_19 (by decide) ?_
      exact hret _ _ _ _ _ _ dX9_isBoat_20 rfl h hP hS
    · have h := h.2 c2
      refine lv_iconst (v := (1 : Int32)) hx hb dX9_isBoat_15 (by decide) ?_
      refine lv_goto (tgt := 20) hx hb dX9_isBoat_16 (by decide) ?_
      exact hret _ _ _ _ _ _ dX9_isBoat_20 rfl h hP hS

def qX9_load (S : gS) (a1 : Int32) (a2 : Int32) (Q : Int32 → gS → Prop) : Prop :=
  qX9_isBoat S a1 (fun r2 S1 => (r2 = 0 → (qX9_refuse S1 (-1 : Int32) (fun r13 S12 => Q r13 S12))) ∧ (¬ r2 = 0 → ((0 ≤ a2 → (vp_in a1 8 ∧ ((a2 ≤ ((ga S1 15 a1.toNatClampNeg) - (ga S1 18 a1.toNatClampNeg)) → (∀ S7 : gS, S7 = sA S1 18 (upd (ga S1 18) a1.toNatClampNeg ((ga S1 18 a1.toNatClampNeg) + a2)) → (Q (ga S7 18 a1.toNatClampNeg) S7))) ∧ (¬ a2 ≤ ((ga S1 15 a1.toNatClampNeg) - (ga S1 18 a1.toNatClampNeg)) → (qX9_refuse S1 (-6 : Int32) (fun r9 S8 => Q r9 S8)))))) ∧ (¬ 0 ≤ a2 → (qX9_refuse S1 (-4 : Int32) (fun r11 S10 => Q r11 S10))))))
abbrev rmX9_load : Room := { frames := 1, cells := 0, slots := 0, locals := 22 }
set_option maxHeartbeats 4000000 in
set_option maxRecDepth 100000 in
theorem kX9_load (l : Launch) (D : va_G) (Y : Nat → ClassId) (A : Nat → Nat) (hI : iC A) (sz : Nat) (S : gS) (a1 : Int32) (a2 : Int32) (Q : Int32 → gS → Prop) (h : qX9_load S a1 a2 Q) : Met l yX9_load wsX9_load rmX9_load (gPc [.ref (A 0), .int a1, .int a2] sz D vwCl (tY Y) (wC Y A S)) (va_Qi Q (fun S' t => gH D vwCl (tY Y) (wC Y A S') t) (gF A 65 sz)) 0 0 (gF A 65 sz) := by
  refine gMet_i (cc := cX9_load) (maxL := 3) (by decide +kernel) rfl (Nat.le_of_ble_eq_true rfl) (fun p e s m args below meth c Z H locs hx hb hml hts hown hK hP hS hret ls hl => ?_)
  have hown : s.vm.findClass RX9 = some m.cls := hown
  have hl : lv_has ls 3 [(0, .ref (A 0)), (1, .int a1), (2, .int a2)] := hl
  have hD : ∀ S0 : gS, va_D (gF A 65 s.heap.size) (wC Y A S0) := fun S0 => dC hI S0 (fun k hk => gF_in hk)
  have k0 : ∀ w ∈ u_ws RX9 TX9 15, w ∈ wsX9_load := by decide +kernel
  have k1 := hts (.fieldLink RX9 46 "CoastWatch" "boats" "LCoastWatch$Boats;") (by decide +kernel)
  have k2 : ∀ w ∈ u_ws RX0 TX0 9, w ∈ wsX9_load := by decide +kernel
  have k3 := hts (.fieldLink RX9 155 "CoastWatch$Boats" "hold" "[I") (by decide +kernel)
  have k4 := hts (.fieldLink RX9 158 "CoastWatch$Boats" "casks" "[I") (by decide +kernel)
  refine lv_aload_n hx hb dX9_load_0 rfl (lv_at hl 0 rfl) ?_
  refine lv_iload_n hx hb dX9_load_1 rfl (lv_at hl 1 rfl) ?_
  refine gVi (As := [.int a1]) (rest := []) ⟨hx, hb, hml, hown, hts⟩ (kX9_isBoat l D Y A hI H.size S a1 _ h) (cwV 1 hts gX9_load_X9_isBoat rfl rfl rfl (by decide +kernel) ⟨Nat.le_of_ble_eq_true rfl, Nat.le_of_ble_eq_true rfl⟩) hK hP hS (gF_le hS.1) (aC0 Y A S) (show vwCl[9]? = some (RX9, TX9, 15) from rfl) rfl rfl hl.1 (Nat.le_of_ble_eq_true rfl) dX9_load_2 ⟨Nat.zero_le _, Nat.zero_le _⟩ ?_
  intro r2 S1 H locs h hP hS
  refine lv_if_ne (tgt := 14) hx hb dX9_load_5 (by decide) (fun c3 => ?_) (fun c3 => ?_)
  · have h := h.2 c3
    refine lv_iload_n hx hb dX9_load_14 rfl (lv_at hl 2 rfl) ?_
    refine lv_if_ge (tgt := 25) hx hb dX9_load_15 (by decide) (fun c4 => ?_) (fun c4 => ?_)
    · have h := h.1 c4
      refine lv_iload_n hx hb dX9_load_25 rfl (lv_at hl 2 rfl) ?_
      refine lv_aload_n hx hb dX9_load_26 rfl (lv_at hl 0 rfl) ?_
      refine va_get (ci := 9) (v := .ref (A 3)) (C := RX9) (T := TX9) (N := 15) hx hb hts k0 hown hK hP 0 (aC0 Y A S1) rfl 8 (by decide) k1 (fun _ h9 => h9) rfl dX9_load_27 ?_
      refine va_get (ci := 0) (v := .ref (A 26)) (C := RX0) (T := TX0) (N := 9) hx hb hts k2 hown hK hP 3 (aC3 Y A S1) rfl 2 (by decide) k3 (fun _ h9 => h9) rfl dX9_load_30 ?_
      refine lv_iload_n hx hb dX9_load_33 rfl (lv_at hl 1 rfl) ?_
      have v_5 := h.1
      have h := h.2
      refine va_iald hx hb hK hP 26 0 (aC26 Y A S1) rfl v_5 dX9_load_34 ?_
      refine lv_aload_n hx hb dX9_load_35 rfl (lv_at hl 0 rfl) ?_
      refine va_get (ci := 9) (v := .ref (A 3)) (C := RX9) (T := TX9) (N := 15) hx hb hts k0 hown hK hP 0 (aC0 Y A S1) rfl 8 (by decide) k1 (fun _ h9 => h9) rfl dX9_load_36 ?_
      refine va_get (ci := 0) (v := .ref (A 29)) (C := RX0) (T := TX0) (N := 9) hx hb hts k2 hown hK hP 3 (aC3 Y A S1) rfl 5 (by decide) k4 (fun _ h9 => h9) rfl dX9_load_39 ?_
      refine lv_iload_n hx hb dX9_load_42 rfl (lv_at hl 1 rfl) ?_
      refine va_iald hx hb hK hP 29 0 (aC29 Y A S1) rfl v_5 dX9_load_43 ?_
      refine lv_isub hx hb dX9_load_44 ?_
      refine lv_icmp_le (tgt := 55) hx hb dX9_load_45 (by decide) (fun c6 => ?_) (fun c6 => ?_)
      · have h := h.1 c6
        refine lv_aload_n hx hb dX9_load_55 rfl (lv_at hl 0 rfl) ?_
        refine va_get (ci := 9) (v := .ref (A 3)) (C := RX9) (T := TX9) (N := 15) hx hb hts k0 hown hK hP 0 (aC0 Y A S1) rfl 8 (by decide) k1 (fun _ h9 => h9) rfl dX9_load_56 ?_
        refine va_get (ci := 0) (v := .ref (A 29)) (C := RX0) (T := TX0) (N := 9) hx hb hts k2 hown hK hP 3 (aC3 Y A S1) rfl 5 (by decide) k4 (fun _ h9 => h9) rfl dX9_load_59 ?_
        refine lv_iload_n hx hb dX9_load_62 rfl (lv_at hl 1 rfl) ?_
        refine lv_dup2_11 hx hb dX9_load_63 rfl rfl ?_
        refine va_iald hx hb hK hP 29 0 (aC29 Y A S1) rfl v_5 dX9_load_64 ?_
        refine lv_iload_n hx hb dX9_load_65 rfl (lv_at hl 2 rfl) ?_
        refine lv_iadd hx hb dX9_load_66 ?_
        obtain ⟨S7, eS7⟩ : ∃ z : gS, z = sA S1 18 (upd (ga S1 18) a1.toNatClampNeg ((ga S1 18 a1.toNatClampNeg) + a2)) := ⟨_, rfl⟩
        refine va_iast hx hb hK hP (hD S1) hS 29 0 (aC29 Y A S1) rfl v_5 dX9_load_67 (fun H locs hP _ hS => ?_)
        have hP := uC29 eS7 hP
        have h := h S7 eS7
        refine lv_aload_n hx hb dX9_load_68 rfl (lv_at hl 0 rfl) ?_
        refine va_get (ci := 9) (v := .ref (A 3)) (C := RX9) (T := TX9) (N := 15) hx hb hts k0 hown hK hP 0 (aC0 Y A S7) rfl 8 (by decide) k1 (fun _ h9 => h9) rfl dX9_load_69 ?_
        refine va_get (ci := 0) (v := .ref (A 29)) (C := RX0) (T := TX0) (N := 9) hx hb hts k2 hown hK hP 3 (aC3 Y A S7) rfl 5 (by decide) k4 (fun _ h9 => h9) rfl dX9_load_72 ?_
        refine lv_iload_n hx hb dX9_load_75 rfl (lv_at hl 1 rfl) ?_
        refine va_iald hx hb hK hP 29 0 (aC29 Y A S7) rfl v_5 dX9_load_76 ?_
        exact hret _ _ _ _ _ _ dX9_load_77 h hP hS
      · have h := h.2 c6
        refine lv_aload_n hx hb dX9_load_48 rfl (lv_at hl 0 rfl) ?_
        refine lv_bipush (v := (-6 : Int32)) hx hb dX9_load_49 (by decide) ?_
        refine gVi (As := [.int (-6 : Int32)]) (rest := []) ⟨hx, hb, hml, hown, hts⟩ (kX9_refuse l D Y A hI H.size S1 (-6 : Int32) _ h) (cwV 1 hts gX9_load_X9_refuse rfl rfl rfl (by decide +kernel) ⟨Nat.le_of_ble_eq_true rfl, Nat.le_of_ble_eq_true rfl⟩) hK hP hS (gF_le hS.1) (aC0 Y A S1) (show vwCl[9]? = some (RX9, TX9, 15) from rfl) rfl rfl hl.1 (Nat.le_of_ble_eq_true rfl) dX9_load_51 ⟨Nat.zero_le _, Nat.zero_le _⟩ ?_
        intro r9 S8 H locs h hP hS
        exact hret _ _ _ _ _ _ dX9_load_54 h hP hS
    · have h := h.2 c4
      refine lv_aload_n hx hb dX9_load_18 rfl (lv_at hl 0 rfl) ?_
      refine lv_bipush (v := (-4 : Int32)) hx hb dX9_load_19 (by decide) ?_
      refine gVi (As := [.int (-4 : Int32)]) (rest := []) ⟨hx, hb, hml, hown, hts⟩ (kX9_refuse l D Y A hI H.size S1 (-4 : Int32) _ h) (cwV 1 hts gX9_load_X9_refuse rfl rfl rfl (by decide +kernel) ⟨Nat.le_of_ble_eq_true rfl, Nat.le_of_ble_eq_true rfl⟩) hK hP hS (gF_le hS.1) (aC0 Y A S1) (show vwCl[9]? = some (RX9, TX9, 15) from rfl) rfl rfl hl.1 (Nat.le_of_ble_eq_true rfl) dX9_load_21 ⟨Nat.zero_le _, Nat.zero_le _⟩ ?_
      intro r11 S10 H locs h hP hS
      exact hret _ _ _ _ _ _ dX9_load_24 h hP hS
  · have h := h.1 c3
    refine lv_aload_n hx hb dX9_load_8 rfl (lv_at hl 0 rfl) ?_
    refine lv_iconst (v := (-1 : Int32)) hx hb dX9_load_9 (by decide) ?_
    refine gVi (As := [.int (-1 : Int32)]) (rest := []) ⟨hx, hb, hml, hown, hts⟩ (kX9_refuse l D Y A hI H.size S1 (-1 : Int32) _ h) (cwV 1 hts gX9_load_X9_refuse rfl rfl rfl (by decide +kernel) ⟨Nat.le_of_ble_eq_true rfl, Nat.le_of_ble_eq_true rfl⟩) hK hP hS (gF_le hS.1) (aC0 Y A S1) (show vwCl[9]? = some (RX9, TX9, 15) from rfl) rfl rfl hl.1 (Nat.le_of_ble_eq_true rfl) dX9_load_10 ⟨Nat.zero_le _, Nat.zero_le _⟩ ?_
    intro r13 S12 H locs h hP hS
    exact hret _ _ _ _ _ _ dX9_load_13 h hP hS

def qX9_hide (S : gS) (a1 : Int32) (a2 : Int32) (a3 : Int32) (Q : Int32 → gS → Prop) : Prop :=
  qX9_isCove S a1 (fun r2 S1 => (r2 = 0 → (qX9_refuse S1 (-1 : Int32) (fun r22 S21 => Q r22 S21))) ∧ (¬ r2 = 0 → ((a2 < (1 : Int32) → (qX9_refuse S1 (-4 : Int32) (fun r6 S5 => Q r6 S5))) ∧ (¬ a2 < (1 : Int32) → (((1 : Int32) ≤ a3 → (((200 : Int32) < a2 → (qX9_refuse S1 (-6 : Int32) (fun r10 S9 => Q r10 S9))) ∧ (¬ (200 : Int32) < a2 → (((20 : Int32) < a3 → (qX9_refuse S1 (-6 : Int32) (fun r13 S12 => Q r13 S12))) ∧ (¬ (20 : Int32) < a3 → (((gi S1 5) < (12 : Int32) → (qX3_add S1 a1 a2 a3 (fun r16 S15 => Q r16 S15))) ∧ (¬ (gi S1 5) < (12 : Int32) → (qX9_refuse S1 (-6 : Int32) (fun r18 S17 => Q r18 S17))))))))) ∧ (¬ (1 : Int32) ≤ a3 → (qX9_refuse S1 (-4 : Int32) (fun r20 S19 => Q r20 S19))))))))
abbrev rmX9_hide : Room := { frames := 1, cells := 0, slots := 0, locals := 24 }
set_option maxHeartbeats 4000000 in
set_option maxRecDepth 100000 in
theorem kX9_hide (l : Launch) (D : va_G) (Y : Nat → ClassId) (A : Nat → Nat) (hI : iC A) (sz : Nat) (S : gS) (a1 : Int32) (a2 : Int32) (a3 : Int32) (Q : Int32 → gS → Prop) (h : qX9_hide S a1 a2 a3 Q) : Met l yX9_hide wsX9_hide rmX9_hide (gPc [.ref (A 0), .int a1, .int a2, .int a3] sz D vwCl (tY Y) (wC Y A S)) (va_Qi Q (fun S' t => gH D vwCl (tY Y) (wC Y A S') t) (gF A 65 sz)) 0 0 (gF A 65 sz) := by
  refine gMet_i (cc := cX9_hide) (maxL := 4) (by decide +kernel) rfl (Nat.le_of_ble_eq_true rfl) (fun p e s m args below meth c Z H locs hx hb hml hts hown hK hP hS hret ls hl => ?_)
  have hown : s.vm.findClass RX9 = some m.cls := hown
  have hl : lv_has ls 4 [(0, .ref (A 0)), (1, .int a1), (2, .int a2), (3, .int a3)] := hl
  have hD : ∀ S0 : gS, va_D (gF A 65 s.heap.size) (wC Y A S0) := fun S0 => dC hI S0 (fun k hk => gF_in hk)
  have k0 : ∀ w ∈ u_ws RX9 TX9 15, w ∈ wsX9_hide := by decide +kernel
  have k1 := hts (.fieldLink RX9 53 "CoastWatch" "hides" "LCoastWatch$Hides;") (by decide +kernel)
  have k2 : ∀ w ∈ u_ws RX3 TX3 7, w ∈ wsX9_hide := by decide +kernel
  have k3 := hts (.fieldLink RX9 161 "CoastWatch$Hides" "size" "I") (by decide +kernel)
  refine lv_iload_n hx hb dX9_hide_0 rfl (lv_at hl 1 rfl) ?_
  refine gSi (As := [.int a1]) (rest := []) ⟨hx, hb, hml, hown, hts⟩ (kX9_isCove l D Y A hI H.size S a1 _ h) (va_cwS 1 hts gX9_hide_X9_isCove rfl rfl rfl (by decide +kernel) ⟨Nat.le_of_ble_eq_true rfl, Nat.le_of_ble_eq_true rfl⟩) hK hP hS (gF_le hS.1) rfl rfl hl.1 (Nat.le_of_ble_eq_true rfl) dX9_hide_1 ⟨Nat.zero_le _, Nat.zero_le _⟩ ?_
  intro r2 S1 H locs h hP hS
  refine lv_if_ne (tgt := 13) hx hb dX9_hide_4 (by decide) (fun c3 => ?_) (fun c3 => ?_)
  · have h := h.2 c3
    refine lv_iload_n hx hb dX9_hide_13 rfl (lv_at hl 2 rfl) ?_
    refine lv_iconst (v := (1 : Int32)) hx hb dX9_hide_14 (by decide) ?_
    refine lv_icmp_lt (tgt := 23) hx hb dX9_hide_15 (by decide) (fun c4 => ?_) (fun c4 => ?_)
    · have h := h.1 c4
      refine lv_aload_n hx hb dX9_hide_23 rfl (lv_at hl 0 rfl) ?_
      refine lv_bipush (v := (-4 : Int32)) hx hb dX9_hide_24 (by decide) ?_
      refine gVi (As := [.int (-4 : Int32)]) (rest := []) ⟨hx, hb, hml, hown, hts⟩ (kX9_refuse l D Y A hI H.size S1 (-4 : Int32) _ h) (cwV 1 hts gX9_hide_X9_refuse rfl rfl rfl (by decide +kernel) ⟨Nat.le_of_ble_eq_true rfl, Nat.le_of_ble_eq_true rfl⟩) hK hP hS (gF_le hS.1) (aC0 Y A S1) (show vwCl[9]? = some (RX9, TX9, 15) from rfl) rfl rfl hl.1 (Nat.le_of_ble_eq_true rfl) dX9_hide_26 ⟨Nat.zero_le _, Nat.zero_le _⟩ ?_
      intro r6 S5 H locs h hP hS
      exact hret _ _ _ _ _ _ dX9_hide_29 h hP hS
    · have h := h.2 c4
      refine lv_iload_n hx hb dX9_hide_18 rfl (lv_at hl 3 rfl) ?_
      refine lv_iconst (v := (1 : Int32)) hx hb dX9_hide_19 (by decide) ?_
      refine lv_icmp_ge (tgt := 30) hx hb dX9_hide_20 (by decide) (fun c7 => ?_) (fun c7 => ?_)
      · have h := h.1 c7
        refine lv_iload_n hx hb dX9_hide_30 rfl (lv_at hl 2 rfl) ?_
        refine lv_sipush (v := (200 : Int32)) hx hb dX9_hide_31 (by decide) ?_
        refine lv_icmp_gt (tgt := 55) hx hb dX9_hide_34 (by decide) (fun c8 => ?_) (fun c8 => ?_)
        · have h := h.1 c8
          refine lv_aload_n hx hb dX9_hide_55 rfl (lv_at hl 0 rfl) ?_
          refine lv_bipush (v := (-6 : Int32)) hx hb dX9_hide_56 (by decide) ?_
          refine gVi (As := [.int (-6 : Int32)]) (rest := []) ⟨hx, hb, hml, hown, hts⟩ (kX9_refuse l D Y A hI H.size S1 (-6 : Int32) _ h) (cwV 1 hts gX9_hide_X9_refuse rfl rfl rfl (by decide +kernel) ⟨Nat.le_of_ble_eq_true rfl, Nat.le_of_ble_eq_true rfl⟩) hK hP hS (gF_le hS.1) (aC0 Y A S1) (show vwCl[9]? = some (RX9, TX9, 15) from rfl) rfl rfl hl.1 (Nat.le_of_ble_eq_true rfl) dX9_hide_58 ⟨Nat.zero_le _, Nat.zero_le _⟩ ?_
          intro r10 S9 H locs h hP hS
          exact hret _ _ _ _ _ _ dX9_hide_61 h hP hS
        · have h := h.2 c8
          refine lv_iload_n hx hb dX9_hide_37 rfl (lv_at hl 3 rfl) ?_
          refine lv_bipush (v := (20 : Int32)) hx hb dX9_hide_38 (by decide) ?_
          refine lv_icmp_gt (tgt := 55) hx hb dX9_hide_40 (by decide) (fun c11 => ?_) (fun c11 => ?_)
          · have h := h.1 c11
            refine lv_aload_n hx hb dX9_hide_55 rfl (lv_at hl 0 rfl) ?_
            refine lv_bipush (v := (-6 : Int32)) hx hb dX9_hide_56 (by decide) ?_
            refine gVi (As := [.int (-6 : Int32)]) (rest := []) ⟨hx, hb, hml, hown, hts⟩ (kX9_refuse l D Y A hI H.size S1 (-6 : Int32) _ h) (cwV 1 hts gX9_hide_X9_refuse rfl rfl rfl (by decide +kernel) ⟨Nat.le_of_ble_eq_true rfl, Nat.le_of_ble_eq_true rfl⟩) hK hP hS (gF_le hS.1) (aC0 Y A S1) (show vwCl[9]? = some (RX9, TX9, 15) from rfl) rfl rfl hl.1 (Nat.le_of_ble_eq_true rfl) dX9_hide_58 ⟨Nat.zero_le _, Nat.zero_le _⟩ ?_
            intro r13 S12 H locs h hP hS
            exact hret _ _ _ _ _ _ dX9_hide_61 h hP hS
          · have h := h.2 c11
            refine lv_aload_n hx hb dX9_hide_43 rfl (lv_at hl 0 rfl) ?_
            refine va_get (ci := 9) (v := .ref (A 4)) (C := RX9) (T := TX9) (N := 15) hx hb hts k0 hown hK hP 0 (aC0 Y A S1) rfl 9 (by decide) k1 (fun _ h9 => h9) rfl dX9_hide_44 ?_
            refine va_get (ci := 3) (v := .int (gi S1 5)) (C := RX3) (T := TX3) (N := 7) hx hb hts k2 hown hK hP 4 (aC4 Y A S1) rfl 0 (by decide) k3 (fun _ h9 => h9) rfl dX9_hide_47 ?_
            refine lv_bipush (v := (12 : Int32)) hx hb dX9_hide_50 (by decide) ?_
            refine lv_icmp_lt (tgt := 62) hx hb dX9_hide_52 (by decide) (fun c14 => ?_) (fun c14 => ?_)
            · have h := h.1 c14
              refine lv_aload_n hx hb dX9_hide_62 rfl (lv_at hl 0 rfl) ?_
              refine va_get (ci := 9) (v := .ref (A 4)) (C := RX9) (T := TX9) (N := 15) hx hb hts k0 hown hK hP 0 (aC0 Y A S1) rfl 9 (by decide) k1 (fun _ h9 => h9) rfl dX9_hide_63 ?_
              refine lv_iload_n hx hb dX9_hide_66 rfl (lv_at hl 1 rfl) ?_
              refine lv_iload_n hx hb dX9_hide_67 rfl (lv_at hl 2 rfl) ?_
              refine lv_iload_n hx hb dX9_hide_68 rfl (lv_at hl 3 rfl) ?_
              refine gVi (As := [.int a1, .int a2, .int a3]) (rest := []) ⟨hx, hb, hml, hown, hts⟩ (kX3_add l D Y A hI H.size S1 a1 a2 a3 _ h) (cwV 3 hts gX9_hide_X3_add rfl rfl rfl (by decide +kernel) ⟨Nat.le_of_ble_eq_true rfl, Nat.le_of_ble_eq_true rfl⟩) hK hP hS (gF_le hS.1) (aC4 Y A S1) (show vwCl[3]? = some (RX3, TX3, 7) from rfl) rfl rfl hl.1 (Nat.le_of_ble_eq_true rfl) dX9_hide_69 ⟨Nat.zero_le _, Nat.zero_le _⟩ ?_
              intro r16 S15 H locs h hP hS
              exact hret _ _ _ _ _ _ dX9_hide_72 h hP hS
            · have h := h.2 c14
              refine lv_aload_n hx hb dX9_hide_55 rfl (lv_at hl 0 rfl) ?_
              refine lv_bipush (v := (-6 : Int32)) hx hb dX9_hide_56 (by decide) ?_
              refine gVi (As := [.int (-6 : Int32)]) (rest := []) ⟨hx, hb, hml, hown, hts⟩ (kX9_refuse l D Y A hI H.size S1 (-6 : Int32) _ h) (cwV 1 hts gX9_hide_X9_refuse rfl rfl rfl (by decide +kernel) ⟨Nat.le_of_ble_eq_true rfl, Nat.le_of_ble_eq_true rfl⟩) hK hP hS (gF_le hS.1) (aC0 Y A S1) (show vwCl[9]? = some (RX9, TX9, 15) from rfl) rfl rfl hl.1 (Nat.le_of_ble_eq_true rfl) dX9_hide_58 ⟨Nat.zero_le _, Nat.zero_le _⟩ ?_
              intro r18 S17 H locs h hP hS
              exact hret _ _ _ _ _ _ dX9_hide_61 h hP hS
      · have h := h.2 c7
        refine lv_aload_n hx hb dX9_hide_23 rfl (lv_at hl 0 rfl) ?_
        refine lv_bipush (v := (-4 : Int32)) hx hb dX9_hide_24 (by decide) ?_
        refine gVi (As := [.int (-4 : Int32)]) (rest := []) ⟨hx, hb, hml, hown, hts⟩ (kX9_refuse l D Y A hI H.size S1 (-4 : Int32) _ h) (cwV 1 hts gX9_hide_X9_refuse rfl rfl rfl (by decide +kernel) ⟨Nat.le_of_ble_eq_true rfl, Nat.le_of_ble_eq_true rfl⟩) hK hP hS (gF_le hS.1) (aC0 Y A S1) (show vwCl[9]? = some (RX9, TX9, 15) from rfl) rfl rfl hl.1 (Nat.le_of_ble_eq_true rfl) dX9_hide_26 ⟨Nat.zero_le _, Nat.zero_le _⟩ ?_
        intro r20 S19 H locs h hP hS
        exact hret _ _ _ _ _ _ dX9_hide_29 h hP hS
  · have h := h.1 c3
    refine lv_aload_n hx hb dX9_hide_7 rfl (lv_at hl 0 rfl) ?_
    refine lv_iconst (v := (-1 : Int32)) hx hb dX9_hide_8 (by decide) ?_
    refine gVi (As := [.int (-1 : Int32)]) (rest := []) ⟨hx, hb, hml, hown, hts⟩ (kX9_refuse l D Y A hI H.size S1 (-1 : Int32) _ h) (cwV 1 hts gX9_hide_X9_refuse rfl rfl rfl (by decide +kernel) ⟨Nat.le_of_ble_eq_true rfl, Nat.le_of_ble_eq_true rfl⟩) hK hP hS (gF_le hS.1) (aC0 Y A S1) (show vwCl[9]? = some (RX9, TX9, 15) from rfl) rfl rfl hl.1 (Nat.le_of_ble_eq_true rfl) dX9_hide_9 ⟨Nat.zero_le _, Nat.zero_le _⟩ ?_
    intro r22 S21 H locs h hP hS
    exact hret _ _ _ _ _ _ dX9_hide_12 h hP hS

def qX9_stand (S : gS) (a1 : Int32) (a2 : Int32) (Q : Int32 → gS → Prop) : Prop :=
  qX9_isCove S a1 (fun r2 S1 => (r2 = 0 → (qX9_refuse S1 (-1 : Int32) (fun r14 S13 => Q r14 S13))) ∧ (¬ r2 = 0 → ((0 ≤ a2 → ((a2 ≤ (9 : Int32) → (vp_in a1 6 ∧ (∀ x7 : Int32, x7 = (ga S1 10 a1.toNatClampNeg) → (∀ S8 : gS, S8 = sA S1 10 (upd (ga S1 10) a1.toNatClampNeg a2) → (Q x7 S8))))) ∧ (¬ a2 ≤ (9 : Int32) → (qX9_refuse S1 (-6 : Int32) (fun r10 S9 => Q r10 S9))))) ∧ (¬ 0 ≤ a2 → (qX9_refuse S1 (-4 : Int32) (fun r12 S11 => Q r12 S11))))))
abbrev rmX9_stand : Room := { frames := 1, cells := 0, slots := 0, locals := 22 }
set_option maxHeartbeats 4000000 in
set_option maxRecDepth 100000 in
theorem kX9_stand (l : Launch) (D : va_G) (Y : Nat → ClassId) (A : Nat → Nat) (hI : iC A) (sz : Nat) (S : gS) (a1 : Int32) (a2 : Int32) (Q : Int32 → gS → Prop) (h : qX9_stand S a1 a2 Q) : Met l yX9_stand wsX9_stand rmX9_stand (gPc [.ref (A 0), .int a1, .int a2] sz D vwCl (tY Y) (wC Y A S)) (va_Qi Q (fun S' t => gH D vwCl (tY Y) (wC Y A S') t) (gF A 65 sz)) 0 0 (gF A 65 sz) := by
  refine gMet_i (cc := cX9_stand) (maxL := 4) (by decide +kernel) rfl (Nat.le_of_ble_eq_true rfl) (fun p e s m args below meth c Z H locs hx hb hml hts hown hK hP hS hret ls hl => ?_)
  have hown : s.vm.findClass RX9 = some m.cls := hown
  have hl : lv_has ls 4 [(0, .ref (A 0)), (1, .int a1), (2, .int a2)] := hl
  have hD : ∀ S0 : gS, va_D (gF A 65 s.heap.size) (wC Y A S0) := fun S0 => dC hI S0 (fun k hk => gF_in hk)
  have k0 : ∀ w ∈ u_ws RX9 TX9 15, w ∈ wsX9_stand := by decide +kernel
  have k1 := hts (.fieldLink RX9 39 "CoastWatch" "coves" "LCoastWatch$Coves;") (by decide +kernel)
  have k2 : ∀ w ∈ u_ws RX1 TX1 7, w ∈ wsX9_stand := by decide +kernel
  have k3 := hts (.fieldLink RX9 165 "CoastWatch$Coves" "standing" "[I") (by decide +kernel)
  refine lv_iload_n hx hb dX9_stand_0 rfl (lv_at hl 1 rfl) ?_
  refine gSi (As := [.int a1]) (rest := []) ⟨hx, hb, hml, hown, hts⟩ (kX9_isCove l D Y A hI H.size S a1 _ h) (va_cwS 1 hts gX9_stand_X9_isCove rfl rfl rfl (by decide +kernel) ⟨Nat.le_of_ble_eq_true rfl, Nat.le_of_ble_eq_true rfl⟩) hK hP hS (gF_le hS.1) rfl rfl hl.1 (Nat.le_of_ble_eq_true rfl) dX9_stand_1 ⟨Nat.zero_le _, Nat.zero_le _⟩ ?_
  intro r2 S1 H locs h hP hS
  refine lv_if_ne (tgt := 13) hx hb dX9_stand_4 (by decide) (fun c3 => ?_) (fun c3 => ?_)
  · have h := h.2 c3
    refine lv_iload_n hx hb dX9_stand_13 rfl (lv_at hl 2 rfl) ?_
    refine lv_if_ge (tgt := 24) hx hb dX9_stand_14 (by decide) (fun c4 => ?_) (fun c4 => ?_)
    · have h := h.1 c4
      refine lv_iload_n hx hb dX9_stand_24 rfl (lv_at hl 2 rfl) ?_
      refine lv_bipush (v := (9 : Int32)) hx hb dX9_stand_25 (by decide) ?_
      refine lv_icmp_le (tgt := 37) hx hb dX9_stand_27 (by decide) (fun c5 => ?_) (fun c5 => ?_)
      · have h := h.1 c5
        refine lv_aload_n hx hb dX9_stand_37 rfl (lv_at hl 0 rfl) ?_
        refine va_get (ci := 9) (v := .ref (A 2)) (C := RX9) (T := TX9) (N := 15) hx hb hts k0 hown hK hP 0 (aC0 Y A S1) rfl 7 (by decide) k1 (fun _ h9 => h9) rfl dX9_stand_38 ?_
        refine va_get (ci := 1) (v := .ref (A 21)) (C := RX1) (T := TX1) (N := 7) hx hb hts k2 hown hK hP 2 (aC2 Y A S1) rfl 3 (by decide) k3 (fun _ h9 => h9) rfl dX9_stand_41 ?_
        refine lv_iload_n hx hb dX9_stand_44 rfl (lv_at hl 1 rfl) ?_
        have v_6 := h.1
        have h := h.2
        refine va_iald hx hb hK hP 21 0 (aC21 Y A S1) rfl v_6 dX9_stand_45 ?_
        refine lv_topi (fun x7 ex7 => ?_)
        have h := h x7 ex7
        refine lv_istore_n (lv' := [(3, .int x7), (0, .ref (A 0)), (1, .int a1), (2, .int a2)]) hx hb dX9_stand_46 rfl hl (by decide) rfl (fun ls hl => ?_)
        refine lv_aload_n hx hb dX9_stand_47 rfl (lv_at hl 1 rfl) ?_
        refine va_get (ci := 9) (v := .ref (A 2)) (C := RX9) (T := TX9) (N := 15) hx hb hts k0 hown hK hP 0 (aC0 Y A S1) rfl 7 (by decide) k1 (fun _ h9 => h9) rfl dX9_stand_48 ?_
        refine va_get (ci := 1) (v := .ref (A 21)) (C := RX1) (T := TX1) (N := 7) hx hb hts k2 hown hK hP 2 (aC2 Y A S1) rfl 3 (by decide) k3 (fun _ h9 => h9) rfl dX9_stand_51 ?_
        refine lv_iload_n hx hb dX9_stand_54 rfl (lv_at hl 2 rfl) ?_
        refine lv_iload_n hx hb dX9_stand_55 rfl (lv_at hl 3 rfl) ?_
        obtain ⟨S8, eS8⟩ : ∃ z : gS, z = sA S1 10 (upd (ga S1 10) a1.toNatClampNeg a2) := ⟨_, rfl⟩
        refine va_iast hx hb hK hP (hD S1) hS 21 0 (aC21 Y A S1) rfl v_6 dX9_stand_56 (fun H locs hP _ hS => ?_)
        have hP := uC21 eS8 hP
        have h := h S8 eS8
        refine lv_iload_n hx hb dX9_stand_57 rfl (lv_at hl 0 rfl) ?_
        exact hret _ _ _ _ _ _ dX9_stand_58 h hP hS
      · have h := h.2 c5
        refine lv_aload_n hx hb dX9_stand_30 rfl (lv_at hl 0 rfl) ?_
        refine lv_bipush (v := (-6 : Int32)) hx hb dX9_stand_31 (by decide) ?_
        refine gVi (As := [.int (-6 : Int32)]) (rest := []) ⟨hx, hb, hml, hown, hts⟩ (kX9_refuse l D Y A hI H.size S1 (-6 : Int32) _ h) (cwV 1 hts gX9_stand_X9_refuse rfl rfl rfl (by decide +kernel) ⟨Nat.le_of_ble_eq_true rfl, Nat.le_of_ble_eq_true rfl⟩) hK hP hS (gF_le hS.1) (aC0 Y A S1) (show vwCl[9]? = some (RX9, TX9, 15) from rfl) rfl rfl hl.1 (Nat.le_of_ble_eq_true rfl) dX9_stand_33 ⟨Nat.zero_le _, Nat.zero_le _⟩ ?_
        intro r10 S9 H locs h hP hS
        exact hret _ _ _ _ _ _ dX9_stand_36 h hP hS
    · have h := h.2 c4
      refine lv_aload_n hx hb dX9_stand_17 rfl (lv_at hl 0 rfl) ?_
      refine lv_bipush (v := (-4 : Int32)) hx hb dX9_stand_18 (by decide) ?_
      refine gVi (As := [.int (-4 : Int32)]) (rest := []) ⟨hx, hb, hml, hown, hts⟩ (kX9_refuse l D Y A hI H.size S1 (-4 : Int32) _ h) (cwV 1 hts gX9_stand_X9_refuse rfl rfl rfl (by decide +kernel) ⟨Nat.le_of_ble_eq_true rfl, Nat.le_of_ble_eq_true rfl⟩) hK hP hS (gF_le hS.1) (aC0 Y A S1) (show vwCl[9]? = some (RX9, TX9, 15) from rfl) rfl rfl hl.1 (Nat.le_of_ble_eq_true rfl) dX9_stand_20 ⟨Nat.zero_le _, Nat.zero_le _⟩ ?_
      intro r12 S11 H locs h hP hS
      exact hret _ _ _ _ _ _ dX9_stand_23 h hP hS
  · have h := h.1 c3
    refine lv_aload_n hx hb dX9_stand_7 rfl (lv_at hl 0 rfl) ?_
    refine lv_iconst (v := (-1 : Int32)) hx hb dX9_stand_8 (by decide) ?_
    refine gVi (As := [.int (-1 : Int32)]) (rest := []) ⟨hx, hb, hml, hown, hts⟩ (kX9_refuse l D Y A hI H.size S1 (-1 : Int32) _ h) (cwV 1 hts gX9_stand_X9_refuse rfl rfl rfl (by decide +kernel) ⟨Nat.le_of_ble_eq_true rfl, Nat.le_of_ble_eq_true rfl⟩) hK hP hS (gF_le hS.1) (aC0 Y A S1) (show vwCl[9]? = some (RX9, TX9, 15) from rfl) rfl rfl hl.1 (Nat.le_of_ble_eq_true rfl) dX9_stand_9 ⟨Nat.zero_le _, Nat.zero_le _⟩ ?_
    intro r14 S13 H locs h hP hS
    exact hret _ _ _ _ _ _ dX9_stand_12 h hP hS

def qX9_bribe (S : gS) (a1 : Int32) (a2 : Int32) (Q : Int32 → gS → Prop) : Prop :=
  qX9_isCove S a1 (fun r2 S1 => (r2 = 0 → (qX9_refuse S1 (-1 : Int32) (fun r8 S7 => Q r8 S7))) ∧ (¬ r2 = 0 → (vp_in a1 6 ∧ (((ga S1 12 a1.toNatClampNeg) = a2 → (Q (0 : Int32) S1)) ∧ (¬ (ga S1 12 a1.toNatClampNeg) = a2 → (∀ S6 : gS, S6 = sA S1 12 (upd (ga S1 12) a1.toNatClampNeg (vp_nar .boolean a2)) → (Q (1 : Int32) S6)))))))
abbrev rmX9_bribe : Room := { frames := 1, cells := 0, slots := 0, locals := 22 }
set_option maxHeartbeats 4000000 in
set_option maxRecDepth 100000 in
theorem kX9_bribe (l : Launch) (D : va_G) (Y : Nat → ClassId) (A : Nat → Nat) (hI : iC A) (sz : Nat) (S : gS) (a1 : Int32) (a2 : Int32) (Q : Int32 → gS → Prop) (h : qX9_bribe S a1 a2 Q) : Met l yX9_bribe wsX9_bribe rmX9_bribe (gPc [.ref (A 0), .int a1, .int a2] sz D vwCl (tY Y) (wC Y A S)) (va_Qi Q (fun S' t => gH D vwCl (tY Y) (wC Y A S') t) (gF A 65 sz)) 0 0 (gF A 65 sz) := by
  refine gMet_i (cc := cX9_bribe) (maxL := 3) (by decide +kernel) rfl (Nat.le_of_ble_eq_true rfl) (fun p e s m args below meth c Z H locs hx hb hml hts hown hK hP hS hret ls hl => ?_)
  have hown : s.vm.findClass RX9 = some m.cls := hown
  have hl : lv_has ls 3 [(0, .ref (A 0)), (1, .int a1), (2, .int a2)] := hl
  have hD : ∀ S0 : gS, va_D (gF A 65 s.heap.size) (wC Y A S0) := fun S0 => dC hI S0 (fun k hk => gF_in hk)
  have k0 : ∀ w ∈ u_ws RX9 TX9 15, w ∈ wsX9_bribe := by decide +kernel
  have k1 := hts (.fieldLink RX9 39 "CoastWatch" "coves" "LCoastWatch$Coves;") (by decide +kernel)
  have k2 : ∀ w ∈ u_ws RX1 TX1 7, w ∈ wsX9_bribe := by decide +kernel
  have k3 := hts (.fieldLink RX9 168 "CoastWatch$Coves" "bribed" "[Z") (by decide +kernel)
  refine lv_iload_n hx hb dX9_bribe_0 rfl (lv_at hl 1 rfl) ?_
  refine gSi (As := [.int a1]) (rest := []) ⟨hx, hb, hml, hown, hts⟩ (kX9_isCove l D Y A hI H.size S a1 _ h) (va_cwS 1 hts gX9_bribe_X9_isCove rfl rfl rfl (by decide +kernel) ⟨Nat.le_of_ble_eq_true rfl, Nat.le_of_ble_eq_true rfl⟩) hK hP hS (gF_le hS.1) rfl rfl hl.1 (Nat.le_of_ble_eq_true rfl) dX9_bribe_1 ⟨Nat.zero_le _, Nat.zero_le _⟩ ?_
  intro r2 S1 H locs h hP hS
  refine lv_if_ne (tgt := 13) hx hb dX9_bribe_4 (by decide) (fun c3 => ?_) (fun c3 => ?_)
  · have h := h.2 c3
    refine lv_aload_n hx hb dX9_bribe_13 rfl (lv_at hl 0 rfl) ?_
    refine va_get (ci := 9) (v := .ref (A 2)) (C := RX9) (T := TX9) (N := 15) hx hb hts k0 hown hK hP 0 (aC0 Y A S1) rfl 7 (by decide) k1 (fun _ h9 => h9) rfl dX9_bribe_14 ?_
    refine va_get (ci := 1) (v := .ref (A 23)) (C := RX1) (T := TX1) (N := 7) hx hb hts k2 hown hK hP 2 (aC2 Y A S1) rfl 5 (by decide) k3 (fun _ h9 => h9) rfl dX9_bribe_17 ?_
    refine lv_iload_n hx hb dX9_bribe_20 rfl (lv_at hl 1 rfl) ?_
    have v_4 := h.1
    have h := h.2
    refine va_zald hx hb hK hP 23 1 (aC23 Y A S1) rfl v_4 dX9_bribe_21 ?_
    refine lv_iload_n hx hb dX9_bribe_22 rfl (lv_at hl 2 rfl) ?_
    refine lv_icmp_ne (tgt := 28) hx hb dX9_bribe_23 (by decide) (fun c5 => ?_) (fun c5 => ?_)
    · have h := h.2 c5
      refine lv_aload_n hx hb dX9_bribe_28 rfl (lv_at hl 0 rfl) ?_
      refine va_get (ci := 9) (v := .ref (A 2)) (C := RX9) (T := TX9) (N := 15) hx hb hts k0 hown hK hP 0 (aC0 Y A S1) rfl 7 (by decide) k1 (fun _ h9 => h9) rfl dX9_bribe_29 ?_
      refine va_get (ci := 1) (v := .ref (A 23)) (C := RX1) (T := TX1) (N := 7) hx hb hts k2 hown hK hP 2 (aC2 Y A S1) rfl 5 (by decide) k3 (fun _ h9 => h9) rfl dX9_bribe_32 ?_
      refine lv_iload_n hx hb dX9_bribe_35 rfl (lv_at hl 1 rfl) ?_
      refine lv_iload_n hx hb dX9_bribe_36 rfl (lv_at hl 2 rfl) ?_
      obtain ⟨S6, eS6⟩ : ∃ z : gS, z = sA S1 12 (upd (ga S1 12) a1.toNatClampNeg (vp_nar .boolean a2)) := ⟨_, rfl⟩
      refine va_zast hx hb hK hP (hD S1) hS 23 1 (aC23 Y A S1) rfl v_4 dX9_bribe_37 (fun H locs hP _ hS => ?_)
      have hP := uC23 eS6 hP
      have h := h S6 eS6
      refine lv_iconst (v := (1 : Int32)) hx hb dX9_bribe_38 (by decide) ?_
      exact hret _ _ _ _ _ _ dX9_bribe_39 h hP hS
    · have h := h.1 c5
      refine lv_iconst (v := (0 : Int32)) hx hb dX9_bribe_26 (by decide) ?_
      exact hret _ _ _ _ _ _ dX9_bribe_27 h hP hS
  · have h := h.1 c3
    refine lv_aload_n hx hb dX9_bribe_7 rfl (lv_at hl 0 rfl) ?_
    refine lv_iconst (v := (-1 : Int32)) hx hb dX9_bribe_8 (by decide) ?_
    refine gVi (As := [.int (-1 : Int32)]) (rest := []) ⟨hx, hb, hml, hown, hts⟩ (kX9_refuse l D Y A hI H.size S1 (-1 : Int32) _ h) (cwV 1 hts gX9_bribe_X9_refuse rfl rfl rfl (by decide +kernel) ⟨Nat.le_of_ble_eq_true rfl, Nat.le_of_ble_eq_true rfl⟩) hK hP hS (gF_le hS.1) (aC0 Y A S1) (show vwCl[9]? = some (RX9, TX9, 15) from rfl) rfl rfl hl.1 (Nat.le_of_ble_eq_true rfl) dX9_bribe_9 ⟨Nat.zero_le _, Nat.zero_le _⟩ ?_
    intro r8 S7 H locs h hP hS
    exact hret _ _ _ _ _ _ dX9_bribe_12 h hP hS

def qX9_share (S : gS) (a1 : Int32) (a2 : Int32) (Q : Int32 → gS → Prop) : Prop :=
  qX9_isCove S a1 (fun r2 S1 => (r2 = 0 → (qX9_refuse S1 (-1 : Int32) (fun r14 S13 => Q r14 S13))) ∧ (¬ r2 = 0 → ((0 ≤ a2 → ((a2 ≤ (99 : Int32) → (vp_in a1 6 ∧ (∀ x7 : Int32, x7 = (ga S1 11 a1.toNatClampNeg) → (∀ S8 : gS, S8 = sA S1 11 (upd (ga S1 11) a1.toNatClampNeg a2) → (Q x7 S8))))) ∧ (¬ a2 ≤ (99 : Int32) → (qX9_refuse S1 (-6 : Int32) (fun r10 S9 => Q r10 S9))))) ∧ (¬ 0 ≤ a2 → (qX9_refuse S1 (-4 : Int32) (fun r12 S11 => Q r12 S11))))))
abbrev rmX9_share : Room := { frames := 1, cells := 0, slots := 0, locals := 22 }
set_option maxHeartbeats 4000000 in
set_option maxRecDepth 100000 in
theorem kX9_share (l : Launch) (D : va_G) (Y : Nat → ClassId) (A : Nat → Nat) (hI : iC A) (sz : Nat) (S : gS) (a1 : Int32) (a2 : Int32) (Q : Int32 → gS → Prop) (h : qX9_share S a1 a2 Q) : Met l yX9_share wsX9_share rmX9_share (gPc [.ref (A 0), .int a1, .int a2] sz D vwCl (tY Y) (wC Y A S)) (va_Qi Q (fun S' t => gH D vwCl (tY Y) (wC Y A S') t) (gF A 65 sz)) 0 0 (gF A 65 sz) := by
  refine gMet_i (cc := cX9_share) (maxL := 4) (by decide +kernel) rfl (Nat.le_of_ble_eq_true rfl) (fun p e s m args below meth c Z H locs hx hb hml hts hown hK hP hS hret ls hl => ?_)
  have hown : s.vm.findClass RX9 = some m.cls := hown
  have hl : lv_has ls 4 [(0, .ref (A 0)), (1, .int a1), (2, .int a2)] := hl
  have hD : ∀ S0 : gS, va_D (gF A 65 s.heap.size) (wC Y A S0) := fun S0 => dC hI S0 (fun k hk => gF_in hk)
  have k0 : ∀ w ∈ u_ws RX9 TX9 15, w ∈ wsX9_share := by decide +kernel
  have k1 := hts (.fieldLink RX9 39 "CoastWatch" "coves" "LCoastWatch$Coves;") (by decide +kernel)
  have k2 : ∀ w ∈ u_ws RX1 TX1 7, w ∈ wsX9_share := by decide +kernel
  have k3 := hts (.fieldLink RX9 172 "CoastWatch$Coves" "shares" "[I") (by decide +kernel)
  refine lv_iload_n hx hb dX9_share_0 rfl (lv_at hl 1 rfl) ?_
  refine gSi (As := [.int a1]) (rest := []) ⟨hx, hb, hml, hown, hts⟩ (kX9_isCove l D Y A hI H.size S a1 _ h) (va_cwS 1 hts gX9_share_X9_isCove rfl rfl rfl (by decide +kernel) ⟨Nat.le_of_ble_eq_true rfl, Nat.le_of_ble_eq_true rfl⟩) hK hP hS (gF_le hS.1) rfl rfl hl.1 (Nat.le_of_ble_eq_true rfl) dX9_share_1 ⟨Nat.zero_le _, Nat.zero_le _⟩ ?_
  intro r2 S1 H locs h hP hS
  refine lv_if_ne (tgt := 13) hx hb dX9_share_4 (by decide) (fun c3 => ?_) (fun c3 => ?_)
  · have h := h.2 c3
    refine lv_iload_n hx hb dX9_share_13 rfl (lv_at hl 2 rfl) ?_
    refine lv_if_ge (tgt := 24) hx hb dX9_share_14 (by decide) (fun c4 => ?_) (fun c4 => ?_)
    · have h := h.1 c4
      refine lv_iload_n hx hb dX9_share_24 rfl (lv_at hl 2 rfl) ?_
      refine lv_bipush (v := (99 : Int32)) hx hb dX9_share_25 (by decide) ?_
      refine lv_icmp_le (tgt := 37) hx hb dX9_share_27 (by decide) (fun c5 => ?_) (fun c5 => ?_)
      · have h := h.1 c5
        refine lv_aload_n hx hb dX9_share_37 rfl (lv_at hl 0 rfl) ?_
        refine va_get (ci := 9) (v := .ref (A 2)) (C := RX9) (T := TX9) (N := 15) hx hb hts k0 hown hK hP 0 (aC0 Y A S1) rfl 7 (by decide) k1 (fun _ h9 => h9) rfl dX9_share_38 ?_
        refine va_get (ci := 1) (v := .ref (A 22)) (C := RX1) (T := TX1) (N := 7) hx hb hts k2 hown hK hP 2 (aC2 Y A S1) rfl 4 (by decide) k3 (fun _ h9 => h9) rfl dX9_share_41 ?_
        refine lv_iload_n hx hb dX9_share_44 rfl (lv_at hl 1 rfl) ?_
        have v_6 := h.1
        have h := h.2
        refine va_iald hx hb hK hP 22 0 (aC22 Y A S1) rfl v_6 dX9_share_45 ?_
        refine lv_topi (fun x7 ex7 => ?_)
        have h := h x7 ex7
        refine lv_istore_n (lv' := [(3, .int x7), (0, .ref (A 0)), (1, .int a1), (2, .int a2)]) hx hb dX9_share_46 rfl hl (by decide) rfl (fun ls hl => ?_)
        refine lv_aload_n hx hb dX9_share_47 rfl (lv_at hl 1 rfl) ?_
        refine va_get (ci := 9) (v := .ref (A 2)) (C := RX9) (T := TX9) (N := 15) hx hb hts k0 hown hK hP 0 (aC0 Y A S1) rfl 7 (by decide) k1 (fun _ h9 => h9) rfl dX9_share_48 ?_
        refine va_get (ci := 1) (v := .ref (A 22)) (C := RX1) (T := TX1) (N := 7) hx hb hts k2 hown hK hP 2 (aC2 Y A S1) rfl 4 (by decide) k3 (fun _ h9 => h9) rfl dX9_share_51 ?_
        refine lv_iload_n hx hb dX9_share_54 rfl (lv_at hl 2 rfl) ?_
        refine lv_iload_n hx hb dX9_share_55 rfl (lv_at hl 3 rfl) ?_
        obtain ⟨S8, eS8⟩ : ∃ z : gS, z = sA S1 11 (upd (ga S1 11) a1.toNatClampNeg a2) := ⟨_, rfl⟩
        refine va_iast hx hb hK hP (hD S1) hS 22 0 (aC22 Y A S1) rfl v_6 dX9_share_56 (fun H locs hP _ hS => ?_)
        have hP := uC22 eS8 hP
        have h := h S8 eS8
        refine lv_iload_n hx hb dX9_share_57 rfl (lv_at hl 0 rfl) ?_
        exact hret _ _ _ _ _ _ dX9_share_58 h hP hS
      · have h := h.2 c5
        refine lv_aload_n hx hb dX9_share_30 rfl (lv_at hl 0 rfl) ?_
        refine lv_bipush (v := (-6 : Int32)) hx hb dX9_share_31 (by decide) ?_
        refine gVi (As := [.int (-6 : Int32)]) (rest := []) ⟨hx, hb, hml, hown, hts⟩ (kX9_refuse l D Y A hI H.size S1 (-6 : Int32) _ h) (cwV 1 hts gX9_share_X9_refuse rfl rfl rfl (by decide +kernel) ⟨Nat.le_of_ble_eq_true rfl, Nat.le_of_ble_eq_true rfl⟩) hK hP hS (gF_le hS.1) (aC0 Y A S1) (show vwCl[9]? = some (RX9, TX9, 15) from rfl) rfl rfl hl.1 (Nat.le_of_ble_eq_true rfl) dX9_share_33 ⟨Nat.zero_le _, Nat.zero_le _⟩ ?_
        intro r10 S9 H locs h hP hS
        exact hret _ _ _ _ _ _ dX9_share_36 h hP hS
    · have h := h.2 c4
      refine lv_aload_n hx hb dX9_share_17 rfl (lv_at hl 0 rfl) ?_
      refine lv_bipush (v := (-4 : Int32)) hx hb dX9_share_18 (by decide) ?_
      refine gVi (As := [.int (-4 : Int32)]) (rest := []) ⟨hx, hb, hml, hown, hts⟩ (kX9_refuse l D Y A hI H.size S1 (-4 : Int32) _ h) (cwV 1 hts gX9_share_X9_refuse rfl rfl rfl (by decide +kernel) ⟨Nat.le_of_ble_eq_true rfl, Nat.le_of_ble_eq_true rfl⟩) hK hP hS (gF_le hS.1) (aC0 Y A S1) (show vwCl[9]? = some (RX9, TX9, 15) from rfl) rfl rfl hl.1 (Nat.le_of_ble_eq_true rfl) dX9_share_20 ⟨Nat.zero_le _, Nat.zero_le _⟩ ?_
      intro r12 S11 H locs h hP hS
      exact hret _ _ _ _ _ _ dX9_share_23 h hP hS
  · have h := h.1 c3
    refine lv_aload_n hx hb dX9_share_7 rfl (lv_at hl 0 rfl) ?_
    refine lv_iconst (v := (-1 : Int32)) hx hb dX9_share_8 (by decide) ?_
    refine gVi (As := [.int (-1 : Int32)]) (rest := []) ⟨hx, hb, hml, hown, hts⟩ (kX9_refuse l D Y A hI H.size S1 (-1 : Int32) _ h) (cwV 1 hts gX9_share_X9_refuse rfl rfl rfl (by decide +kernel) ⟨Nat.le_of_ble_eq_true rfl, Nat.le_of_ble_eq_true rfl⟩) hK hP hS (gF_le hS.1) (aC0 Y A S1) (show vwCl[9]? = some (RX9, TX9, 15) from rfl) rfl rfl hl.1 (Nat.le_of_ble_eq_true rfl) dX9_share_9 ⟨Nat.zero_le _, Nat.zero_le _⟩ ?_
    intro r14 S13 H locs h hP hS
    exact hret _ _ _ _ _ _ dX9_share_12 h hP hS

def qX9_draws (S : gS) (a1 : Int32) (Q : Int32 → gS → Prop) : Prop :=
  (0 ≤ a1 → ((a1 ≤ (9 : Int32) → (∀ x3 : Int32, x3 = (gi S 2) → (∀ S4 : gS, S4 = sI S 2 a1 → (Q x3 S4)))) ∧ (¬ a1 ≤ (9 : Int32) → (qX9_refuse S (-6 : Int32) (fun r6 S5 => Q r6 S5))))) ∧ (¬ 0 ≤ a1 → (qX9_refuse S (-4 : Int32) (fun r8 S7 => Q r8 S7)))
abbrev rmX9_draws : Room := { frames := 1, cells := 0, slots := 0, locals := 22 }
set_option maxHeartbeats 4000000 in
set_option maxRecDepth 100000 in
theorem kX9_draws (l : Launch) (D : va_G) (Y : Nat → ClassId) (A : Nat → Nat) (hI : iC A) (sz : Nat) (S : gS) (a1 : Int32) (Q : Int32 → gS → Prop) (h : qX9_draws S a1 Q) : Met l yX9_draws wsX9_draws rmX9_draws (gPc [.ref (A 0), .int a1] sz D vwCl (tY Y) (wC Y A S)) (va_Qi Q (fun S' t => gH D vwCl (tY Y) (wC Y A S') t) (gF A 65 sz)) 0 0 (gF A 65 sz) := by
  refine gMet_i (cc := cX9_draws) (maxL := 3) (by decide +kernel) rfl (Nat.le_of_ble_eq_true rfl) (fun p e s m args below meth c Z H locs hx hb hml hts hown hK hP hS hret ls hl => ?_)
  have hown : s.vm.findClass RX9 = some m.cls := hown
  have hl : lv_has ls 3 [(0, .ref (A 0)), (1, .int a1)] := hl
  have hD : ∀ S0 : gS, va_D (gF A 65 s.heap.size) (wC Y A S0) := fun S0 => dC hI S0 (fun k hk => gF_in hk)
  have k0 : ∀ w ∈ u_ws RX9 TX9 15, w ∈ wsX9_draws := by decide +kernel
  have k1 := hts (.fieldLink RX9 16 "CoastWatch" "drawCount" "I") (by decide +kernel)
  refine lv_iload_n hx hb dX9_draws_0 rfl (lv_at hl 1 rfl) ?_
  refine lv_if_ge (tgt := 11) hx hb dX9_draws_1 (by decide) (fun c1 => ?_) (fun c1 => ?_)
  · have h := h.1 c1
    refine lv_iload_n hx hb dX9_draws_11 rfl (lv_at hl 1 rfl) ?_
    refine lv_bipush (v := (9 : Int32)) hx hb dX9_draws_12 (by decide) ?_
    refine lv_icmp_le (tgt := 24) hx hb dX9_draws_14 (by decide) (fun c2 => ?_) (fun c2 => ?_)
    · have h := h.1 c2
      refine lv_aload_n hx hb dX9_draws_24 rfl (lv_at hl 0 rfl) ?_
      refine va_get (ci := 9) (v := .int (gi S 2)) (C := RX9) (T := TX9) (N := 15) hx hb hts k0 hown hK hP 0 (aC0 Y A S) rfl 2 (by decide) k1 (fun _ h9 => h9) rfl dX9_draws_25 ?_
      refine lv_topi (fun x3 ex3 => ?_)
      have h := h x3 ex3
      refine lv_istore_n (lv' := [(2, .int x3), (0, .ref (A 0)), (1, .int a1)]) hx hb dX9_draws_28 rfl hl (by decide) rfl (fun ls hl => ?_)
      refine lv_aload_n hx hb dX9_draws_29 rfl (lv_at hl 1 rfl) ?_
      refine lv_iload_n hx hb dX9_draws_30 rfl (lv_at hl 2 rfl) ?_
      obtain ⟨S4, eS4⟩ : ∃ z : gS, z = sI S 2 a1 := ⟨_, rfl⟩
      have h := h S4 eS4
      refine va_put (ci := 9) (v := .int a1) (ty := .int) (C := RX9) (T := TX9) (N := 15) hx hb hts k0 tyX9 tyX9_ok nmX9 hown hK hP (hD S) hS 0 (aC0 Y A S) rfl 2 (by decide) k1 (fun _ h9 => h9) rfl rfl rfl rfl (by simp) dX9_draws_31 (fun H locs hP _ hS => ?_)
      have hP := pC0_2 eS4 hP
      refine lv_iload_n hx hb dX9_draws_34 rfl (lv_at hl 0 rfl) ?_
      exact hret _ _ _ _ _ _ dX9_draws_35 h hP hS
    · have h := h.2 c2
      refine lv_aload_n hx hb dX9_draws_17 rfl (lv_at hl 0 rfl) ?_
      refine lv_bipush (v := (-6 : Int32)) hx hb dX9_draws_18 (by decide) ?_
      refine gVi (As := [.int (-6 : Int32)]) (rest := []) ⟨hx, hb, hml, hown, hts⟩ (kX9_refuse l D Y A hI H.size S (-6 : Int32) _ h) (cwV 1 hts gX9_draws_X9_refuse rfl rfl rfl (by decide +kernel) ⟨Nat.le_of_ble_eq_true rfl, Nat.le_of_ble_eq_true rfl⟩) hK hP hS (gF_le hS.1) (aC0 Y A S) (show vwCl[9]? = some (RX9, TX9, 15) from rfl) rfl rfl hl.1 (Nat.le_of_ble_eq_true rfl) dX9_draws_20 ⟨Nat.zero_le _, Nat.zero_le _⟩ ?_
      intro r6 S5 H locs h hP hS
      exact hret _ _ _ _ _ _ dX9_draws_23 h hP hS
  · have h := h.2 c1
    refine lv_aload_n hx hb dX9_draws_4 rfl (lv_at hl 0 rfl) ?_
    refine lv_bipush (v := (-4 : Int32)) hx hb dX9_draws_5 (by decide) ?_
    refine gVi (As := [.int (-4 : Int32)]) (rest := []) ⟨hx, hb, hml, hown, hts⟩ (kX9_refuse l D Y A hI H.size S (-4 : Int32) _ h) (cwV 1 hts gX9_draws_X9_refuse rfl rfl rfl (by decide +kernel) ⟨Nat.le_of_ble_eq_true rfl, Nat.le_of_ble_eq_true rfl⟩) hK hP hS (gF_le hS.1) (aC0 Y A S) (show vwCl[9]? = some (RX9, TX9, 15) from rfl) rfl rfl hl.1 (Nat.le_of_ble_eq_true rfl) dX9_draws_7 ⟨Nat.zero_le _, Nat.zero_le _⟩ ?_
    intro r8 S7 H locs h hP hS
    exact hret _ _ _ _ _ _ dX9_draws_10 h hP hS

def qX9_price (S : gS) (a1 : Int32) (Q : Int32 → gS → Prop) : Prop :=
  (0 ≤ a1 → ((a1 ≤ (999 : Int32) → (∀ x3 : Int32, x3 = (gi S 3) → (∀ S4 : gS, S4 = sI S 3 a1 → (Q x3 S4)))) ∧ (¬ a1 ≤ (999 : Int32) → (qX9_refuse S (-6 : Int32) (fun r6 S5 => Q r6 S5))))) ∧ (¬ 0 ≤ a1 → (qX9_refuse S (-4 : Int32) (fun r8 S7 => Q r8 S7)))
abbrev rmX9_price : Room := { frames := 1, cells := 0, slots := 0, locals := 22 }
set_option maxHeartbeats 4000000 in
set_option maxRecDepth 100000 in
theorem kX9_price (l : Launch) (D : va_G) (Y : Nat → ClassId) (A : Nat → Nat) (hI : iC A) (sz : Nat) (S : gS) (a1 : Int32) (Q : Int32 → gS → Prop) (h : qX9_price S a1 Q) : Met l yX9_price wsX9_price rmX9_price (gPc [.ref (A 0), .int a1] sz D vwCl (tY Y) (wC Y A S)) (va_Qi Q (fun S' t => gH D vwCl (tY Y) (wC Y A S') t) (gF A 65 sz)) 0 0 (gF A 65 sz) := by
  refine gMet_i (cc := cX9_price) (maxL := 3) (by decide +kernel) rfl (Nat.le_of_ble_eq_true rfl) (fun p e s m args below meth c Z H locs hx hb hml hts hown hK hP hS hret ls hl => ?_)
  have hown : s.vm.findClass RX9 = some m.cls := hown
  have hl : lv_has ls 3 [(0, .ref (A 0)), (1, .int a1)] := hl
  have hD : ∀ S0 : gS, va_D (gF A 65 s.heap.size) (wC Y A S0) := fun S0 => dC hI S0 (fun k hk => gF_in hk)
  have k0 : ∀ w ∈ u_ws RX9 TX9 15, w ∈ wsX9_price := by decide +kernel
  have k1 := hts (.fieldLink RX9 19 "CoastWatch" "casksPrice" "I") (by decide +kernel)
  refine lv_iload_n hx hb dX9_price_0 rfl (lv_at hl 1 rfl) ?_
  refine lv_if_ge (tgt := 11) hx hb dX9_price_1 (by decide) (fun c1 => ?_) (fun c1 => ?_)
  · have h := h.1 c1
    refine lv_iload_n hx hb dX9_price_11 rfl (lv_at hl 1 rfl) ?_
    refine lv_sipush (v := (999 : Int32)) hx hb dX9_price_12 (by decide) ?_
    refine lv_icmp_le (tgt := 25) hx hb dX9_price_15 (by decide) (fun c2 => ?_) (fun c2 => ?_)
    · have h := h.1 c2
      refine lv_aload_n hx hb dX9_price_25 rfl (lv_at hl 0 rfl) ?_
      refine va_get (ci := 9) (v := .int (gi S 3)) (C := RX9) (T := TX9) (N := 15) hx hb hts k0 hown hK hP 0 (aC0 Y A S) rfl 3 (by decide) k1 (fun _ h9 => h9) rfl dX9_price_26 ?_
      refine lv_topi (fun x3 ex3 => ?_)
      have h := h x3 ex3
      refine lv_istore_n (lv' := [(2, .int x3), (0, .ref (A 0)), (1, .int a1)]) hx hb dX9_price_29 rfl hl (by decide) rfl (fun ls hl => ?_)
      refine lv_aload_n hx hb dX9_price_30 rfl (lv_at hl 1 rfl) ?_
      refine lv_iload_n hx hb dX9_price_31 rfl (lv_at hl 2 rfl) ?_
      obtain ⟨S4, eS4⟩ : ∃ z : gS, z = sI S 3 a1 := ⟨_, rfl⟩
      have h := h S4 eS4
      refine va_put (ci := 9) (v := .int a1) (ty := .int) (C := RX9) (T := TX9) (N := 15) hx hb hts k0 tyX9 tyX9_ok nmX9 hown hK hP (hD S) hS 0 (aC0 Y A S) rfl 3 (by decide) k1 (fun _ h9 => h9) rfl rfl rfl rfl (by simp) dX9_price_32 (fun H locs hP _ hS => ?_)
      have hP := pC0_3 eS4 hP
      refine lv_iload_n hx hb dX9_price_35 rfl (lv_at hl 0 rfl) ?_
      exact hret _ _ _ _ _ _ dX9_price_36 h hP hS
    · have h := h.2 c2
      refine lv_aload_n hx hb dX9_price_18 rfl (lv_at hl 0 rfl) ?_
      refine lv_bipush (v := (-6 : Int32)) hx hb dX9_price_19 (by decide) ?_
      refine gVi (As := [.int (-6 : Int32)]) (rest := []) ⟨hx, hb, hml, hown, hts⟩ (kX9_refuse l D Y A hI H.size S (-6 : Int32) _ h) (cwV 1 hts gX9_price_X9_refuse rfl rfl rfl (by decide +kernel) ⟨Nat.le_of_ble_eq_true rfl, Nat.le_of_ble_eq_true rfl⟩) hK hP hS (gF_le hS.1) (aC0 Y A S) (show vwCl[9]? = some (RX9, TX9, 15) from rfl) rfl rfl hl.1 (Nat.le_of_ble_eq_true rfl) dX9_price_21 ⟨Nat.zero_le _, Nat.zero_le _⟩ ?_
      intro r6 S5 H locs h hP hS
      exact hret _ _ _ _ _ _ dX9_price_24 h hP hS
  · have h := h.2 c1
    refine lv_aload_n hx hb dX9_price_4 rfl (lv_at hl 0 rfl) ?_
    refine lv_bipush (v := (-4 : Int32)) hx hb dX9_price_5 (by decide) ?_
    refine gVi (As := [.int (-4 : Int32)]) (rest := []) ⟨hx, hb, hml, hown, hts⟩ (kX9_refuse l D Y A hI H.size S (-4 : Int32) _ h) (cwV 1 hts gX9_price_X9_refuse rfl rfl rfl (by decide +kernel) ⟨Nat.le_of_ble_eq_true rfl, Nat.le_of_ble_eq_true rfl⟩) hK hP hS (gF_le hS.1) (aC0 Y A S) (show vwCl[9]? = some (RX9, TX9, 15) from rfl) rfl rfl hl.1 (Nat.le_of_ble_eq_true rfl) dX9_price_7 ⟨Nat.zero_le _, Nat.zero_le _⟩ ?_
    intro r8 S7 H locs h hP hS
    exact hret _ _ _ _ _ _ dX9_price_10 h hP hS

def qX9_law (S : gS) (a1 : Int32) (a2 : Int32) (a3 : Int32) (Q : Int32 → gS → Prop) : Prop :=
  (a1 < 0 → (qX9_refuse S (-4 : Int32) (fun r3 S2 => Q r3 S2))) ∧ (¬ a1 < 0 → ((a2 < 0 → (qX9_refuse S (-4 : Int32) (fun r6 S5 => Q r6 S5))) ∧ (¬ a2 < 0 → (((gi S 0) ≤ a3 → (((100 : Int32) < a1 → (qX9_refuse S (-6 : Int32) (fun r10 S9 => Q r10 S9))) ∧ (¬ (100 : Int32) < a1 → ((((100 : Int32) - a1) < a2 → (qX9_refuse S (-6 : Int32) (fun r13 S12 => Q r13 S12))) ∧ (¬ ((100 : Int32) - a1) < a2 → (((1000 : Int32) < a3 → (qX9_refuse S (-6 : Int32) (fun r16 S15 => Q r16 S15))) ∧ (¬ (1000 : Int32) < a3 → (((gi S 7) < (20 : Int32) → (qX4_add S a1 a2 a3 (fun r19 S18 => Q r19 S18))) ∧ (¬ (gi S 7) < (20 : Int32) → (qX9_refuse S (-6 : Int32) (fun r21 S20 => Q r21 S20))))))))))) ∧ (¬ (gi S 0) ≤ a3 → (qX9_refuse S (-4 : Int32) (fun r23 S22 => Q r23 S22)))))))
abbrev rmX9_law : Room := { frames := 1, cells := 0, slots := 0, locals := 24 }
set_option maxHeartbeats 4000000 in
set_option maxRecDepth 100000 in
theorem kX9_law (l : Launch) (D : va_G) (Y : Nat → ClassId) (A : Nat → Nat) (hI : iC A) (sz : Nat) (S : gS) (a1 : Int32) (a2 : Int32) (a3 : Int32) (Q : Int32 → gS → Prop) (h : qX9_law S a1 a2 a3 Q) : Met l yX9_law wsX9_law rmX9_law (gPc [.ref (A 0), .int a1, .int a2, .int a3] sz D vwCl (tY Y) (wC Y A S)) (va_Qi Q (fun S' t => gH D vwCl (tY Y) (wC Y A S') t) (gF A 65 sz)) 0 0 (gF A 65 sz) := by
  refine gMet_i (cc := cX9_law) (maxL := 4) (by decide +kernel) rfl (Nat.le_of_ble_eq_true rfl) (fun p e s m args below meth c Z H locs hx hb hml hts hown hK hP hS hret ls hl => ?_)
  have hown : s.vm.findClass RX9 = some m.cls := hown
  have hl : lv_has ls 4 [(0, .ref (A 0)), (1, .int a1), (2, .int a2), (3, .int a3)] := hl
  have hD : ∀ S0 : gS, va_D (gF A 65 s.heap.size) (wC Y A S0) := fun S0 => dC hI S0 (fun k hk => gF_in hk)
  have k0 : ∀ w ∈ u_ws RX9 TX9 15, w ∈ wsX9_law := by decide +kernel
  have k1 := hts (.fieldLink RX9 7 "CoastWatch" "night" "I") (by decide +kernel)
  have k2 := hts (.fieldLink RX9 67 "CoastWatch" "laws" "LCoastWatch$Laws;") (by decide +kernel)
  have k3 : ∀ w ∈ u_ws RX4 TX4 4, w ∈ wsX9_law := by decide +kernel
  have k4 := hts (.fieldLink RX9 175 "CoastWatch$Laws" "size" "I") (by decide +kernel)
  refine lv_iload_n hx hb dX9_law_0 rfl (lv_at hl 1 rfl) ?_
  refine lv_if_lt (tgt := 16) hx hb dX9_law_1 (by decide) (fun c1 => ?_) (fun c1 => ?_)
  · have h := h.1 c1
    refine lv_aload_n hx hb dX9_law_16 rfl (lv_at hl 0 rfl) ?_
    refine lv_bipush (v := (-4 : Int32)) hx hb dX9_law_17 (by decide) ?_
    refine gVi (As := [.int (-4 : Int32)]) (rest := []) ⟨hx, hb, hml, hown, hts⟩ (kX9_refuse l D Y A hI H.size S (-4 : Int32) _ h) (cwV 1 hts gX9_law_X9_refuse rfl rfl rfl (by decide +kernel) ⟨Nat.le_of_ble_eq_true rfl, Nat.le_of_ble_eq_true rfl⟩) hK hP hS (gF_le hS.1) (aC0 Y A S) (show vwCl[9]? = some (RX9, TX9, 15) from rfl) rfl rfl hl.1 (Nat.le_of_ble_eq_true rfl) dX9_law_19 ⟨Nat.zero_le _, Nat.zero_le _⟩ ?_
    intro r3 S2 H locs h hP hS
    exact hret _ _ _ _ _ _ dX9_law_22 h hP hS
  · have h := h.2 c1
    refine lv_iload_n hx hb dX9_law_4 rfl (lv_at hl 2 rfl) ?_
    refine lv_if_lt (tgt := 16) hx hb dX9_law_5 (by decide) (fun c4 => ?_) (fun c4 => ?_)
    · have h := h.1 c4
      refine lv_aload_n hx hb dX9_law_16 rfl (lv_at hl 0 rfl) ?_
      refine lv_bipush (v := (-4 : Int32)) hx hb dX9_law_17 (by decide) ?_
      refine gVi (As := [.int (-4 : Int32)]) (rest := []) ⟨hx, hb, hml, hown, hts⟩ (kX9_refuse l D Y A hI H.size S (-4 : Int32) _ h) (cwV 1 hts gX9_law_X9_refuse rfl rfl rfl (by decide +kernel) ⟨Nat.le_of_ble_eq_true rfl, Nat.le_of_ble_eq_true rfl⟩) hK hP hS (gF_le hS.1) (aC0 Y A S) (show vwCl[9]? = some (RX9, TX9, 15) from rfl) rfl rfl hl.1 (Nat.le_of_ble_eq_true rfl) dX9_law_19 ⟨Nat.zero_le _, Nat.zero_le _⟩ ?_
      intro r6 S5 H locs h hP hS
      exact hret _ _ _ _ _ _ dX9_law_22 h hP hS
    · have h := h.2 c4
      refine lv_iload_n hx hb dX9_law_8 rfl (lv_at hl 3 rfl) ?_
      refine lv_aload_n hx hb dX9_law_9 rfl (lv_at hl 0 rfl) ?_
      refine va_get (ci := 9) (v := .int (gi S 0)) (C := RX9) (T := TX9) (N := 15) hx hb hts k0 hown hK hP 0 (aC0 Y A S) rfl 0 (by decide) k1 (fun _ h9 => h9) rfl dX9_law_10 ?_
      refine lv_icmp_ge (tgt := 23) hx hb dX9_law_13 (by decide) (fun c7 => ?_) (fun c7 => ?_)
      · have h := h.1 c7
        refine lv_iload_n hx hb dX9_law_23 rfl (lv_at hl 1 rfl) ?_
        refine lv_bipush (v := (100 : Int32)) hx hb dX9_law_24 (by decide) ?_
        refine lv_icmp_gt (tgt := 56) hx hb dX9_law_26 (by decide) (fun c8 => ?_) (fun c8 => ?_)
        · have h := h.1 c8
          refine lv_aload_n hx hb dX9_law_56 rfl (lv_at hl 0 rfl) ?_
          refine lv_bipush (v := (-6 : Int32)) hx hb dX9_law_57 (by decide) ?_
          refine gVi (As := [.int (-6 : Int32)]) (rest := []) ⟨hx, hb, hml, hown, hts⟩ (kX9_refuse l D Y A hI H.size S (-6 : Int32) _ h) (cwV 1 hts gX9_law_X9_refuse rfl rfl rfl (by decide +kernel) ⟨Nat.le_of_ble_eq_true rfl, Nat.le_of_ble_eq_true rfl⟩) hK hP hS (gF_le hS.1) (aC0 Y A S) (show vwCl[9]? = some (RX9, TX9, 15) from rfl) rfl rfl hl.1 (Nat.le_of_ble_eq_true rfl) dX9_law_59 ⟨Nat.zero_le _, Nat.zero_le _⟩ ?_
          intro r10 S9 H locs h hP hS
          exact hret _ _ _ _ _ _ dX9_law_62 h hP hS
        · have h := h.2 c8
          refine lv_iload_n hx hb dX9_law_29 rfl (lv_at hl 2 rfl) ?_
          refine lv_bipush (v := (100 : Int32)) hx hb dX9_law_30 (by decide) ?_
          refine lv_iload_n hx hb dX9_law_32 rfl (lv_at hl 1 rfl) ?_
          refine lv_isub hx hb dX9_law_33 ?_
          refine lv_icmp_gt (tgt := 56) hx hb dX9_law_34 (by decide) (fun c11 => ?_) (fun c11 => ?_)
          · have h := h.1 c11
            refine lv_aload_n hx hb dX9_law_56 rfl (lv_at hl 0 rfl) ?_
            refine lv_bipush (v := (-6 : Int32)) hx hb dX9_law_57 (by decide) ?_
            refine gVi (As := [.int (-6 : Int32)]) (rest := []) ⟨hx, hb, hml, hown, hts⟩ (kX9_refuse l D Y A hI H.size S (-6 : Int32) _ h) (cwV 1 hts gX9_law_X9_refuse rfl rfl rfl (by decide +kernel) ⟨Nat.le_of_ble_eq_true rfl, Nat.le_of_ble_eq_true rfl⟩) hK hP hS (gF_le hS.1) (aC0 Y A S) (show vwCl[9]? = some (RX9, TX9, 15) from rfl) rfl rfl hl.1 (Nat.le_of_ble_eq_true rfl) dX9_law_59 ⟨Nat.zero_le _, Nat.zero_le _⟩ ?_
            intro r13 S12 H locs h hP hS
            exact hret _ _ _ _ _ _ dX9_law_62 h hP hS
          · have h := h.2 c11
            refine lv_iload_n hx hb dX9_law_37 rfl (lv_at hl 3 rfl) ?_
            refine lv_sipush (v := (1000 : Int32)) hx hb dX9_law_38 (by decide) ?_
            refine lv_icmp_gt (tgt := 56) hx hb dX9_law_41 (by decide) (fun c14 => ?_) (fun c14 => ?_)
            · have h := h.1 c14
              refine lv_aload_n hx hb dX9_law_56 rfl (lv_at hl 0 rfl) ?_
              refine lv_bipush (v := (-6 : Int32)) hx hb dX9_law_57 (by decide) ?_
              refine gVi (As := [.int (-6 : Int32)]) (rest := []) ⟨hx, hb, hml, hown, hts⟩ (kX9_refuse l D Y A hI H.size S (-6 : Int32) _ h) (cwV 1 hts gX9_law_X9_refuse rfl rfl rfl (by decide +kernel) ⟨Nat.le_of_ble_eq_true rfl, Nat.le_of_ble_eq_true rfl⟩) hK hP hS (gF_le hS.1) (aC0 Y A S) (show vwCl[9]? = some (RX9, TX9, 15) from rfl) rfl rfl hl.1 (Nat.le_of_ble_eq_true rfl) dX9_law_59 ⟨Nat.zero_le _, Nat.zero_le _⟩ ?_
              intro r16 S15 H locs h hP hS
              exact hret _ _ _ _ _ _ dX9_law_62 h hP hS
            · have h := h.2 c14
              refine lv_aload_n hx hb dX9_law_44 rfl (lv_at hl 0 rfl) ?_
              refine va_get (ci := 9) (v := .ref (A 6)) (C := RX9) (T := TX9) (N := 15) hx hb hts k0 hown hK hP 0 (aC0 Y A S) rfl 11 (by decide) k2 (fun _ h9 => h9) rfl dX9_law_45 ?_
              refine va_get (ci := 4) (v := .int (gi S 7)) (C := RX4) (T := TX4) (N := 4) hx hb hts k3 hown hK hP 6 (aC6 Y A S) rfl 0 (by decide) k4 (fun _ h9 => h9) rfl dX9_law_48 ?_
              refine lv_bipush (v := (20 : Int32)) hx hb dX9_law_51 (by decide) ?_
              refine lv_icmp_lt (tgt := 63) hx hb dX9_law_53 (by decide) (fun c17 => ?_) (fun c17 => ?_)
              · have h := h.1 c17
                refine lv_aload_n hx hb dX9_law_63 rfl (lv_at hl 0 rfl) ?_
                refine va_get (ci := 9) (v := .ref (A 6)) (C := RX9) (T := TX9) (N := 15) hx hb hts k0 hown hK hP 0 (aC0 Y A S) rfl 11 (by decide) k2 (fun _ h9 => h9) rfl dX9_law_64 ?_
                refine lv_iload_n hx hb dX9_law_67 rfl (lv_at hl 1 rfl) ?_
                refine lv_iload_n hx hb dX9_law_68 rfl (lv_at hl 2 rfl) ?_
                refine lv_iload_n hx hb dX9_law_69 rfl (lv_at hl 3 rfl) ?_
                refine gVi (As := [.int a1, .int a2, .int a3]) (rest := []) ⟨hx, hb, hml, hown, hts⟩ (kX4_add l D Y A hI H.size S a1 a2 a3 _ h) (cwV 3 hts gX9_law_X4_add rfl rfl rfl (by decide +kernel) ⟨Nat.le_of_ble_eq_true rfl, Nat.le_of_ble_eq_true rfl⟩) hK hP hS (gF_le hS.1) (aC6 Y A S) (show vwCl[4]? = some (RX4, TX4, 4) from rfl) rfl rfl hl.1 (Nat.le_of_ble_eq_true rfl) dX9_law_70 ⟨Nat.zero_le _, Nat.zero_le _⟩ ?_
                intro r19 S18 H locs h hP hS
                exact hret _ _ _ _ _ _ dX9_law_73 h hP hS
              · have h := h.2 c17
                refine lv_aload_n hx hb dX9_law_56 rfl (lv_at hl 0 rfl) ?_
                refine lv_bipush (v := (-6 : Int32)) hx hb dX9_law_57 (by decide) ?_
                refine gVi (As := [.int (-6 : Int32)]) (rest := []) ⟨hx, hb, hml, hown, hts⟩ (kX9_refuse l D Y A hI H.size S (-6 : Int32) _ h) (cwV 1 hts gX9_law_X9_refuse rfl rfl rfl (by decide +kernel) ⟨Nat.le_of_ble_eq_true rfl, Nat.le_of_ble_eq_true rfl⟩) hK hP hS (gF_le hS.1) (aC0 Y A S) (show vwCl[9]? = some (RX9, TX9, 15) from rfl) rfl rfl hl.1 (Nat.le_of_ble_eq_true rfl) dX9_law_59 ⟨Nat.zero_le _, Nat.zero_le _⟩ ?_
                intro r21 S20 H locs h hP hS
                exact hret _ _ _ _ _ _ dX9_law_62 h hP hS
      · have h := h.2 c7
        refine lv_aload_n hx hb dX9_law_16 rfl (lv_at hl 0 rfl) ?_
        refine lv_bipush (v := (-4 : Int32)) hx hb dX9_law_17 (by decide) ?_
        refine gVi (As := [.int (-4 : Int32)]) (rest := []) ⟨hx, hb, hml, hown, hts⟩ (kX9_refuse l D Y A hI H.size S (-4 : Int32) _ h) (cwV 1 hts gX9_law_X9_refuse rfl rfl rfl (by decide +kernel) ⟨Nat.le_of_ble_eq_true rfl, Nat.le_of_ble_eq_true rfl⟩) hK hP hS (gF_le hS.1) (aC0 Y A S) (show vwCl[9]? = some (RX9, TX9, 15) from rfl) rfl rfl hl.1 (Nat.le_of_ble_eq_true rfl) dX9_law_19 ⟨Nat.zero_le _, Nat.zero_le _⟩ ?_
        intro r23 S22 H locs h hP hS
        exact hret _ _ _ _ _ _ dX9_law_22 h hP hS

def qX9_isInformer (S : gS) (a0 : Int32) (Q : Int32 → gS → Prop) : Prop :=
  (a0 < 0 → (Q (0 : Int32) S)) ∧ (¬ a0 < 0 → (((6 : Int32) ≤ a0 → (Q (0 : Int32) S)) ∧ (¬ (6 : Int32) ≤ a0 → (Q (1 : Int32) S))))
abbrev rmX9_isInformer : Room := { frames := 0, cells := 0, slots := 0, locals := 0 }
set_option maxHeartbeats 4000000 in
set_option maxRecDepth 100000 in
theorem kX9_isInformer (l : Launch) (D : va_G) (Y : Nat → ClassId) (A : Nat → Nat) (hI : iC A) (sz : Nat) (S : gS) (a0 : Int32) (Q : Int32 → gS → Prop) (h : qX9_isInformer S a0 Q) : Met l yX9_isInformer wsX9_isInformer rmX9_isInformer (gPc [.int a0] sz D vwCl (tY Y) (wC Y A S)) (va_Qi Q (fun S' t => gH D vwCl (tY Y) (wC Y A S') t) (gF A 65 sz)) 0 0 (gF A 65 sz) := by
  refine gMet_z (cc := cX9_isInformer) (maxL := 1) (by decide +kernel) rfl (Nat.le_of_ble_eq_true rfl) (fun p e s m args below meth c Z H locs hx hb hml hts hown hK hP hS hret ls hl => ?_)
  have hown : s.vm.findClass RX9 = some m.cls := hown
  have hl : lv_has ls 1 [(0, .int a0)] := hl
  have hD : ∀ S0 : gS, va_D (gF A 65 s.heap.size) (wC Y A S0) := fun S0 => dC hI S0 (fun k hk => gF_in hk)
  refine lv_iload_n hx hb dX9_isInformer_0 rfl (lv_at hl 0 rfl) ?_
  refine lv_if_lt (tgt := 14) hx hb dX9_isInformer_1 (by decide) (fun c1 => ?_) (fun c1 => ?_)
  · have h := h.1 c1
    refine lv_iconst (v := (0 : Int32)) hx hb dX9_isInformer_14 (by decide) ?_
    exact hret _ _ _ _ _ _ dX9_isInformer_15 rfl h hP hS
  · have h := h.2 c1
    refine lv_iload_n hx hb dX9_isInformer_4 rfl (lv_at hl 0 rfl) ?_
    refine lv_bipush (v := (6 : Int32)) hx hb dX9_isInformer_5 (by decide) ?_
    refine lv_icmp_ge (tgt := 14) hx hb dX9_isInformer_7 (by decide) (fun c2 => ?_) (fun c2 => ?_)
    · have h := h.1 c2
      refine lv_iconst (v := (0 : Int32)) hx hb dX9_isInformer_14 (by decide) ?_
      exact hret _ _ _ _ _ _ dX9_isInformer_15 rfl h hP hS
    · have h := h.2 c2
      refine lv_iconst (v := (1 : Int32)) hx hb dX9_isInformer_10 (by decide) ?_
      refine lv_goto (tgt := 15) hx hb dX9_isInformer_11 (by decide) ?_
      exact hret _ _ _ _ _ _ dX9_isInformer_15 rfl h hP hS

def qX9_word (S : gS) (a1 : Int32) (a2 : Int32) (a3 : Int32) (Q : Int32 → gS → Prop) : Prop :=
  qX9_isInformer S a1 (fun r2 S1 => (r2 = 0 → (qX9_refuse S1 (-1 : Int32) (fun r5 S4 => Q r5 S4))) ∧ (¬ r2 = 0 → (qX9_isCove S1 a3 (fun r7 S6 => (r7 = 0 → (qX9_refuse S6 (-1 : Int32) (fun r26 S25 => Q r26 S25))) ∧ (¬ r7 = 0 → (((gi S6 0) < a2 → (((1000 : Int32) < a2 → (qX9_refuse S6 (-6 : Int32) (fun r12 S11 => Q r12 S11))) ∧ (¬ (1000 : Int32) < a2 → (((gi S6 8) < (60 : Int32) → (qX8_isToldBy S6 a1 a2 a3 (fun r15 S14 => (r15 = 0 → (qX8_add S14 a1 a2 a3 (fun r18 S17 => Q r18 S17))) ∧ (¬ r15 = 0 → (qX9_refuse S14 (-3 : Int32) (fun r20 S19 => Q r20 S19)))))) ∧ (¬ (gi S6 8) < (60 : Int32) → (qX9_refuse S6 (-6 : Int32) (fun r22 S21 => Q r22 S21))))))) ∧ (¬ (gi S6 0) < a2 → (qX9_refuse S6 (-4 : Int32) (fun r24 S23 => Q r24 S23)))))))))
abbrev rmX9_word : Room := { frames := 2, cells := 0, slots := 0, locals := 47 }
set_option maxHeartbeats 4000000 in
set_option maxRecDepth 100000 in
theorem kX9_word (l : Launch) (D : va_G) (Y : Nat → ClassId) (A : Nat → Nat) (hI : iC A) (sz : Nat) (S : gS) (a1 : Int32) (a2 : Int32) (a3 : Int32) (Q : Int32 → gS → Prop) (h : qX9_word S a1 a2 a3 Q) : Met l yX9_word wsX9_word rmX9_word (gPc [.ref (A 0), .int a1, .int a2, .int a3] sz D vwCl (tY Y) (wC Y A S)) (va_Qi Q (fun S' t => gH D vwCl (tY Y) (wC Y A S') t) (gF A 65 sz)) 0 0 (gF A 65 sz) := by
  refine gMet_i (cc := cX9_word) (maxL := 4) (by decide +kernel) rfl (Nat.le_of_ble_eq_true rfl) (fun p e s m args below meth c Z H locs hx hb hml hts hown hK hP hS hret ls hl => ?_)
  have hown : s.vm.findClass RX9 = some m.cls := hown
  have hl : lv_has ls 4 [(0, .ref (A 0)), (1, .int a1), (2, .int a2), (3, .int a3)] := hl
  have hD : ∀ S0 : gS, va_D (gF A 65 s.heap.size) (wC Y A S0) := fun S0 => dC hI S0 (fun k hk => gF_in hk)
  have k0 : ∀ w ∈ u_ws RX9 TX9 15, w ∈ wsX9_word := by decide +kernel
  have k1 := hts (.fieldLink RX9 7 "CoastWatch" "night" "I") (by decide +kernel)
  have k2 := hts (.fieldLink RX9 74 "CoastWatch" "words" "LCoastWatch$Words;") (by decide +kernel)
  have k3 : ∀ w ∈ u_ws RX8 TX8 6, w ∈ wsX9_word := by decide +kernel
  have k4 := hts (.fieldLink RX9 180 "CoastWatch$Words" "size" "I") (by decide +kernel)
  refine lv_iload_n hx hb dX9_word_0 rfl (lv_at hl 1 rfl) ?_
  refine gSi (As := [.int a1]) (rest := []) ⟨hx, hb, hml, hown, hts⟩ (kX9_isInformer l D Y A hI H.size S a1 _ h) (va_cwS 1 hts gX9_word_X9_isInformer rfl rfl rfl (by decide +kernel) ⟨Nat.le_of_ble_eq_true rfl, Nat.le_of_ble_eq_true rfl⟩) hK hP hS (gF_le hS.1) rfl rfl hl.1 (Nat.le_of_ble_eq_true rfl) dX9_word_1 ⟨Nat.zero_le _, Nat.zero_le _⟩ ?_
  intro r2 S1 H locs h hP hS
  refine lv_if_eq (tgt := 14) hx hb dX9_word_4 (by decide) (fun c3 => ?_) (fun c3 => ?_)
  · have h := h.1 c3
    refine lv_aload_n hx hb dX9_word_14 rfl (lv_at hl 0 rfl) ?_
    refine lv_iconst (v := (-1 : Int32)) hx hb dX9_word_15 (by decide) ?_
    refine gVi (As := [.int (-1 : Int32)]) (rest := []) ⟨hx, hb, hml, hown, hts⟩ (kX9_refuse l D Y A hI H.size S1 (-1 : Int32) _ h) (cwV 1 hts gX9_word_X9_refuse rfl rfl rfl (by decide +kernel) ⟨Nat.le_of_ble_eq_true rfl, Nat.le_of_ble_eq_true rfl⟩) hK hP hS (gF_le hS.1) (aC0 Y A S1) (show vwCl[9]? = some (RX9, TX9, 15) from rfl) rfl rfl hl.1 (Nat.le_of_ble_eq_true rfl) dX9_word_16 ⟨Nat.zero_le _, Nat.zero_le _⟩ ?_
    intro r5 S4 H locs h hP hS
    exact hret _ _ _ _ _ _ dX9_word_19 h hP hS
  · have h := h.2 c3
    refine lv_iload_n hx hb dX9_word_7 rfl (lv_at hl 3 rfl) ?_
    refine gSi (As := [.int a3]) (rest := []) ⟨hx, hb, hml, hown, hts⟩ (kX9_isCove l D Y A hI H.size S1 a3 _ h) (va_cwS 1 hts gX9_word_X9_isCove rfl rfl rfl (by decide +kernel) ⟨Nat.le_of_ble_eq_true rfl, Nat.le_of_ble_eq_true rfl⟩) hK hP hS (gF_le hS.1) rfl rfl hl.1 (Nat.le_of_ble_eq_true rfl) dX9_word_8 ⟨Nat.zero_le _, Nat.zero_le _⟩ ?_
    intro r7 S6 H locs h hP hS
    refine lv_if_ne (tgt := 20) hx hb dX9_word_11 (by decide) (fun c8 => ?_) (fun c8 => ?_)
    · have h := h.2 c8
      refine lv_iload_n hx hb dX9_word_20 rfl (lv_at hl 2 rfl) ?_
      refine lv_aload_n hx hb dX9_word_21 rfl (lv_at hl 0 rfl) ?_
      refine va_get (ci := 9) (v := .int (gi S6 0)) (C := RX9) (T := TX9) (N := 15) hx hb hts k0 hown hK hP 0 (aC0 Y A S6) rfl 0 (by decide) k1 (fun _ h9 => h9) rfl dX9_word_22 ?_
      refine lv_icmp_gt (tgt := 35) hx hb dX9_word_25 (by decide) (fun c9 => ?_) (fun c9 => ?_)
      · have h := h.1 c9
        refine lv_iload_n hx hb dX9_word_35 rfl (lv_at hl 2 rfl) ?_
        refine lv_sipush (v := (1000 : Int32)) hx hb dX9_word_36 (by decide) ?_
        refine lv_icmp_gt (tgt := 54) hx hb dX9_word_39 (by decide) (fun c10 => ?_) (fun c10 => ?_)
        · have h := h.1 c10
          refine lv_aload_n hx hb dX9_word_54 rfl (lv_at hl 0 rfl) ?_
          refine lv_bipush (v := (-6 : Int32)) hx hb dX9_word_55 (by decide) ?_
          refine gVi (As := [.int (-6 : Int32)]) (rest := []) ⟨hx, hb, hml, hown, hts⟩ (kX9_refuse l D Y A hI H.size S6 (-6 : Int32) _ h) (cwV 1 hts gX9_word_X9_refuse rfl rfl rfl (by decide +kernel) ⟨Nat.le_of_ble_eq_true rfl, Nat.le_of_ble_eq_true rfl⟩) hK hP hS (gF_le hS.1) (aC0 Y A S6) (show vwCl[9]? = some (RX9, TX9, 15) from rfl) rfl rfl hl.1 (Nat.le_of_ble_eq_true rfl) dX9_word_57 ⟨Nat.zero_le _, Nat.zero_le _⟩ ?_
          intro r12 S11 H locs h hP hS
          exact hret _ _ _ _ _ _ dX9_word_60 h hP hS
        · have h := h.2 c10
          refine lv_aload_n hx hb dX9_word_42 rfl (lv_at hl 0 rfl) ?_
          refine va_get (ci := 9) (v := .ref (A 7)) (C := RX9) (T := TX9) (N := 15) hx hb hts k0 hown hK hP 0 (aC0 Y A S6) rfl 12 (by decide) k2 (fun _ h9 => h9) rfl dX9_word_43 ?_
          refine va_get (ci := 8) (v := .int (gi S6 8)) (C := RX8) (T := TX8) (N := 6) hx hb hts k3 hown hK hP 7 (aC7 Y A S6) rfl 0 (by decide) k4 (fun _ h9 => h9) rfl dX9_word_46 ?_
          refine lv_bipush (v := (60 : Int32)) hx hb dX9_word_49 (by decide) ?_
          refine lv_icmp_lt (tgt := 61) hx hb dX9_word_51 (by decide) (fun c13 => ?_) (fun c13 => ?_)
          · have h := h.1 c13
            refine lv_aload_n hx hb dX9_word_61 rfl (lv_at hl 0 rfl) ?_
            refine va_get (ci := 9) (v := .ref (A 7)) (C := RX9) (T := TX9) (N := 15) hx hb hts k0 hown hK hP 0 (aC0 Y A S6) rfl 12 (by decide) k2 (fun _ h9 => h9) rfl dX9_word_62 ?_
            refine lv_iload_n hx hb dX9_word_65 rfl (lv_at hl 1 rfl) ?_
            refine lv_iload_n hx hb dX9_word_66 rfl (lv_at hl 2 rfl) ?_
            refine lv_iload_n hx hb dX9_word_67 rfl (lv_at hl 3 rfl) ?_
            refine gVi (As := [.int a1, .int a2, .int a3]) (rest := []) ⟨hx, hb, hml, hown, hts⟩ (kX8_isToldBy l D Y A hI H.size S6 a1 a2 a3 _ h) (cwV 3 hts gX9_word_X8_isToldBy rfl rfl rfl (by decide +kernel) ⟨Nat.le_of_ble_eq_true rfl, Nat.le_of_ble_eq_true rfl⟩) hK hP hS (gF_le hS.1) (aC7 Y A S6) (show vwCl[8]? = some (RX8, TX8, 6) from rfl) rfl rfl hl.1 (Nat.le_of_ble_eq_true rfl) dX9_word_68 ⟨Nat.zero_le _, Nat.zero_le _⟩ ?_
            intro r15 S14 H locs h hP hS
            refine lv_if_eq (tgt := 81) hx hb dX9_word_71 (by decide) (fun c16 => ?_) (fun c16 => ?_)
            · have h := h.1 c16
              refine lv_aload_n hx hb dX9_word_81 rfl (lv_at hl 0 rfl) ?_
              refine va_get (ci := 9) (v := .ref (A 7)) (C := RX9) (T := TX9) (N := 15) hx hb hts k0 hown hK hP 0 (aC0 Y A S14) rfl 12 (by decide) k2 (fun _ h9 => h9) rfl dX9_word_82 ?_
              refine lv_iload_n hx hb dX9_word_85 rfl (lv_at hl 1 rfl) ?_
              refine lv_iload_n hx hb dX9_word_86 rfl (lv_at hl 2 rfl) ?_
              refine lv_iload_n hx hb dX9_word_87 rfl (lv_at hl 3 rfl) ?_
              refine gVi (As := [.int a1, .int a2, .int a3]) (rest := []) ⟨hx, hb, hml, hown, hts⟩ (kX8_add l D Y A hI H.size S14 a1 a2 a3 _ h) (cwV 3 hts gX9_word_X8_add rfl rfl rfl (by decide +kernel) ⟨Nat.le_of_ble_eq_true rfl, Nat.le_of_ble_eq_true rfl⟩) hK hP hS (gF_le hS.1) (aC7 Y A S14) (show vwCl[8]? = some (RX8, TX8, 6) from rfl) rfl rfl hl.1 (Nat.le_of_ble_eq_true rfl) dX9_word_88 ⟨Nat.zero_le _, Nat.zero_le _⟩ ?_
              intro r18 S17 H locs h hP hS
              exact hret _ _ _ _ _ _ dX9_word_91 h hP hS
            · have h := h.2 c16
              refine lv_aload_n hx hb dX9_word_74 rfl (lv_at hl 0 rfl) ?_
              refine lv_bipush (v := (-3 : Int32)) hx hb dX9_word_75 (by decide) ?_
              refine gVi (As := [.int (-3 : Int32)]) (rest := []) ⟨hx, hb, hml, hown, hts⟩ (kX9_refuse l D Y A hI H.size S14 (-3 : Int32) _ h) (cwV 1 hts gX9_word_X9_refuse rfl rfl rfl (by decide +kernel) ⟨Nat.le_of_ble_eq_true rfl, Nat.le_of_ble_eq_true rfl⟩) hK hP hS (gF_le hS.1) (aC0 Y A S14) (show vwCl[9]? = some (RX9, TX9, 15) from rfl) rfl rfl hl.1 (Nat.le_of_ble_eq_true rfl) dX9_word_77 ⟨Nat.zero_le _, Nat.zero_le _⟩ ?_
              intro r20 S19 H locs h hP hS
              exact hret _ _ _ _ _ _ dX9_word_80 h hP hS
          · have h := h.2 c13
            refine lv_aload_n hx hb dX9_word_54 rfl (lv_at hl 0 rfl) ?_
            refine lv_bipush (v := (-6 : Int32)) hx hb dX9_word_55 (by decide) ?_
            refine gVi (As := [.int (-6 : Int32)]) (rest := []) ⟨hx, hb, hml, hown, hts⟩ (kX9_refuse l D Y A hI H.size S6 (-6 : Int32) _ h) (cwV 1 hts gX9_word_X9_refuse rfl rfl rfl (by decide +kernel) ⟨Nat.le_of_ble_eq_true rfl, Nat.le_of_ble_eq_true rfl⟩) hK hP hS (gF_le hS.1) (aC0 Y A S6) (show vwCl[9]? = some (RX9, TX9, 15) from rfl) rfl rfl hl.1 (Nat.le_of_ble_eq_true rfl) dX9_word_57 ⟨Nat.zero_le _, Nat.zero_le _⟩ ?_
            intro r22 S21 H locs h hP hS
            exact hret _ _ _ _ _ _ dX9_word_60 h hP hS
      · have h := h.2 c9
        refine lv_aload_n hx hb dX9_word_28 rfl (lv_at hl 0 rfl) ?_
        refine lv_bipush (v := (-4 : Int32)) hx hb dX9_word_29 (by decide) ?_
        refine gVi (As := [.int (-4 : Int32)]) (rest := []) ⟨hx, hb, hml, hown, hts⟩ (kX9_refuse l D Y A hI H.size S6 (-4 : Int32) _ h) (cwV 1 hts gX9_word_X9_refuse rfl rfl rfl (by decide +kernel) ⟨Nat.le_of_ble_eq_true rfl, Nat.le_of_ble_eq_true rfl⟩) hK hP hS (gF_le hS.1) (aC0 Y A S6) (show vwCl[9]? = some (RX9, TX9, 15) from rfl) rfl rfl hl.1 (Nat.le_of_ble_eq_true rfl) dX9_word_31 ⟨Nat.zero_le _, Nat.zero_le _⟩ ?_
        intro r24 S23 H locs h hP hS
        exact hret _ _ _ _ _ _ dX9_word_34 h hP hS
    · have h := h.1 c8
      refine lv_aload_n hx hb dX9_word_14 rfl (lv_at hl 0 rfl) ?_
      refine lv_iconst (v := (-1 : Int32)) hx hb dX9_word_15 (by decide) ?_
      refine gVi (As := [.int (-1 : Int32)]) (rest := []) ⟨hx, hb, hml, hown, hts⟩ (kX9_refuse l D Y A hI H.size S6 (-1 : Int32) _ h) (cwV 1 hts gX9_word_X9_refuse rfl rfl rfl (by decide +kernel) ⟨Nat.le_of_ble_eq_true rfl, Nat.le_of_ble_eq_true rfl⟩) hK hP hS (gF_le hS.1) (aC0 Y A S6) (show vwCl[9]? = some (RX9, TX9, 15) from rfl) rfl rfl hl.1 (Nat.le_of_ble_eq_true rfl) dX9_word_16 ⟨Nat.zero_le _, Nat.zero_le _⟩ ?_
      intro r26 S25 H locs h hP hS
      exact hret _ _ _ _ _ _ dX9_word_19 h hP hS

def qX9_drawBelow (S : gS) (a1 : Int32) (Q : Int32 → gS → Prop) : Prop :=
  ∀ S1 : gS, S1 = sI S 1 (((gi S 1) * (1103515245 : Int32)) + (12345 : Int32)) → ((a1 ≤ 0 → (Q (0 : Int32) S1)) ∧ (¬ a1 ≤ 0 → (¬ a1 = 0 ∧ (Q (((gi S1 1).toUInt32 >>> ((16 : Int32).toUInt32 &&& Int32.toUInt32 31)).toInt32 - ((gi S1 1).toUInt32 >>> ((16 : Int32).toUInt32 &&& Int32.toUInt32 31)).toInt32 / a1 * a1) S1))))
abbrev rmX9_drawBelow : Room := { frames := 0, cells := 0, slots := 0, locals := 0 }
set_option maxHeartbeats 4000000 in
set_option maxRecDepth 100000 in
theorem kX9_drawBelow (l : Launch) (D : va_G) (Y : Nat → ClassId) (A : Nat → Nat) (hI : iC A) (sz : Nat) (S : gS) (a1 : Int32) (Q : Int32 → gS → Prop) (h : qX9_drawBelow S a1 Q) : Met l yX9_drawBelow wsX9_drawBelow rmX9_drawBelow (gPc [.ref (A 0), .int a1] sz D vwCl (tY Y) (wC Y A S)) (va_Qi Q (fun S' t => gH D vwCl (tY Y) (wC Y A S') t) (gF A 65 sz)) 0 0 (gF A 65 sz) := by
  refine gMet_i (cc := cX9_drawBelow) (maxL := 2) (by decide +kernel) rfl (Nat.le_of_ble_eq_true rfl) (fun p e s m args below meth c Z H locs hx hb hml hts hown hK hP hS hret ls hl => ?_)
  have hown : s.vm.findClass RX9 = some m.cls := hown
  have hl : lv_has ls 2 [(0, .ref (A 0)), (1, .int a1)] := hl
  have hD : ∀ S0 : gS, va_D (gF A 65 s.heap.size) (wC Y A S0) := fun S0 => dC hI S0 (fun k hk => gF_in hk)
  have k0 : ∀ w ∈ u_ws RX9 TX9 15, w ∈ wsX9_drawBelow := by decide +kernel
  have k1 := hts (.fieldLink RX9 13 "CoastWatch" "seed" "I") (by decide +kernel)
  have k2 := hts (.constant RX9 330 1103515245) (by decide +kernel)
  refine lv_aload_n hx hb dX9_drawBelow_0 rfl (lv_at hl 0 rfl) ?_
  refine lv_aload_n hx hb dX9_drawBelow_1 rfl (lv_at hl 0 rfl) ?_
  refine va_get (ci := 9) (v := .int (gi S 1)) (C := RX9) (T := TX9) (N := 15) hx hb hts k0 hown hK hP 0 (aC0 Y A S) rfl 1 (by decide) k1 (fun _ h9 => h9) rfl dX9_drawBelow_2 ?_
  refine lv_ldcw (v := (1103515245 : Int32)) hx hb hown k2 dX9_drawBelow_5 ?_
  refine lv_imul hx hb dX9_drawBelow_8 ?_
  refine lv_sipush (v := (12345 : Int32)) hx hb dX9_drawBelow_9 (by decide) ?_
  refine lv_iadd hx hb dX9_drawBelow_12 ?_
  obtain ⟨S1, eS1⟩ : ∃ z : gS, z = sI S 1 (((gi S 1) * (1103515245 : Int32)) + (12345 : Int32)) := ⟨_, rfl⟩
  have h := h S1 eS1
  refine va_put (ci := 9) (v := .int (((gi S 1) * (1103515245 : Int32)) + (12345 : Int32))) (ty := .int) (C := RX9) (T := TX9) (N := 15) hx hb hts k0 tyX9 tyX9_ok nmX9 hown hK hP (hD S) hS 0 (aC0 Y A S) rfl 1 (by decide) k1 (fun _ h9 => h9) rfl rfl rfl rfl (by simp) dX9_drawBelow_13 (fun H locs hP _ hS => ?_)
  have hP := pC0_1 eS1 hP
  refine lv_iload_n hx hb dX9_drawBelow_16 rfl (lv_at hl 1 rfl) ?_
  refine lv_if_le (tgt := 32) hx hb dX9_drawBelow_17 (by decide) (fun c2 => ?_) (fun c2 => ?_)
  · have h := h.1 c2
    refine lv_iconst (v := (0 : Int32)) hx hb dX9_drawBelow_32 (by decide) ?_
    exact hret _ _ _ _ _ _ dX9_drawBelow_33 h hP hS
  · have h := h.2 c2
    refine lv_aload_n hx hb dX9_drawBelow_20 rfl (lv_at hl 0 rfl) ?_
    refine va_get (ci := 9) (v := .int (gi S1 1)) (C := RX9) (T := TX9) (N := 15) hx hb hts k0 hown hK hP 0 (aC0 Y A S1) rfl 1 (by decide) k1 (fun _ h9 => h9) rfl dX9_drawBelow_21 ?_
    refine lv_bipush (v := (16 : Int32)) hx hb dX9_drawBelow_24 (by decide) ?_
    refine lv_iushr hx hb dX9_drawBelow_26 rfl ?_
    refine lv_iload_n hx hb dX9_drawBelow_27 rfl (lv_at hl 1 rfl) ?_
    have n_3 := h.1
    have h := h.2
    refine lv_irem hx hb dX9_drawBelow_28 n_3 ?_
    refine lv_goto (tgt := 33) hx hb dX9_drawBelow_29 (by decide) ?_
    exact hret _ _ _ _ _ _ dX9_drawBelow_33 h hP hS

def qX9_placeWatchers_L47 (Q : gS → Prop) (K47 : Int32 × Int32 × gS → Prop) : Int32 × Int32 × gS → Prop := fun ⟨v1, v2, S⟩ =>
  ((gi S 2) ≤ v2 → (Q S)) ∧ (¬ (gi S 2) ≤ v2 → (qX9_drawBelow S v1 (fun r3 S2 => qX1_coveOfShare S2 r3 (fun r5 S4 => vp_in r5 6 ∧ (∀ S7 : gS, S7 = sA S4 13 (upd (ga S4 13) r5.toNatClampNeg ((ga S4 13 r5.toNatClampNeg) + (1 : Int32))) → (∀ x8 : Int32, x8 = v2 + (1 : Int32) → (K47 (v1, x8, S7))))))))
def qX9_placeWatchers_L2 (Q : gS → Prop) (K2 : Int32 × gS → Prop) : Int32 × gS → Prop := fun ⟨v1, S⟩ =>
  ((6 : Int32) ≤ v1 → (qX1_sumOfShares S (fun r11 S10 => (r11 = 0 → (Q S10)) ∧ (¬ r11 = 0 → (lp (qX9_placeWatchers_L47 Q) (r11, (0 : Int32), S10)))))) ∧ (¬ (6 : Int32) ≤ v1 → (vp_in v1 6 ∧ (∀ S14 : gS, S14 = sA S 13 (upd (ga S 13) v1.toNatClampNeg (ga S 10 v1.toNatClampNeg)) → (∀ x15 : Int32, x15 = v1 + (1 : Int32) → (K2 (x15, S14))))))
def qX9_placeWatchers (S : gS) (Q : gS → Prop) : Prop :=
  lp (qX9_placeWatchers_L2 Q) ((0 : Int32), S)
abbrev rmX9_placeWatchers : Room := { frames := 1, cells := 0, slots := 0, locals := 23 }
set_option maxHeartbeats 4000000 in
set_option maxRecDepth 100000 in
theorem kX9_placeWatchers (l : Launch) (D : va_G) (Y : Nat → ClassId) (A : Nat → Nat) (hI : iC A) (sz : Nat) (S : gS) (Q : gS → Prop) (h : qX9_placeWatchers S  Q) : Met l yX9_placeWatchers wsX9_placeWatchers rmX9_placeWatchers (gPc [.ref (A 0)] sz D vwCl (tY Y) (wC Y A S)) (va_Qv Q (fun S' t => gH D vwCl (tY Y) (wC Y A S') t) (gF A 65 sz)) 0 0 (gF A 65 sz) := by
  refine gMet_v (cc := cX9_placeWatchers) (maxL := 3) (by decide +kernel) rfl (Nat.le_of_ble_eq_true rfl) (fun p e s m args below meth c Z H locs hx hb hml hts hown hK hP hS hret ls hl => ?_)
  have hown : s.vm.findClass RX9 = some m.cls := hown
  have hl : lv_has ls 3 [(0, .ref (A 0))] := hl
  have hD : ∀ S0 : gS, va_D (gF A 65 s.heap.size) (wC Y A S0) := fun S0 => dC hI S0 (fun k hk => gF_in hk)
  have k0 : ∀ w ∈ u_ws RX9 TX9 15, w ∈ wsX9_placeWatchers := by decide +kernel
  have k1 := hts (.fieldLink RX9 16 "CoastWatch" "drawCount" "I") (by decide +kernel)
  have k2 := hts (.fieldLink RX9 39 "CoastWatch" "coves" "LCoastWatch$Coves;") (by decide +kernel)
  have k3 : ∀ w ∈ u_ws RX1 TX1 7, w ∈ wsX9_placeWatchers := by decide +kernel
  have k4 := hts (.fieldLink RX9 291 "CoastWatch$Coves" "watchers" "[I") (by decide +kernel)
  have k5 := hts (.fieldLink RX9 165 "CoastWatch$Coves" "standing" "[I") (by decide +kernel)
  have tL47 : ∀ (v1 : Int32) (v2 : Int32) (S : gS), lp (qX9_placeWatchers_L47 Q) (v1, v2, S) → ∀ (H : Heap) (locs : List Loc) (ls : Array Slot), va_P D vwCl (wC Y A S) H → va_S (gF A 65 s.heap.size) s.heap H locs → lv_has ls 3 [(0, .ref (A 0)), (1, .int v1), (2, .int v2)] → W p l e rmX9_placeWatchers s m args below meth c H locs 0 0 Z (F0 m 47 ls []) := by
    intro  v1 v2 S h
    refine lp_walk (G := fun a => match a with | (v1, v2, S) => ∀ (H : Heap) (locs : List Loc) (ls : Array Slot), va_P D vwCl (wC Y A S) H → va_S (gF A 65 s.heap.size) s.heap H locs → lv_has ls 3 [(0, .ref (A 0)), (1, .int v1), (2, .int v2)] → W p l e rmX9_placeWatchers s m args below meth c H locs 0 0 Z (F0 m 47 ls [])) (fun K47 a ih47 h => ?_) (v1, v2, S) h
    obtain ⟨v1, v2, S⟩ := a
    have ih47 : ∀ (v1 : Int32) (v2 : Int32) (S : gS), K47 (v1, v2, S) → ∀ (H : Heap) (locs : List Loc) (ls : Array Slot), va_P D vwCl (wC Y A S) H → va_S (gF A 65 s.heap.size) s.heap H locs → lv_has ls 3 [(0, .ref (A 0)), (1, .int v1), (2, .int v2)] → W p l e rmX9_placeWatchers s m args below meth c H locs 0 0 Z (F0 m 47 ls []) := fun v1 v2 S q => ih47 (v1, v2, S) q
    intro H locs ls hP hS hl
    refine lv_iload_n hx hb dX9_placeWatchers_47 rfl (lv_at hl 2 rfl) ?_
    refine lv_aload_n hx hb dX9_placeWatchers_48 rfl (lv_at hl 0 rfl) ?_
    refine va_get (ci := 9) (v := .int (gi S 2)) (C := RX9) (T := TX9) (N := 15) hx hb hts k0 hown hK hP 0 (aC0 Y A S) rfl 2 (by decide) k1 (fun _ h9 => h9) rfl dX9_placeWatchers_49 ?_
    refine lv_icmp_ge (tgt := 85) hx hb dX9_placeWatchers_52 (by decide) (fun c1 => ?_) (fun c1 => ?_)
    · have h := h.1 c1
      exact hret _ _ _ _ _ dX9_placeWatchers_85 h hP hS
    · have h := h.2 c1
      refine lv_aload_n hx hb dX9_placeWatchers_55 rfl (lv_at hl 0 rfl) ?_
      refine va_get (ci := 9) (v := .ref (A 2)) (C := RX9) (T := TX9) (N := 15) hx hb hts k0 hown hK hP 0 (aC0 Y A S) rfl 7 (by decide) k2 (fun _ h9 => h9) rfl dX9_placeWatchers_56 ?_
      refine va_get (ci := 1) (v := .ref (A 24)) (C := RX1) (T := TX1) (N := 7) hx hb hts k3 hown hK hP 2 (aC2 Y A S) rfl 6 (by decide) k4 (fun _ h9 => h9) rfl dX9_placeWatchers_59 ?_
      refine lv_aload_n hx hb dX9_placeWatchers_62 rfl (lv_at hl 0 rfl) ?_
      refine va_get (ci := 9) (v := .ref (A 2)) (C := RX9) (T := TX9) (N := 15) hx hb hts k0 hown hK hP 0 (aC0 Y A S) rfl 7 (by decide) k2 (fun _ h9 => h9) rfl dX9_placeWatchers_63 ?_
      refine lv_aload_n hx hb dX9_placeWatchers_66 rfl (lv_at hl 0 rfl) ?_
      refine lv_iload_n hx hb dX9_placeWatchers_67 rfl (lv_at hl 1 rfl) ?_
      refine gVi (As := [.int v1]) (rest := [.ref (A 2), .ref (A 24)]) ⟨hx, hb, hml, hown, hts⟩ (kX9_drawBelow l D Y A hI H.size S v1 _ h) (cwV 1 hts gX9_placeWatchers_X9_drawBelow rfl rfl rfl (by decide +kernel) ⟨Nat.le_of_ble_eq_true rfl, Nat.le_of_ble_eq_true rfl⟩) hK hP hS (gF_le hS.1) (aC0 Y A S) (show vwCl[9]? = some (RX9, TX9, 15) from rfl) rfl rfl hl.1 (Nat.le_of_ble_eq_true rfl) dX9_placeWatchers_68 ⟨Nat.zero_le _, Nat.zero_le _⟩ ?_
      intro r3 S2 H locs h hP hS
      refine gVi (As := [.int r3]) (rest := [.ref (A 24)]) ⟨hx, hb, hml, hown, hts⟩ (kX1_coveOfShare l D Y A hI H.size S2 r3 _ h) (cwV 1 hts gX9_placeWatchers_X1_coveOfShare rfl rfl rfl (by decide +kernel) ⟨Nat.le_of_ble_eq_true rfl, Nat.le_of_ble_eq_true rfl⟩) hK hP hS (gF_le hS.1) (aC2 Y A S2) (show vwCl[1]? = some (RX1, TX1, 7) from rfl) rfl rfl hl.1 (Nat.le_of_ble_eq_true rfl) dX9_placeWatchers_71 ⟨Nat.zero_le _, Nat.zero_le _⟩ ?_
      intro r5 S4 H locs h hP hS
      refine lv_dup2_11 hx hb dX9_placeWatchers_74 rfl rfl ?_
      have v_6 := h.1
      have h := h.2
      refine va_iald hx hb hK hP 24 0 (aC24 Y A S4) rfl v_6 dX9_placeWatchers_75 ?_
      refine lv_iconst (v := (1 : Int32)) hx hb dX9_placeWatchers_76 (by decide) ?_
      refine lv_iadd hx hb dX9_placeWatchers_77 ?_
      obtain ⟨S7, eS7⟩ : ∃ z : gS, z = sA S4 13 (upd (ga S4 13) r5.toNatClampNeg ((ga S4 13 r5.toNatClampNeg) + (1 : Int32))) := ⟨_, rfl⟩
      refine va_iast hx hb hK hP (hD S4) hS 24 0 (aC24 Y A S4) rfl v_6 dX9_placeWatchers_78 (fun H locs hP _ hS => ?_)
      have hP := uC24 eS7 hP
      have h := h S7 eS7
      obtain ⟨x8, ex8⟩ : ∃ z : Int32, z = v2 + (1 : Int32) := ⟨_, rfl⟩
      have h := h x8 ex8
      refine lv_iinc (v := x8) (lv' := [(2, .int x8), (0, .ref (A 0)), (1, .int v1)]) hx hb dX9_placeWatchers_79 hl (k := 2) rfl (by rw [ex8]; rfl) (by decide) rfl (fun ls hl => ?_)
      refine lv_goto (tgt := 47) hx hb dX9_placeWatchers_82 (by decide) ?_
      exact ih47 v1 x8 S7 h _ _ _ hP hS (lv_sub hl [1, 2, 0] rfl)
  have tL2 : ∀ (v1 : Int32) (S : gS), lp (qX9_placeWatchers_L2 Q) (v1, S) → ∀ (H : Heap) (locs : List Loc) (ls : Array Slot), va_P D vwCl (wC Y A S) H → va_S (gF A 65 s.heap.size) s.heap H locs → lv_has ls 3 [(0, .ref (A 0)), (1, .int v1)] → W p l e rmX9_placeWatchers s m args below meth c H locs 0 0 Z (F0 m 2 ls []) := by
    intro  v1 S h
    refine lp_walk (G := fun a => match a with | (v1, S) => ∀ (H : Heap) (locs : List Loc) (ls : Array Slot), va_P D vwCl (wC Y A S) H → va_S (gF A 65 s.heap.size) s.heap H locs → lv_has ls 3 [(0, .ref (A 0)), (1, .int v1)] → W p l e rmX9_placeWatchers s m args below meth c H locs 0 0 Z (F0 m 2 ls [])) (fun K2 a ih2 h => ?_) (v1, S) h
    obtain ⟨v1, S⟩ := a
    have ih2 : ∀ (v1 : Int32) (S : gS), K2 (v1, S) → ∀ (H : Heap) (locs : List Loc) (ls : Array Slot), va_P D vwCl (wC Y A S) H → va_S (gF A 65 s.heap.size) s.heap H locs → lv_has ls 3 [(0, .ref (A 0)), (1, .int v1)] → W p l e rmX9_placeWatchers s m args below meth c H locs 0 0 Z (F0 m 2 ls []) := fun v1 S q => ih2 (v1, S) q
    intro H locs ls hP hS hl
    refine lv_iload_n hx hb dX9_placeWatchers_2 rfl (lv_at hl 1 rfl) ?_
    refine lv_bipush (v := (6 : Int32)) hx hb dX9_placeWatchers_3 (by decide) ?_
    refine lv_icmp_ge (tgt := 32) hx hb dX9_placeWatchers_5 (by decide) (fun c9 => ?_) (fun c9 => ?_)
    · have h := h.1 c9
      refine lv_aload_n hx hb dX9_placeWatchers_32 rfl (lv_at hl 0 rfl) ?_
      refine va_get (ci := 9) (v := .ref (A 2)) (C := RX9) (T := TX9) (N := 15) hx hb hts k0 hown hK hP 0 (aC0 Y A S) rfl 7 (by decide) k2 (fun _ h9 => h9) rfl dX9_placeWatchers_33 ?_
      refine gVi (As := []) (rest := []) ⟨hx, hb, hml, hown, hts⟩ (kX1_sumOfShares l D Y A hI H.size S  _ h) (cwV 0 hts gX9_placeWatchers_X1_sumOfShares rfl rfl rfl (by decide +kernel) ⟨Nat.le_of_ble_eq_true rfl, Nat.le_of_ble_eq_true rfl⟩) hK hP hS (gF_le hS.1) (aC2 Y A S) (show vwCl[1]? = some (RX1, TX1, 7) from rfl) rfl rfl hl.1 (Nat.le_of_ble_eq_true rfl) dX9_placeWatchers_36 ⟨Nat.zero_le _, Nat.zero_le _⟩ ?_
      intro r11 S10 H locs h hP hS
      refine lv_istore_n (lv' := [(1, .int r11), (0, .ref (A 0))]) hx hb dX9_placeWatchers_39 rfl hl (by decide) rfl (fun ls hl => ?_)
      refine lv_iload_n hx hb dX9_placeWatchers_40 rfl (lv_at hl 0 rfl) ?_
      refine lv_if_ne (tgt := 45) hx hb dX9_placeWatchers_41 (by decide) (fun c12 => ?_) (fun c12 => ?_)
      · have h := h.2 c12
        refine lv_iconst (v := (0 : Int32)) hx hb dX9_placeWatchers_45 (by decide) ?_
        refine lv_istore_n (lv' := [(2, .int (0 : Int32)), (1, .int r11), (0, .ref (A 0))]) hx hb dX9_placeWatchers_46 rfl hl (by decide) rfl (fun ls hl => ?_)
        exact tL47  r11 (0 : Int32) S10 h _ _ _ hP hS (lv_sub hl [2, 1, 0] rfl)
      · have h := h.1 c12
        exact hret _ _ _ _ _ dX9_placeWatchers_44 h hP hS
    · have h := h.2 c9
      refine lv_aload_n hx hb dX9_placeWatchers_8 rfl (lv_at hl 0 rfl) ?_
      refine va_get (ci := 9) (v := .ref (A 2)) (C := RX9) (T := TX9) (N := 15) hx hb hts k0 hown hK hP 0 (aC0 Y A S) rfl 7 (by decide) k2 (fun _ h9 => h9) rfl dX9_placeWatchers_9 ?_
      refine va_get (ci := 1) (v := .ref (A 24)) (C := RX1) (T := TX1) (N := 7) hx hb hts k3 hown hK hP 2 (aC2 Y A S) rfl 6 (by decide) k4 (fun _ h9 => h9) rfl dX9_placeWatchers_12 ?_
      refine lv_iload_n hx hb dX9_placeWatchers_15 rfl (lv_at hl 1 rfl) ?_
      refine lv_aload_n hx hb dX9_placeWatchers_16 rfl (lv_at hl 0 rfl) ?_
      refine va_get (ci := 9) (v := .ref (A 2)) (C := RX9) (T := TX9) (N := 15) hx hb hts k0 hown hK hP 0 (aC0 Y A S) rfl 7 (by decide) k2 (fun _ h9 => h9) rfl dX9_placeWatchers_17 ?_
      refine va_get (ci := 1) (v := .ref (A 21)) (C := RX1) (T := TX1) (N := 7) hx hb hts k3 hown hK hP 2 (aC2 Y A S) rfl 3 (by decide) k5 (fun _ h9 => h9) rfl dX9_placeWatchers_20 ?_
      refine lv_iload_n hx hb dX9_placeWatchers_23 rfl (lv_at hl 1 rfl) ?_
      have v_13 := h.1
      have h := h.2
      refine va_iald hx hb hK hP 21 0 (aC21 Y A S) rfl v_13 dX9_placeWatchers_24 ?_
      obtain ⟨S14, eS14⟩ : ∃ z : gS, z = sA S 13 (upd (ga S 13) v1.toNatClampNeg (ga S 10 v1.toNatClampNeg)) := ⟨_, rfl⟩
      refine va_iast hx hb hK hP (hD S) hS 24 0 (aC24 Y A S) rfl v_13 dX9_placeWatchers_25 (fun H locs hP _ hS => ?_)
      have hP := uC24 eS14 hP
      have h := h S14 eS14
      obtain ⟨x15, ex15⟩ : ∃ z : Int32, z = v1 + (1 : Int32) := ⟨_, rfl⟩
      have h := h x15 ex15
      refine lv_iinc (v := x15) (lv' := [(1, .int x15), (0, .ref (A 0))]) hx hb dX9_placeWatchers_26 hl (k := 1) rfl (by rw [ex15]; rfl) (by decide) rfl (fun ls hl => ?_)
      refine lv_goto (tgt := 2) hx hb dX9_placeWatchers_29 (by decide) ?_
      exact ih2 x15 S14 h _ _ _ hP hS (lv_sub hl [1, 0] rfl)
  refine lv_iconst (v := (0 : Int32)) hx hb dX9_placeWatchers_0 (by decide) ?_
  refine lv_istore_n (lv' := [(1, .int (0 : Int32)), (0, .ref (A 0))]) hx hb dX9_placeWatchers_1 rfl hl (by decide) rfl (fun ls hl => ?_)
  exact tL2  (0 : Int32) S h _ _ _ hP hS (lv_sub hl [1, 0] rfl)

def qX9_light (S : gS) (Q : Int32 → gS → Prop) : Prop :=
  ∀ x1 : Int32, x1 = ((15 : Int32) - ((gi S 0) - (gi S 0) / (30 : Int32) * (30 : Int32))) → ((0 ≤ x1 → (Q x1 S)) ∧ (¬ 0 ≤ x1 → (Q (-x1) S)))
abbrev rmX9_light : Room := { frames := 0, cells := 0, slots := 0, locals := 0 }
set_option maxHeartbeats 4000000 in
set_option maxRecDepth 100000 in
theorem kX9_light (l : Launch) (D : va_G) (Y : Nat → ClassId) (A : Nat → Nat) (hI : iC A) (sz : Nat) (S : gS) (Q : Int32 → gS → Prop) (h : qX9_light S  Q) : Met l yX9_light wsX9_light rmX9_light (gPc [.ref (A 0)] sz D vwCl (tY Y) (wC Y A S)) (va_Qi Q (fun S' t => gH D vwCl (tY Y) (wC Y A S') t) (gF A 65 sz)) 0 0 (gF A 65 sz) := by
  refine gMet_i (cc := cX9_light) (maxL := 2) (by decide +kernel) rfl (Nat.le_of_ble_eq_true rfl) (fun p e s m args below meth c Z H locs hx hb hml hts hown hK hP hS hret ls hl => ?_)
  have hown : s.vm.findClass RX9 = some m.cls := hown
  have hl : lv_has ls 2 [(0, .ref (A 0))] := hl
  have hD : ∀ S0 : gS, va_D (gF A 65 s.heap.size) (wC Y A S0) := fun S0 => dC hI S0 (fun k hk => gF_in hk)
  have k0 : ∀ w ∈ u_ws RX9 TX9 15, w ∈ wsX9_light := by decide +kernel
  have k1 := hts (.fieldLink RX9 7 "CoastWatch" "night" "I") (by decide +kernel)
  refine lv_bipush (v := (15 : Int32)) hx hb dX9_light_0 (by decide) ?_
  refine lv_aload_n hx hb dX9_light_2 rfl (lv_at hl 0 rfl) ?_
  refine va_get (ci := 9) (v := .int (gi S 0)) (C := RX9) (T := TX9) (N := 15) hx hb hts k0 hown hK hP 0 (aC0 Y A S) rfl 0 (by decide) k1 (fun _ h9 => h9) rfl dX9_light_3 ?_
  refine lv_bipush (v := (30 : Int32)) hx hb dX9_light_6 (by decide) ?_
  refine lv_irem hx hb dX9_light_8 (by decide) ?_
  refine lv_isub hx hb dX9_light_9 ?_
  refine lv_topi (fun x1 ex1 => ?_)
  have h := h x1 ex1
  refine lv_istore_n (lv' := [(1, .int x1), (0, .ref (A 0))]) hx hb dX9_light_10 rfl hl (by decide) rfl (fun ls hl => ?_)
  refine lv_iload_n hx hb dX9_light_11 rfl (lv_at hl 0 rfl) ?_
  refine lv_if_ge (tgt := 20) hx hb dX9_light_12 (by decide) (fun c2 => ?_) (fun c2 => ?_)
  · have h := h.1 c2
    refine lv_iload_n hx hb dX9_light_20 rfl (lv_at hl 0 rfl) ?_
    exact hret _ _ _ _ _ _ dX9_light_21 h hP hS
  · have h := h.2 c2
    refine lv_iload_n hx hb dX9_light_15 rfl (lv_at hl 0 rfl) ?_
    refine lv_ineg hx hb dX9_light_16 ?_
    refine lv_goto (tgt := 21) hx hb dX9_light_17 (by decide) ?_
    exact hret _ _ _ _ _ _ dX9_light_21 h hP hS

def qX9_isOpen (S : gS) (a1 : Int32) (a2 : Int32) (Q : Int32 → gS → Prop) : Prop :=
  qX9_tideAt S a2 (gi S 0) (fun r2 S1 => vp_in a2 6 ∧ (vp_in a1 8 ∧ (((r2 + (ga S1 7 a2.toNatClampNeg)) < (ga S1 14 a1.toNatClampNeg) → (Q (0 : Int32) S1)) ∧ (¬ (r2 + (ga S1 7 a2.toNatClampNeg)) < (ga S1 14 a1.toNatClampNeg) → (Q (1 : Int32) S1)))))
abbrev rmX9_isOpen : Room := { frames := 2, cells := 0, slots := 0, locals := 44 }
set_option maxHeartbeats 4000000 in
set_option maxRecDepth 100000 in
theorem kX9_isOpen (l : Launch) (D : va_G) (Y : Nat → ClassId) (A : Nat → Nat) (hI : iC A) (sz : Nat) (S : gS) (a1 : Int32) (a2 : Int32) (Q : Int32 → gS → Prop) (h : qX9_isOpen S a1 a2 Q) : Met l yX9_isOpen wsX9_isOpen rmX9_isOpen (gPc [.ref (A 0), .int a1, .int a2] sz D vwCl (tY Y) (wC Y A S)) (va_Qi Q (fun S' t => gH D vwCl (tY Y) (wC Y A S') t) (gF A 65 sz)) 0 0 (gF A 65 sz) := by
  refine gMet_z (cc := cX9_isOpen) (maxL := 3) (by decide +kernel) rfl (Nat.le_of_ble_eq_true rfl) (fun p e s m args below meth c Z H locs hx hb hml hts hown hK hP hS hret ls hl => ?_)
  have hown : s.vm.findClass RX9 = some m.cls := hown
  have hl : lv_has ls 3 [(0, .ref (A 0)), (1, .int a1), (2, .int a2)] := hl
  have hD : ∀ S0 : gS, va_D (gF A 65 s.heap.size) (wC Y A S0) := fun S0 => dC hI S0 (fun k hk => gF_in hk)
  have k0 : ∀ w ∈ u_ws RX9 TX9 15, w ∈ wsX9_isOpen := by decide +kernel
  have k1 := hts (.fieldLink RX9 7 "CoastWatch" "night" "I") (by decide +kernel)
  have k2 := hts (.fieldLink RX9 39 "CoastWatch" "coves" "LCoastWatch$Coves;") (by decide +kernel)
  have k3 : ∀ w ∈ u_ws RX1 TX1 7, w ∈ wsX9_isOpen := by decide +kernel
  have k4 := hts (.fieldLink RX9 100 "CoastWatch$Coves" "depth" "[I") (by decide +kernel)
  have k5 := hts (.fieldLink RX9 46 "CoastWatch" "boats" "LCoastWatch$Boats;") (by decide +kernel)
  have k6 : ∀ w ∈ u_ws RX0 TX0 9, w ∈ wsX9_isOpen := by decide +kernel
  have k7 := hts (.fieldLink RX9 356 "CoastWatch$Boats" "draught" "[I") (by decide +kernel)
  refine lv_aload_n hx hb dX9_isOpen_0 rfl (lv_at hl 0 rfl) ?_
  refine lv_iload_n hx hb dX9_isOpen_1 rfl (lv_at hl 2 rfl) ?_
  refine lv_aload_n hx hb dX9_isOpen_2 rfl (lv_at hl 0 rfl) ?_
  refine va_get (ci := 9) (v := .int (gi S 0)) (C := RX9) (T := TX9) (N := 15) hx hb hts k0 hown hK hP 0 (aC0 Y A S) rfl 0 (by decide) k1 (fun _ h9 => h9) rfl dX9_isOpen_3 ?_
  refine gVi (As := [.int a2, .int (gi S 0)]) (rest := []) ⟨hx, hb, hml, hown, hts⟩ (kX9_tideAt l D Y A hI H.size S a2 (gi S 0) _ h) (cwV 2 hts gX9_isOpen_X9_tideAt rfl rfl rfl (by decide +kernel) ⟨Nat.le_of_ble_eq_true rfl, Nat.le_of_ble_eq_true rfl⟩) hK hP hS (gF_le hS.1) (aC0 Y A S) (show vwCl[9]? = some (RX9, TX9, 15) from rfl) rfl rfl hl.1 (Nat.le_of_ble_eq_true rfl) dX9_isOpen_6 ⟨Nat.zero_le _, Nat.zero_le _⟩ ?_
  intro r2 S1 H locs h hP hS
  refine lv_aload_n hx hb dX9_isOpen_9 rfl (lv_at hl 0 rfl) ?_
  refine va_get (ci := 9) (v := .ref (A 2)) (C := RX9) (T := TX9) (N := 15) hx hb hts k0 hown hK hP 0 (aC0 Y A S1) rfl 7 (by decide) k2 (fun _ h9 => h9) rfl dX9_isOpen_10 ?_
  refine va_get (ci := 1) (v := .ref (A 18)) (C := RX1) (T := TX1) (N := 7) hx hb hts k3 hown hK hP 2 (aC2 Y A S1) rfl 0 (by decide) k4 (fun _ h9 => h9) rfl dX9_isOpen_13 ?_
  refine lv_iload_n hx hb dX9_isOpen_16 rfl (lv_at hl 2 rfl) ?_
  have v_3 := h.1
  have h := h.2
  refine va_iald hx hb hK hP 18 0 (aC18 Y A S1) rfl v_3 dX9_isOpen_17 ?_
  refine lv_iadd hx hb dX9_isOpen_18 ?_
  refine lv_aload_n hx hb dX9_isOpen_19 rfl (lv_at hl 0 rfl) ?_
  refine va_get (ci := 9) (v := .ref (A 3)) (C := RX9) (T := TX9) (N := 15) hx hb hts k0 hown hK hP 0 (aC0 Y A S1) rfl 8 (by decide) k5 (fun _ h9 => h9) rfl dX9_isOpen_20 ?_
  refine va_get (ci := 0) (v := .ref (A 25)) (C := RX0) (T := TX0) (N := 9) hx hb hts k6 hown hK hP 3 (aC3 Y A S1) rfl 1 (by decide) k7 (fun _ h9 => h9) rfl dX9_isOpen_23 ?_
  refine lv_iload_n hx hb dX9_isOpen_26 rfl (lv_at hl 1 rfl) ?_
  have v_4 := h.1
  have h := h.2
  refine va_iald hx hb hK hP 25 0 (aC25 Y A S1) rfl v_4 dX9_isOpen_27 ?_
  refine lv_icmp_lt (tgt := 35) hx hb dX9_isOpen_28 (by decide) (fun c5 => ?_) (fun c5 => ?_)
  · have h := h.1 c5
    refine lv_iconst (v := (0 : Int32)) hx hb dX9_isOpen_35 (by decide) ?_
    exact hret _ _ _ _ _ _ dX9_isOpen_36 rfl h hP hS
  · have h := h.2 c5
    refine lv_iconst (v := (1 : Int32)) hx hb dX9_isOpen_31 (by decide) ?_
    refine lv_goto (tgt := 36) hx hb dX9_isOpen_32 (by decide) ?_
    exact hret _ _ _ _ _ _ dX9_isOpen_36 rfl h hP hS

def qX9_isDearer (S : gS) (a1 : Int32) (a2 : Int32) (a3 : Int32) (Q : Int32 → gS → Prop) : Prop :=
  vp_in a1 8 ∧ (vp_in a2 6 ∧ (∀ x3 : Int32, x3 = (ga S (21 + a1.toNatClampNeg) a2.toNatClampNeg) → (vp_in a3 6 ∧ (∀ x5 : Int32, x5 = (ga S (21 + a1.toNatClampNeg) a3.toNatClampNeg) → ((x3 < x5 → (Q (1 : Int32) S)) ∧ (¬ x3 < x5 → ((x3 = x5 → (((ga S 8 a2.toNatClampNeg) ≤ (ga S 8 a3.toNatClampNeg) → (Q (0 : Int32) S)) ∧ (¬ (ga S 8 a2.toNatClampNeg) ≤ (ga S 8 a3.toNatClampNeg) → (Q (1 : Int32) S)))) ∧ (¬ x3 = x5 → (Q (0 : Int32) S)))))))))
abbrev rmX9_isDearer : Room := { frames := 0, cells := 0, slots := 0, locals := 0 }
set_option maxHeartbeats 4000000 in
set_option maxRecDepth 100000 in
theorem kX9_isDearer (l : Launch) (D : va_G) (Y : Nat → ClassId) (A : Nat → Nat) (hI : iC A) (sz : Nat) (S : gS) (a1 : Int32) (a2 : Int32) (a3 : Int32) (Q : Int32 → gS → Prop) (h : qX9_isDearer S a1 a2 a3 Q) : Met l yX9_isDearer wsX9_isDearer rmX9_isDearer (gPc [.ref (A 0), .int a1, .int a2, .int a3] sz D vwCl (tY Y) (wC Y A S)) (va_Qi Q (fun S' t => gH D vwCl (tY Y) (wC Y A S') t) (gF A 65 sz)) 0 0 (gF A 65 sz) := by
  refine gMet_z (cc := cX9_isDearer) (maxL := 6) (by decide +kernel) rfl (Nat.le_of_ble_eq_true rfl) (fun p e s m args below meth c Z H locs hx hb hml hts hown hK hP hS hret ls hl => ?_)
  have hown : s.vm.findClass RX9 = some m.cls := hown
  have hl : lv_has ls 6 [(0, .ref (A 0)), (1, .int a1), (2, .int a2), (3, .int a3)] := hl
  have hD : ∀ S0 : gS, va_D (gF A 65 s.heap.size) (wC Y A S0) := fun S0 => dC hI S0 (fun k hk => gF_in hk)
  have k0 : ∀ w ∈ u_ws RX9 TX9 15, w ∈ wsX9_isDearer := by decide +kernel
  have k1 := hts (.fieldLink RX9 46 "CoastWatch" "boats" "LCoastWatch$Boats;") (by decide +kernel)
  have k2 : ∀ w ∈ u_ws RX0 TX0 9, w ∈ wsX9_isDearer := by decide +kernel
  have k3 := hts (.fieldLink RX9 281 "CoastWatch$Boats" "fear" "[[I") (by decide +kernel)
  have k4 := hts (.fieldLink RX9 39 "CoastWatch" "coves" "LCoastWatch$Coves;") (by decide +kernel)
  have k5 : ∀ w ∈ u_ws RX1 TX1 7, w ∈ wsX9_isDearer := by decide +kernel
  have k6 := hts (.fieldLink RX9 103 "CoastWatch$Coves" "worth" "[I") (by decide +kernel)
  refine lv_aload_n hx hb dX9_isDearer_0 rfl (lv_at hl 0 rfl) ?_
  refine va_get (ci := 9) (v := .ref (A 3)) (C := RX9) (T := TX9) (N := 15) hx hb hts k0 hown hK hP 0 (aC0 Y A S) rfl 8 (by decide) k1 (fun _ h9 => h9) rfl dX9_isDearer_1 ?_
  refine va_get (ci := 0) (v := .ref (A 32)) (C := RX0) (T := TX0) (N := 9) hx hb hts k2 hown hK hP 3 (aC3 Y A S) rfl 8 (by decide) k3 (fun _ h9 => h9) rfl dX9_isDearer_4 ?_
  refine lv_iload_n hx hb dX9_isDearer_7 rfl (lv_at hl 1 rfl) ?_
  have v_1 := h.1
  have h := h.2
  refine gAald (g := fun j => A (33 + j)) hx hb hK hP 32 3 (aC32 Y A S) rfl (fun j hj => if_pos hj) v_1 dX9_isDearer_8 ?_
  refine lv_iload_n hx hb dX9_isDearer_9 rfl (lv_at hl 2 rfl) ?_
  have v_2 := h.1
  have h := h.2
  refine va_iald hx hb hK hP (33 + a1.toNatClampNeg) 0 (arC32 Y A S (vp_lt v_1)) rfl v_2 dX9_isDearer_10 ?_
  refine lv_topi (fun x3 ex3 => ?_)
  have h := h x3 ex3
  refine lv_istore (lv' := [(4, .int x3), (0, .ref (A 0)), (1, .int a1), (2, .int a2), (3, .int a3)]) hx hb dX9_isDearer_11 hl (by decide) rfl (fun ls hl => ?_)
  refine lv_aload_n hx hb dX9_isDearer_13 rfl (lv_at hl 1 rfl) ?_
  refine va_get (ci := 9) (v := .ref (A 3)) (C := RX9) (T := TX9) (N := 15) hx hb hts k0 hown hK hP 0 (aC0 Y A S) rfl 8 (by decide) k1 (fun _ h9 => h9) rfl dX9_isDearer_14 ?_
  refine va_get (ci := 0) (v := .ref (A 32)) (C := RX0) (T := TX0) (N := 9) hx hb hts k2 hown hK hP 3 (aC3 Y A S) rfl 8 (by decide) k3 (fun _ h9 => h9) rfl dX9_isDearer_17 ?_
  refine lv_iload_n hx hb dX9_isDearer_20 rfl (lv_at hl 2 rfl) ?_
  refine gAald (g := fun j => A (33 + j)) hx hb hK hP 32 3 (aC32 Y A S) rfl (fun j hj => if_pos hj) v_1 dX9_isDearer_21 ?_
  refine lv_iload_n hx hb dX9_isDearer_22 rfl (lv_at hl 4 rfl) ?_
  have v_4 := h.1
  have h := h.2
  refine va_iald hx hb hK hP (33 + a1.toNatClampNeg) 0 (arC32 Y A S (vp_lt v_1)) rfl v_4 dX9_isDearer_23 ?_
  refine lv_topi (fun x5 ex5 => ?_)
  have h := h x5 ex5
  refine lv_istore (lv' := [(5, .int x5), (4, .int x3), (0, .ref (A 0)), (1, .int a1), (2, .int a2), (3, .int a3)]) hx hb dX9_isDearer_24 hl (by decide) rfl (fun ls hl => ?_)
  refine lv_iload hx hb dX9_isDearer_26 (lv_at hl 1 rfl) ?_
  refine lv_iload hx hb dX9_isDearer_28 (lv_at hl 0 rfl) ?_
  refine lv_icmp_lt (tgt := 61) hx hb dX9_isDearer_30 (by decide) (fun c6 => ?_) (fun c6 => ?_)
  · have h := h.1 c6
    refine lv_iconst (v := (1 : Int32)) hx hb dX9_isDearer_61 (by decide) ?_
    refine lv_goto (tgt := 66) hx hb dX9_isDearer_62 (by decide) ?_
    exact hret _ _ _ _ _ _ dX9_isDearer_66 rfl h hP hS
  · have h := h.2 c6
    refine lv_iload hx hb dX9_isDearer_33 (lv_at hl 1 rfl) ?_
    refine lv_iload hx hb dX9_isDearer_35 (lv_at hl 0 rfl) ?_
    refine lv_icmp_ne (tgt := 65) hx hb dX9_isDearer_37 (by decide) (fun c7 => ?_) (fun c7 => ?_)
    · have h := h.2 c7
      refine lv_iconst (v := (0 : Int32)) hx hb dX9_isDearer_65 (by decide) ?_
      exact hret _ _ _ _ _ _ dX9_isDearer_66 rfl h hP hS
    · have h := h.1 c7
      refine lv_aload_n hx hb dX9_isDearer_40 rfl (lv_at hl 2 rfl) ?_
      refine va_get (ci := 9) (v := .ref (A 2)) (C := RX9) (T := TX9) (N := 15) hx hb hts k0 hown hK hP 0 (aC0 Y A S) rfl 7 (by decide) k4 (fun _ h9 => h9) rfl dX9_isDearer_41 ?_
      refine va_get (ci := 1) (v := .ref (A 19)) (C := RX1) (T := TX1) (N := 7) hx hb hts k5 hown hK hP 2 (aC2 Y A S) rfl 1 (by decide) k6 (fun _ h9 => h9) rfl dX9_isDearer_44 ?_
      refine lv_iload_n hx hb dX9_isDearer_47 rfl (lv_at hl 4 rfl) ?_
      refine va_iald hx hb hK hP 19 0 (aC19 Y A S) rfl v_2 dX9_isDearer_48 ?_
      refine lv_aload_n hx hb dX9_isDearer_49 rfl (lv_at hl 2 rfl) ?_
      refine va_get (ci := 9) (v := .ref (A 2)) (C := RX9) (T := TX9) (N := 15) hx hb hts k0 hown hK hP 0 (aC0 Y A S) rfl 7 (by decide) k4 (fun _ h9 => h9) rfl dX9_isDearer_50 ?_
      refine va_get (ci := 1) (v := .ref (A 19)) (C := RX1) (T := TX1) (N := 7) hx hb hts k5 hown hK hP 2 (aC2 Y A S) rfl 1 (by decide) k6 (fun _ h9 => h9) rfl dX9_isDearer_53 ?_
      refine lv_iload_n hx hb dX9_isDearer_56 rfl (lv_at hl 5 rfl) ?_
      refine va_iald hx hb hK hP 19 0 (aC19 Y A S) rfl v_4 dX9_isDearer_57 ?_
      refine lv_icmp_le (tgt := 65) hx hb dX9_isDearer_58 (by decide) (fun c8 => ?_) (fun c8 => ?_)
      · have h := h.1 c8
        refine lv_iconst (v := (0 : Int32)) hx hb dX9_isDearer_65 (by decide) ?_
        exact hret _ _ _ _ _ _ dX9_isDearer_66 rfl h hP hS
      · have h := h.2 c8
        refine lv_iconst (v := (1 : Int32)) hx hb dX9_isDearer_61 (by decide) ?_
        refine lv_goto (tgt := 66) hx hb dX9_isDearer_62 (by decide) ?_
        exact hret _ _ _ _ _ _ dX9_isDearer_66 rfl h hP hS

def qX9_chosenCove_L4 (a1 : Int32) (Q : Int32 → gS → Prop) (K4 : Int32 × Int32 × gS → Prop) : Int32 × Int32 × gS → Prop := fun ⟨v2, v3, S⟩ =>
  ((6 : Int32) ≤ v3 → (Q v2 S)) ∧ (¬ (6 : Int32) ≤ v3 → (qX9_isOpen S a1 v3 (fun r3 S2 => (r3 = 0 → (∀ x5 : Int32, x5 = v3 + (1 : Int32) → (K4 (v2, x5, S2)))) ∧ (¬ r3 = 0 → ((v2 = (-1 : Int32) → (∀ x7 : Int32, x7 = v3 + (1 : Int32) → (K4 (v3, x7, S2)))) ∧ (¬ v2 = (-1 : Int32) → (qX9_isDearer S2 a1 v3 v2 (fun r9 S8 => (r9 = 0 → (∀ x11 : Int32, x11 = v3 + (1 : Int32) → (K4 (v2, x11, S8)))) ∧ (¬ r9 = 0 → (∀ x12 : Int32, x12 = v3 + (1 : Int32) → (K4 (v3, x12, S8))))))))))))
def qX9_chosenCove (S : gS) (a1 : Int32) (Q : Int32 → gS → Prop) : Prop :=
  lp (qX9_chosenCove_L4 a1 Q) ((-1 : Int32), (0 : Int32), S)
abbrev rmX9_chosenCove : Room := { frames := 3, cells := 0, slots := 0, locals := 66 }
set_option maxHeartbeats 4000000 in
set_option maxRecDepth 100000 in
theorem kX9_chosenCove (l : Launch) (D : va_G) (Y : Nat → ClassId) (A : Nat → Nat) (hI : iC A) (sz : Nat) (S : gS) (a1 : Int32) (Q : Int32 → gS → Prop) (h : qX9_chosenCove S a1 Q) : Met l yX9_chosenCove wsX9_chosenCove rmX9_chosenCove (gPc [.ref (A 0), .int a1] sz D vwCl (tY Y) (wC Y A S)) (va_Qi Q (fun S' t => gH D vwCl (tY Y) (wC Y A S') t) (gF A 65 sz)) 0 0 (gF A 65 sz) := by
  refine gMet_i (cc := cX9_chosenCove) (maxL := 4) (by decide +kernel) rfl (Nat.le_of_ble_eq_true rfl) (fun p e s m args below meth c Z H locs hx hb hml hts hown hK hP hS hret ls hl => ?_)
  have hown : s.vm.findClass RX9 = some m.cls := hown
  have hl : lv_has ls 4 [(0, .ref (A 0)), (1, .int a1)] := hl
  have hD : ∀ S0 : gS, va_D (gF A 65 s.heap.size) (wC Y A S0) := fun S0 => dC hI S0 (fun k hk => gF_in hk)
  have tL4 : ∀ (v2 : Int32) (v3 : Int32) (S : gS), lp (qX9_chosenCove_L4 a1 Q) (v2, v3, S) → ∀ (H : Heap) (locs : List Loc) (ls : Array Slot), va_P D vwCl (wC Y A S) H → va_S (gF A 65 s.heap.size) s.heap H locs → lv_has ls 4 [(0, .ref (A 0)), (1, .int a1), (2, .int v2), (3, .int v3)] → W p l e rmX9_chosenCove s m args below meth c H locs 0 0 Z (F0 m 4 ls []) := by
    intro  v2 v3 S h
    refine lp_walk (G := fun a => match a with | (v2, v3, S) => ∀ (H : Heap) (locs : List Loc) (ls : Array Slot), va_P D vwCl (wC Y A S) H → va_S (gF A 65 s.heap.size) s.heap H locs → lv_has ls 4 [(0, .ref (A 0)), (1, .int a1), (2, .int v2), (3, .int v3)] → W p l e rmX9_chosenCove s m args below meth c H locs 0 0 Z (F0 m 4 ls [])) (fun K4 a ih4 h => ?_) (v2, v3, S) h
    obtain ⟨v2, v3, S⟩ := a
    have ih4 : ∀ (v2 : Int32) (v3 : Int32) (S : gS), K4 (v2, v3, S) → ∀ (H : Heap) (locs : List Loc) (ls : Array Slot), va_P D vwCl (wC Y A S) H → va_S (gF A 65 s.heap.size) s.heap H locs → lv_has ls 4 [(0, .ref (A 0)), (1, .int a1), (2, .int v2), (3, .int v3)] → W p l e rmX9_chosenCove s m args below meth c H locs 0 0 Z (F0 m 4 ls []) := fun v2 v3 S q => ih4 (v2, v3, S) q
    intro H locs ls hP hS hl
    refine lv_iload_n hx hb dX9_chosenCove_4 rfl (lv_at hl 3 rfl) ?_
    refine lv_bipush (v := (6 : Int32)) hx hb dX9_chosenCove_5 (by decide) ?_
    refine lv_icmp_ge (tgt := 42) hx hb dX9_chosenCove_7 (by decide) (fun c1 => ?_) (fun c1 => ?_)
    · have h := h.1 c1
      refine lv_iload_n hx hb dX9_chosenCove_42 rfl (lv_at hl 2 rfl) ?_
      exact hret _ _ _ _ _ _ dX9_chosenCove_43 h hP hS
    · have h := h.2 c1
      refine lv_aload_n hx hb dX9_chosenCove_10 rfl (lv_at hl 0 rfl) ?_
      refine lv_iload_n hx hb dX9_chosenCove_11 rfl (lv_at hl 1 rfl) ?_
      refine lv_iload_n hx hb dX9_chosenCove_12 rfl (lv_at hl 3 rfl) ?_
      refine gVi (As := [.int a1, .int v3]) (rest := []) ⟨hx, hb, hml, hown, hts⟩ (kX9_isOpen l D Y A hI H.size S a1 v3 _ h) (cwV 2 hts gX9_chosenCove_X9_isOpen rfl rfl rfl (by decide +kernel) ⟨Nat.le_of_ble_eq_true rfl, Nat.le_of_ble_eq_true rfl⟩) hK hP hS (gF_le hS.1) (aC0 Y A S) (show vwCl[9]? = some (RX9, TX9, 15) from rfl) rfl rfl hl.1 (Nat.le_of_ble_eq_true rfl) dX9_chosenCove_13 ⟨Nat.zero_le _, Nat.zero_le _⟩ ?_
      intro r3 S2 H locs h hP hS
      refine lv_if_eq (tgt := 36) hx hb dX9_chosenCove_16 (by decide) (fun c4 => ?_) (fun c4 => ?_)
      · have h := h.1 c4
        obtain ⟨x5, ex5⟩ : ∃ z : Int32, z = v3 + (1 : Int32) := ⟨_, rfl⟩
        have h := h x5 ex5
        refine lv_iinc (v := x5) (lv' := [(3, .int x5), (0, .ref (A 0)), (1, .int a1), (2, .int v2)]) hx hb dX9_chosenCove_36 hl (k := 3) rfl (by rw [ex5]; rfl) (by decide) rfl (fun ls hl => ?_)
        refine lv_goto (tgt := 4) hx hb dX9_chosenCove_39 (by decide) ?_
        exact ih4 v2 x5 S2 h _ _ _ hP hS (lv_sub hl [1, 2, 3, 0] rfl)
      · have h := h.2 c4
        refine lv_iload_n hx hb dX9_chosenCove_19 rfl (lv_at hl 2 rfl) ?_
        refine lv_iconst (v := (-1 : Int32)) hx hb dX9_chosenCove_20 (by decide) ?_
        refine lv_icmp_eq (tgt := 34) hx hb dX9_chosenCove_21 (by decide) (fun c6 => ?_) (fun c6 => ?_)
        · have h := h.1 c6
          refine lv_iload_n hx hb dX9_chosenCove_34 rfl (lv_at hl 3 rfl) ?_
          refine lv_istore_n (lv' := [(2, .int v3), (0, .ref (A 0)), (1, .int a1), (3, .int v3)]) hx hb dX9_chosenCove_35 rfl hl (by decide) rfl (fun ls hl => ?_)
          obtain ⟨x7, ex7⟩ : ∃ z : Int32, z = v3 + (1 : Int32) := ⟨_, rfl⟩
          have h := h x7 ex7
          refine lv_iinc (v := x7) (lv' := [(3, .int x7), (2, .int v3), (0, .ref (A 0)), (1, .int a1)]) hx hb dX9_chosenCove_36 hl (k := 3) rfl (by rw [ex7]; rfl) (by decide) rfl (fun ls hl => ?_)
          refine lv_goto (tgt := 4) hx hb dX9_chosenCove_39 (by decide) ?_
          exact ih4 v3 x7 S2 h _ _ _ hP hS (lv_sub hl [2, 3, 1, 0] rfl)
        · have h := h.2 c6
          refine lv_aload_n hx hb dX9_chosenCove_24 rfl (lv_at hl 0 rfl) ?_
          refine lv_iload_n hx hb dX9_chosenCove_25 rfl (lv_at hl 1 rfl) ?_
          refine lv_iload_n hx hb dX9_chosenCove_26 rfl (lv_at hl 3 rfl) ?_
          refine lv_iload_n hx hb dX9_chosenCove_27 rfl (lv_at hl 2 rfl) ?_
          refine gVi (As := [.int a1, .int v3, .int v2]) (rest := []) ⟨hx, hb, hml, hown, hts⟩ (kX9_isDearer l D Y A hI H.size S2 a1 v3 v2 _ h) (cwV 3 hts gX9_chosenCove_X9_isDearer rfl rfl rfl (by decide +kernel) ⟨Nat.le_of_ble_eq_true rfl, Nat.le_of_ble_eq_true rfl⟩) hK hP hS (gF_le hS.1) (aC0 Y A S2) (show vwCl[9]? = some (RX9, TX9, 15) from rfl) rfl rfl hl.1 (Nat.le_of_ble_eq_true rfl) dX9_chosenCove_28 ⟨Nat.zero_le _, Nat.zero_le _⟩ ?_
          intro r9 S8 H locs h hP hS
          refine lv_if_eq (tgt := 36) hx hb dX9_chosenCove_31 (by decide) (fun c10 => ?_) (fun c10 => ?_)
          · have h := h.1 c10
            obtain ⟨x11, ex11⟩ : ∃ z : Int32, z = v3 + (1 : Int32) := ⟨_, rfl⟩
            have h := h x11 ex11
            refine lv_iinc (v := x11) (lv' := [(3, .int x11), (0, .ref (A 0)), (1, .int a1), (2, .int v2)]) hx hb dX9_chosenCove_36 hl (k := 3) rfl (by rw [ex11]; rfl) (by decide) rfl (fun ls hl => ?_)
            refine lv_goto (tgt := 4) hx hb dX9_chosenCove_39 (by decide) ?_
            exact ih4 v2 x11 S8 h _ _ _ hP hS (lv_sub hl [1, 2, 3, 0] rfl)
          · have h := h.2 c10
            refine lv_iload_n hx hb dX9_chosenCove_34 rfl (lv_at hl 3 rfl) ?_
            refine lv_istore_n (lv' := [(2, .int v3), (0, .ref (A 0)), (1, .int a1), (3, .int v3)]) hx hb dX9_chosenCove_35 rfl hl (by decide) rfl (fun ls hl => ?_)
            obtain ⟨x12, ex12⟩ : ∃ z : Int32, z = v3 + (1 : Int32) := ⟨_, rfl⟩
            have h := h x12 ex12
            refine lv_iinc (v := x12) (lv' := [(3, .int x12), (2, .int v3), (0, .ref (A 0)), (1, .int a1)]) hx hb dX9_chosenCove_36 hl (k := 3) rfl (by rw [ex12]; rfl) (by decide) rfl (fun ls hl => ?_)
            refine lv_goto (tgt := 4) hx hb dX9_chosenCove_39 (by decide) ?_
            exact ih4 v3 x12 S8 h _ _ _ hP hS (lv_sub hl [2, 3, 1, 0] rfl)
  refine lv_iconst (v := (-1 : Int32)) hx hb dX9_chosenCove_0 (by decide) ?_
  refine lv_istore_n (lv' := [(2, .int (-1 : Int32)), (0, .ref (A 0)), (1, .int a1)]) hx hb dX9_chosenCove_1 rfl hl (by decide) rfl (fun ls hl => ?_)
  refine lv_iconst (v := (0 : Int32)) hx hb dX9_chosenCove_2 (by decide) ?_
  refine lv_istore_n (lv' := [(3, .int (0 : Int32)), (2, .int (-1 : Int32)), (0, .ref (A 0)), (1, .int a1)]) hx hb dX9_chosenCove_3 rfl hl (by decide) rfl (fun ls hl => ?_)
  exact tL4  (-1 : Int32) (0 : Int32) S h _ _ _ hP hS (lv_sub hl [2, 3, 1, 0] rfl)

def qX9_partSeized_J86 (a1 : Int32) (a2 : Int32) (Q : gS → Prop) : Int32 × Int32 × Int32 × gS → Prop := fun ⟨v3, v5, v6, S⟩ =>
  vp_in (0 : Int32) 8 ∧ (∀ S2 : gS, S2 = sA S 1 (upd (ga S 1) (0 : Int32).toNatClampNeg ((ga S 1 (0 : Int32).toNatClampNeg) + v5)) → (vp_in (1 : Int32) 8 ∧ (∀ S4 : gS, S4 = sA S2 1 (upd (ga S2 1) (1 : Int32).toNatClampNeg ((ga S2 1 (1 : Int32).toNatClampNeg) + ((v3 - v5) - v6))) → (Q S4))))
def qX9_partSeized (S : gS) (a1 : Int32) (a2 : Int32) (Q : gS → Prop) : Prop :=
  ∀ x5 : Int32, x5 = (a1 * (gi S 3)) → (qX4_inForceOn S (gi S 0) (fun r7 S6 => (r7 = (-1 : Int32) → (qX9_partSeized_J86 a1 a2 Q (x5, (0 : Int32), (0 : Int32), S6))) ∧ (¬ r7 = (-1 : Int32) → (vp_in r7 20 ∧ (∀ x10 : Int32, x10 = ((x5 * (ga S6 40 r7.toNatClampNeg)) / (100 : Int32)) → (qX9_isInformer S6 a2 (fun r12 S11 => (r12 = 0 → (qX9_partSeized_J86 a1 a2 Q (x5, x10, (0 : Int32), S11))) ∧ (¬ r12 = 0 → (∀ x14 : Int32, x14 = ((x5 * (ga S11 41 r7.toNatClampNeg)) / (100 : Int32)) → (vp_in ((2 : Int32) + a2) 8 ∧ (∀ S16 : gS, S16 = sA S11 1 (upd (ga S11 1) ((2 : Int32) + a2).toNatClampNeg ((ga S11 1 ((2 : Int32) + a2).toNatClampNeg) + x14)) → (qX9_partSeized_J86 a1 a2 Q (x5, x10, x14, S16)))))))))))))
abbrev rmX9_partSeized : Room := { frames := 1, cells := 0, slots := 0, locals := 23 }
set_option maxHeartbeats 4000000 in
set_option maxRecDepth 100000 in
theorem kX9_partSeized (l : Launch) (D : va_G) (Y : Nat → ClassId) (A : Nat → Nat) (hI : iC A) (sz : Nat) (S : gS) (a1 : Int32) (a2 : Int32) (Q : gS → Prop) (h : qX9_partSeized S a1 a2 Q) : Met l yX9_partSeized wsX9_partSeized rmX9_partSeized (gPc [.ref (A 0), .int a1, .int a2] sz D vwCl (tY Y) (wC Y A S)) (va_Qv Q (fun S' t => gH D vwCl (tY Y) (wC Y A S') t) (gF A 65 sz)) 0 0 (gF A 65 sz) := by
  refine gMet_v (cc := cX9_partSeized) (maxL := 7) (by decide +kernel) rfl (Nat.le_of_ble_eq_true rfl) (fun p e s m args below meth c Z H locs hx hb hml hts hown hK hP hS hret ls hl => ?_)
  have hown : s.vm.findClass RX9 = some m.cls := hown
  have hl : lv_has ls 7 [(0, .ref (A 0)), (1, .int a1), (2, .int a2)] := hl
  have hD : ∀ S0 : gS, va_D (gF A 65 s.heap.size) (wC Y A S0) := fun S0 => dC hI S0 (fun k hk => gF_in hk)
  have k0 : ∀ w ∈ u_ws RX9 TX9 15, w ∈ wsX9_partSeized := by decide +kernel
  have k1 := hts (.fieldLink RX9 26 "CoastWatch" "purses" "[I") (by decide +kernel)
  have k2 := hts (.fieldLink RX9 19 "CoastWatch" "casksPrice" "I") (by decide +kernel)
  have k3 := hts (.fieldLink RX9 67 "CoastWatch" "laws" "LCoastWatch$Laws;") (by decide +kernel)
  have k4 := hts (.fieldLink RX9 7 "CoastWatch" "night" "I") (by decide +kernel)
  have k5 : ∀ w ∈ u_ws RX4 TX4 4, w ∈ wsX9_partSeized := by decide +kernel
  have k6 := hts (.fieldLink RX9 377 "CoastWatch$Laws" "crew" "[I") (by decide +kernel)
  have k7 := hts (.fieldLink RX9 380 "CoastWatch$Laws" "informer" "[I") (by decide +kernel)
  have tJ86 : ∀ (v3 : Int32) (v5 : Int32) (v6 : Int32) (S : gS), qX9_partSeized_J86 a1 a2 Q (v3, v5, v6, S) → ∀ (H : Heap) (locs : List Loc) (ls : Array Slot), va_P D vwCl (wC Y A S) H → va_S (gF A 65 s.heap.size) s.heap H locs → lv_has ls 7 [(0, .ref (A 0)), (3, .int v3), (5, .int v5), (6, .int v6)] → W p l e rmX9_partSeized s m args below meth c H locs 0 0 Z (F0 m 86 ls []) := by
    intro  v3 v5 v6 S h
    intro H locs ls hP hS hl
    refine lv_aload_n hx hb dX9_partSeized_86 rfl (lv_at hl 0 rfl) ?_
    refine va_get (ci := 9) (v := .ref (A 11)) (C := RX9) (T := TX9) (N := 15) hx hb hts k0 hown hK hP 0 (aC0 Y A S) rfl 5 (by decide) k1 (fun _ h9 => h9) rfl dX9_partSeized_87 ?_
    refine lv_iconst (v := (0 : Int32)) hx hb dX9_partSeized_90 (by decide) ?_
    refine lv_dup2_11 hx hb dX9_partSeized_91 rfl rfl ?_
    have v_1 := h.1
    have h := h.2
    refine va_iald hx hb hK hP 11 0 (aC11 Y A S) rfl v_1 dX9_partSeized_92 ?_
    refine lv_iload hx hb dX9_partSeized_93 (lv_at hl 2 rfl) ?_
    refine lv_iadd hx hb dX9_partSeized_95 ?_
    obtain ⟨S2, eS2⟩ : ∃ z : gS, z = sA S 1 (upd (ga S 1) (0 : Int32).toNatClampNeg ((ga S 1 (0 : Int32).toNatClampNeg) + v5)) := ⟨_, rfl⟩
    refine va_iast hx hb hK hP (hD S) hS 11 0 (aC11 Y A S) rfl v_1 dX9_partSeized_96 (fun H locs hP _ hS => ?_)
    have hP := uC11 eS2 hP
    have h := h S2 eS2
    refine lv_aload_n hx hb dX9_partSeized_97 rfl (lv_at hl 0 rfl) ?_
    refine va_get (ci := 9) (v := .ref (A 11)) (C := RX9) (T := TX9) (N := 15) hx hb hts k0 hown hK hP 0 (aC0 Y A S2) rfl 5 (by decide) k1 (fun _ h9 => h9) rfl dX9_partSeized_98 ?_
    refine lv_iconst (v := (1 : Int32)) hx hb dX9_partSeized_101 (by decide) ?_
    refine lv_dup2_11 hx hb dX9_partSeized_102 rfl rfl ?_
    have v_3 := h.1
    have h := h.2
    refine va_iald hx hb hK hP 11 0 (aC11 Y A S2) rfl v_3 dX9_partSeized_103 ?_
    refine lv_iload_n hx hb dX9_partSeized_104 rfl (lv_at hl 1 rfl) ?_
    refine lv_iload hx hb dX9_partSeized_105 (lv_at hl 2 rfl) ?_
    refine lv_isub hx hb dX9_partSeized_107 ?_
    refine lv_iload hx hb dX9_partSeized_108 (lv_at hl 3 rfl) ?_
    refine lv_isub hx hb dX9_partSeized_110 ?_
    refine lv_iadd hx hb dX9_partSeized_111 ?_
    obtain ⟨S4, eS4⟩ : ∃ z : gS, z = sA S2 1 (upd (ga S2 1) (1 : Int32).toNatClampNeg ((ga S2 1 (1 : Int32).toNatClampNeg) + ((v3 - v5) - v6))) := ⟨_, rfl⟩
    refine va_iast hx hb hK hP (hD S2) hS 11 0 (aC11 Y A S2) rfl v_3 dX9_partSeized_112 (fun H locs hP _ hS => ?_)
    have hP := uC11 eS4 hP
    have h := h S4 eS4
    exact hret _ _ _ _ _ dX9_partSeized_113 h hP hS
  refine lv_iload_n hx hb dX9_partSeized_0 rfl (lv_at hl 1 rfl) ?_
  refine lv_aload_n hx hb dX9_partSeized_1 rfl (lv_at hl 0 rfl) ?_
  refine va_get (ci := 9) (v := .int (gi S 3)) (C := RX9) (T := TX9) (N := 15) hx hb hts k0 hown hK hP 0 (aC0 Y A S) rfl 3 (by decide) k2 (fun _ h9 => h9) rfl dX9_partSeized_2 ?_
  refine lv_imul hx hb dX9_partSeized_5 ?_
  refine lv_topi (fun x5 ex5 => ?_)
  have h := h x5 ex5
  refine lv_istore_n (lv' := [(3, .int x5), (0, .ref (A 0)), (1, .int a1), (2, .int a2)]) hx hb dX9_partSeized_6 rfl hl (by decide) rfl (fun ls hl => ?_)
  refine lv_aload_n hx hb dX9_partSeized_7 rfl (lv_at hl 1 rfl) ?_
  refine va_get (ci := 9) (v := .ref (A 6)) (C := RX9) (T := TX9) (N := 15) hx hb hts k0 hown hK hP 0 (aC0 Y A S) rfl 11 (by decide) k3 (fun _ h9 => h9) rfl dX9_partSeized_8 ?_
  refine lv_aload_n hx hb dX9_partSeized_11 rfl (lv_at hl 1 rfl) ?_
  refine va_get (ci := 9) (v := .int (gi S 0)) (C := RX9) (T := TX9) (N := 15) hx hb hts k0 hown hK hP 0 (aC0 Y A S) rfl 0 (by decide) k4 (fun _ h9 => h9) rfl dX9_partSeized_12 ?_
  refine gVi (As := [.int (gi S 0)]) (rest := []) ⟨hx, hb, hml, hown, hts⟩ (kX4_inForceOn l D Y A hI H.size S (gi S 0) _ h) (cwV 1 hts gX9_partSeized_X4_inForceOn rfl rfl rfl (by decide +kernel) ⟨Nat.le_of_ble_eq_true rfl, Nat.le_of_ble_eq_true rfl⟩) hK hP hS (gF_le hS.1) (aC6 Y A S) (show vwCl[4]? = some (RX4, TX4, 4) from rfl) rfl rfl hl.1 (Nat.le_of_ble_eq_true rfl) dX9_partSeized_15 ⟨Nat.zero_le _, Nat.zero_le _⟩ ?_
  intro r7 S6 H locs h hP hS
  refine lv_istore (lv' := [(4, .int r7), (3, .int x5), (0, .ref (A 0)), (1, .int a1), (2, .int a2)]) hx hb dX9_partSeized_18 hl (by decide) rfl (fun ls hl => ?_)
  refine lv_iconst (v := (0 : Int32)) hx hb dX9_partSeized_20 (by decide) ?_
  refine lv_istore (lv' := [(5, .int (0 : Int32)), (4, .int r7), (3, .int x5), (0, .ref (A 0)), (1, .int a1), (2, .int a2)]) hx hb dX9_partSeized_21 hl (by decide) rfl (fun ls hl => ?_)
  refine lv_iconst (v := (0 : Int32)) hx hb dX9_partSeized_23 (by decide) ?_
  refine lv_istore (lv' := [(6, .int (0 : Int32)), (5, .int (0 : Int32)), (4, .int r7), (3, .int x5), (0, .ref (A 0)), (1, .int a1), (2, .int a2)]) hx hb dX9_partSeized_24 hl (by decide) rfl (fun ls hl => ?_)
  refine lv_iload hx hb dX9_partSeized_26 (lv_at hl 2 rfl) ?_
  refine lv_iconst (v := (-1 : Int32)) hx hb dX9_partSeized_28 (by decide) ?_
  refine lv_icmp_eq (tgt := 86) hx hb dX9_partSeized_29 (by decide) (fun c8 => ?_) (fun c8 => ?_)
  · have h := h.1 c8
    exact tJ86  x5 (0 : Int32) (0 : Int32) S6 h _ _ _ hP hS (lv_sub hl [4, 3, 1, 0] rfl)
  · have h := h.2 c8
    refine lv_iload_n hx hb dX9_partSeized_32 rfl (lv_at hl 3 rfl) ?_
    refine lv_aload_n hx hb dX9_partSeized_33 rfl (lv_at hl 4 rfl) ?_
    refine va_get (ci := 9) (v := .ref (A 6)) (C := RX9) (T := TX9) (N := 15) hx hb hts k0 hown hK hP 0 (aC0 Y A S6) rfl 11 (by decide) k3 (fun _ h9 => h9) rfl dX9_partSeized_34 ?_
    refine va_get (ci := 4) (v := .ref (A 53)) (C := RX4) (T := TX4) (N := 4) hx hb hts k5 hown hK hP 6 (aC6 Y A S6) rfl 1 (by decide) k6 (fun _ h9 => h9) rfl dX9_partSeized_37 ?_
    refine lv_iload hx hb dX9_partSeized_40 (lv_at hl 2 rfl) ?_
    have v_9 := h.1
    have h := h.2
    refine va_iald hx hb hK hP 53 0 (aC53 Y A S6) rfl v_9 dX9_partSeized_42 ?_
    refine lv_imul hx hb dX9_partSeized_43 ?_
    refine lv_bipush (v := (100 : Int32)) hx hb dX9_partSeized_44 (by decide) ?_
    refine lv_idiv hx hb dX9_partSeized_46 (by decide) ?_
    refine lv_topi (fun x10 ex10 => ?_)
    have h := h x10 ex10
    refine lv_istore (lv' := [(5, .int x10), (6, .int (0 : Int32)), (4, .int r7), (3, .int x5), (0, .ref (A 0)), (1, .int a1), (2, .int a2)]) hx hb dX9_partSeized_47 hl (by decide) rfl (fun ls hl => ?_)
    refine lv_iload_n hx hb dX9_partSeized_49 rfl (lv_at hl 6 rfl) ?_
    refine gSi (As := [.int a2]) (rest := []) ⟨hx, hb, hml, hown, hts⟩ (kX9_isInformer l D Y A hI H.size S6 a2 _ h) (va_cwS 1 hts gX9_partSeized_X9_isInformer rfl rfl rfl (by decide +kernel) ⟨Nat.le_of_ble_eq_true rfl, Nat.le_of_ble_eq_true rfl⟩) hK hP hS (gF_le hS.1) rfl rfl hl.1 (Nat.le_of_ble_eq_true rfl) dX9_partSeized_50 ⟨Nat.zero_le _, Nat.zero_le _⟩ ?_
    intro r12 S11 H locs h hP hS
    refine lv_if_eq (tgt := 86) hx hb dX9_partSeized_53 (by decide) (fun c13 => ?_) (fun c13 => ?_)
    · have h := h.1 c13
      exact tJ86  x5 x10 (0 : Int32) S11 h _ _ _ hP hS (lv_sub hl [4, 3, 0, 1] rfl)
    · have h := h.2 c13
      refine lv_iload_n hx hb dX9_partSeized_56 rfl (lv_at hl 3 rfl) ?_
      refine lv_aload_n hx hb dX9_partSeized_57 rfl (lv_at hl 4 rfl) ?_
      refine va_get (ci := 9) (v := .ref (A 6)) (C := RX9) (T := TX9) (N := 15) hx hb hts k0 hown hK hP 0 (aC0 Y A S11) rfl 11 (by decide) k3 (fun _ h9 => h9) rfl dX9_partSeized_58 ?_
      refine va_get (ci := 4) (v := .ref (A 54)) (C := RX4) (T := TX4) (N := 4) hx hb hts k5 hown hK hP 6 (aC6 Y A S11) rfl 2 (by decide) k7 (fun _ h9 => h9) rfl dX9_partSeized_61 ?_
      refine lv_iload hx hb dX9_partSeized_64 (lv_at hl 2 rfl) ?_
      refine va_iald hx hb hK hP 54 0 (aC54 Y A S11) rfl v_9 dX9_partSeized_66 ?_
      refine lv_imul hx hb dX9_partSeized_67 ?_
      refine lv_bipush (v := (100 : Int32)) hx hb dX9_partSeized_68 (by decide) ?_
      refine lv_idiv hx hb dX9_partSeized_70 (by decide) ?_
      refine lv_topi (fun x14 ex14 => ?_)
      have h := h x14 ex14
      refine lv_istore (lv' := [(6, .int x14), (5, .int x10), (4, .int r7), (3, .int x5), (0, .ref (A 0)), (1, .int a1), (2, .int a2)]) hx hb dX9_partSeized_71 hl (by decide) rfl (fun ls hl => ?_)
      refine lv_aload_n hx hb dX9_partSeized_73 rfl (lv_at hl 4 rfl) ?_
      refine va_get (ci := 9) (v := .ref (A 11)) (C := RX9) (T := TX9) (N := 15) hx hb hts k0 hown hK hP 0 (aC0 Y A S11) rfl 5 (by decide) k1 (fun _ h9 => h9) rfl dX9_partSeized_74 ?_
      refine lv_iconst (v := (2 : Int32)) hx hb dX9_partSeized_77 (by decide) ?_
      refine lv_iload_n hx hb dX9_partSeized_78 rfl (lv_at hl 6 rfl) ?_
      refine lv_iadd hx hb dX9_partSeized_79 ?_
      refine lv_dup2_11 hx hb dX9_partSeized_80 rfl rfl ?_
      have v_15 := h.1
      have h := h.2
      refine va_iald hx hb hK hP 11 0 (aC11 Y A S11) rfl v_15 dX9_partSeized_81 ?_
      refine lv_iload hx hb dX9_partSeized_82 (lv_at hl 0 rfl) ?_
      refine lv_iadd hx hb dX9_partSeized_84 ?_
      obtain ⟨S16, eS16⟩ : ∃ z : gS, z = sA S11 1 (upd (ga S11 1) ((2 : Int32) + a2).toNatClampNeg ((ga S11 1 ((2 : Int32) + a2).toNatClampNeg) + x14)) := ⟨_, rfl⟩
      refine va_iast hx hb hK hP (hD S11) hS 11 0 (aC11 Y A S11) rfl v_15 dX9_partSeized_85 (fun H locs hP _ hS => ?_)
      have hP := uC11 eS16 hP
      have h := h S16 eS16
      exact tJ86  x5 x10 x14 S16 h _ _ _ hP hS (lv_sub hl [4, 3, 1, 0] rfl)

def qX9_meetWatchers (S : gS) (a1 : Int32) (a2 : Int32) (a3 : Int32) (Q : gS → Prop) : Prop :=
  vp_in a1 8 ∧ ((((10 : Int32) * a3) ≤ (ga S 16 a1.toNatClampNeg) → (∀ S3 : gS, S3 = sA S 19 (upd (ga S 19) a1.toNatClampNeg ((ga S 19 a1.toNatClampNeg) + (1 : Int32))) → (qX0_frighten S3 a1 a2 (25 : Int32) (fun S4 => Q S4)))) ∧ (¬ ((10 : Int32) * a3) ≤ (ga S 16 a1.toNatClampNeg) → (∀ x5 : Int32, x5 = (ga S 18 a1.toNatClampNeg) → (qX5_add S a1 x5 (gi S 0) a2 (1 : Int32) (-1 : Int32) (fun S6 => qX8_firstInformer S6 (gi S6 0) a2 (fun r8 S7 => qX9_partSeized S7 x5 r8 (fun S9 => ∀ S10 : gS, S10 = sA S9 18 (upd (ga S9 18) a1.toNatClampNeg (0 : Int32)) → (qX0_frighten S10 a1 a2 (25 : Int32) (fun S11 => Q S11)))))))))
abbrev rmX9_meetWatchers : Room := { frames := 2, cells := 0, slots := 0, locals := 49 }
set_option maxHeartbeats 4000000 in
set_option maxRecDepth 100000 in
theorem kX9_meetWatchers (l : Launch) (D : va_G) (Y : Nat → ClassId) (A : Nat → Nat) (hI : iC A) (sz : Nat) (S : gS) (a1 : Int32) (a2 : Int32) (a3 : Int32) (Q : gS → Prop) (h : qX9_meetWatchers S a1 a2 a3 Q) : Met l yX9_meetWatchers wsX9_meetWatchers rmX9_meetWatchers (gPc [.ref (A 0), .int a1, .int a2, .int a3] sz D vwCl (tY Y) (wC Y A S)) (va_Qv Q (fun S' t => gH D vwCl (tY Y) (wC Y A S') t) (gF A 65 sz)) 0 0 (gF A 65 sz) := by
  refine gMet_v (cc := cX9_meetWatchers) (maxL := 5) (by decide +kernel) rfl (Nat.le_of_ble_eq_true rfl) (fun p e s m args below meth c Z H locs hx hb hml hts hown hK hP hS hret ls hl => ?_)
  have hown : s.vm.findClass RX9 = some m.cls := hown
  have hl : lv_has ls 5 [(0, .ref (A 0)), (1, .int a1), (2, .int a2), (3, .int a3)] := hl
  have hD : ∀ S0 : gS, va_D (gF A 65 s.heap.size) (wC Y A S0) := fun S0 => dC hI S0 (fun k hk => gF_in hk)
  have k0 : ∀ w ∈ u_ws RX9 TX9 15, w ∈ wsX9_meetWatchers := by decide +kernel
  have k1 := hts (.fieldLink RX9 46 "CoastWatch" "boats" "LCoastWatch$Boats;") (by decide +kernel)
  have k2 : ∀ w ∈ u_ws RX0 TX0 9, w ∈ wsX9_meetWatchers := by decide +kernel
  have k3 := hts (.fieldLink RX9 359 "CoastWatch$Boats" "strength" "[I") (by decide +kernel)
  have k4 := hts (.fieldLink RX9 284 "CoastWatch$Boats" "escapes" "[I") (by decide +kernel)
  have k5 := hts (.fieldLink RX9 158 "CoastWatch$Boats" "casks" "[I") (by decide +kernel)
  have k6 := hts (.fieldLink RX9 60 "CoastWatch" "lots" "LCoastWatch$Lots;") (by decide +kernel)
  have k7 := hts (.fieldLink RX9 7 "CoastWatch" "night" "I") (by decide +kernel)
  have k8 := hts (.fieldLink RX9 74 "CoastWatch" "words" "LCoastWatch$Words;") (by decide +kernel)
  refine lv_aload_n hx hb dX9_meetWatchers_0 rfl (lv_at hl 0 rfl) ?_
  refine va_get (ci := 9) (v := .ref (A 3)) (C := RX9) (T := TX9) (N := 15) hx hb hts k0 hown hK hP 0 (aC0 Y A S) rfl 8 (by decide) k1 (fun _ h9 => h9) rfl dX9_meetWatchers_1 ?_
  refine va_get (ci := 0) (v := .ref (A 27)) (C := RX0) (T := TX0) (N := 9) hx hb hts k2 hown hK hP 3 (aC3 Y A S) rfl 3 (by decide) k3 (fun _ h9 => h9) rfl dX9_meetWatchers_4 ?_
  refine lv_iload_n hx hb dX9_meetWatchers_7 rfl (lv_at hl 1 rfl) ?_
  have v_1 := h.1
  have h := h.2
  refine va_iald hx hb hK hP 27 0 (aC27 Y A S) rfl v_1 dX9_meetWatchers_8 ?_
  refine lv_bipush (v := (10 : Int32)) hx hb dX9_meetWatchers_9 (by decide) ?_
  refine lv_iload_n hx hb dX9_meetWatchers_11 rfl (lv_at hl 3 rfl) ?_
  refine lv_imul hx hb dX9_meetWatchers_12 ?_
  refine lv_icmp_ge (tgt := 75) hx hb dX9_meetWatchers_13 (by decide) (fun c2 => ?_) (fun c2 => ?_)
  · have h := h.1 c2
    refine lv_aload_n hx hb dX9_meetWatchers_75 rfl (lv_at hl 0 rfl) ?_
    refine va_get (ci := 9) (v := .ref (A 3)) (C := RX9) (T := TX9) (N := 15) hx hb hts k0 hown hK hP 0 (aC0 Y A S) rfl 8 (by decide) k1 (fun _ h9 => h9) rfl dX9_meetWatchers_76 ?_
    refine va_get (ci := 0) (v := .ref (A 30)) (C := RX0) (T := TX0) (N := 9) hx hb hts k2 hown hK hP 3 (aC3 Y A S) rfl 6 (by decide) k4 (fun _ h9 => h9) rfl dX9_meetWatchers_79 ?_
    refine lv_iload_n hx hb dX9_meetWatchers_82 rfl (lv_at hl 1 rfl) ?_
    refine lv_dup2_11 hx hb dX9_meetWatchers_83 rfl rfl ?_
    refine va_iald hx hb hK hP 30 0 (aC30 Y A S) rfl v_1 dX9_meetWatchers_84 ?_
    refine lv_iconst (v := (1 : Int32)) hx hb dX9_meetWatchers_85 (by decide) ?_
    refine lv_iadd hx hb dX9_meetWatchers_86 ?_
    obtain ⟨S3, eS3⟩ : ∃ z : gS, z = sA S 19 (upd (ga S 19) a1.toNatClampNeg ((ga S 19 a1.toNatClampNeg) + (1 : Int32))) := ⟨_, rfl⟩
    refine va_iast hx hb hK hP (hD S) hS 30 0 (aC30 Y A S) rfl v_1 dX9_meetWatchers_87 (fun H locs hP _ hS => ?_)
    have hP := uC30 eS3 hP
    have h := h S3 eS3
    refine lv_aload_n hx hb dX9_meetWatchers_88 rfl (lv_at hl 0 rfl) ?_
    refine va_get (ci := 9) (v := .ref (A 3)) (C := RX9) (T := TX9) (N := 15) hx hb hts k0 hown hK hP 0 (aC0 Y A S3) rfl 8 (by decide) k1 (fun _ h9 => h9) rfl dX9_meetWatchers_89 ?_
    refine lv_iload_n hx hb dX9_meetWatchers_92 rfl (lv_at hl 1 rfl) ?_
    refine lv_iload_n hx hb dX9_meetWatchers_93 rfl (lv_at hl 2 rfl) ?_
    refine lv_bipush (v := (25 : Int32)) hx hb dX9_meetWatchers_94 (by decide) ?_
    refine gVv (As := [.int a1, .int a2, .int (25 : Int32)]) (rest := []) ⟨hx, hb, hml, hown, hts⟩ (kX0_frighten l D Y A hI H.size S3 a1 a2 (25 : Int32) _ h) (cwV 3 hts gX9_meetWatchers_X0_frighten rfl rfl rfl (by decide +kernel) ⟨Nat.le_of_ble_eq_true rfl, Nat.le_of_ble_eq_true rfl⟩) hK hP hS (gF_le hS.1) (aC3 Y A S3) (show vwCl[0]? = some (RX0, TX0, 9) from rfl) rfl rfl hl.1 (Nat.le_of_ble_eq_true rfl) dX9_meetWatchers_96 ⟨Nat.zero_le _, Nat.zero_le _⟩ ?_
    intro S4 H locs h hP hS
    exact hret _ _ _ _ _ dX9_meetWatchers_99 h hP hS
  · have h := h.2 c2
    refine lv_aload_n hx hb dX9_meetWatchers_16 rfl (lv_at hl 0 rfl) ?_
    refine va_get (ci := 9) (v := .ref (A 3)) (C := RX9) (T := TX9) (N := 15) hx hb hts k0 hown hK hP 0 (aC0 Y A S) rfl 8 (by decide) k1 (fun _ h9 => h9) rfl dX9_meetWatchers_17 ?_
    refine va_get (ci := 0) (v := .ref (A 29)) (C := RX0) (T := TX0) (N := 9) hx hb hts k2 hown hK hP 3 (aC3 Y A S) rfl 5 (by decide) k5 (fun _ h9 => h9) rfl dX9_meetWatchers_20 ?_
    refine lv_iload_n hx hb dX9_meetWatchers_23 rfl (lv_at hl 1 rfl) ?_
    refine va_iald hx hb hK hP 29 0 (aC29 Y A S) rfl v_1 dX9_meetWatchers_24 ?_
    refine lv_topi (fun x5 ex5 => ?_)
    have h := h x5 ex5
    refine lv_istore (lv' := [(4, .int x5), (0, .ref (A 0)), (1, .int a1), (2, .int a2), (3, .int a3)]) hx hb dX9_meetWatchers_25 hl (by decide) rfl (fun ls hl => ?_)
    refine lv_aload_n hx hb dX9_meetWatchers_27 rfl (lv_at hl 1 rfl) ?_
    refine va_get (ci := 9) (v := .ref (A 5)) (C := RX9) (T := TX9) (N := 15) hx hb hts k0 hown hK hP 0 (aC0 Y A S) rfl 10 (by decide) k6 (fun _ h9 => h9) rfl dX9_meetWatchers_28 ?_
    refine lv_iload_n hx hb dX9_meetWatchers_31 rfl (lv_at hl 2 rfl) ?_
    refine lv_iload hx hb dX9_meetWatchers_32 (lv_at hl 0 rfl) ?_
    refine lv_aload_n hx hb dX9_meetWatchers_34 rfl (lv_at hl 1 rfl) ?_
    refine va_get (ci := 9) (v := .int (gi S 0)) (C := RX9) (T := TX9) (N := 15) hx hb hts k0 hown hK hP 0 (aC0 Y A S) rfl 0 (by decide) k7 (fun _ h9 => h9) rfl dX9_meetWatchers_35 ?_
    refine lv_iload_n hx hb dX9_meetWatchers_38 rfl (lv_at hl 3 rfl) ?_
    refine lv_iconst (v := (1 : Int32)) hx hb dX9_meetWatchers_39 (by decide) ?_
    refine lv_iconst (v := (-1 : Int32)) hx hb dX9_meetWatchers_40 (by decide) ?_
    refine gVv (As := [.int a1, .int x5, .int (gi S 0), .int a2, .int (1 : Int32), .int (-1 : Int32)]) (rest := []) ⟨hx, hb, hml, hown, hts⟩ (kX5_add l D Y A hI H.size S a1 x5 (gi S 0) a2 (1 : Int32) (-1 : Int32) _ h) (cwV 6 hts gX9_meetWatchers_X5_add rfl rfl rfl (by decide +kernel) ⟨Nat.le_of_ble_eq_true rfl, Nat.le_of_ble_eq_true rfl⟩) hK hP hS (gF_le hS.1) (aC5 Y A S) (show vwCl[5]? = some (RX5, TX5, 7) from rfl) rfl rfl hl.1 (Nat.le_of_ble_eq_true rfl) dX9_meetWatchers_41 ⟨Nat.zero_le _, Nat.zero_le _⟩ ?_
    intro S6 H locs h hP hS
    refine lv_aload_n hx hb dX9_meetWatchers_44 rfl (lv_at hl 1 rfl) ?_
    refine lv_iload hx hb dX9_meetWatchers_45 (lv_at hl 0 rfl) ?_
    refine lv_aload_n hx hb dX9_meetWatchers_47 rfl (lv_at hl 1 rfl) ?_
    refine va_get (ci := 9) (v := .ref (A 7)) (C := RX9) (T := TX9) (N := 15) hx hb hts k0 hown hK hP 0 (aC0 Y A S6) rfl 12 (by decide) k8 (fun _ h9 => h9) rfl dX9_meetWatchers_48 ?_
    refine lv_aload_n hx hb dX9_meetWatchers_51 rfl (lv_at hl 1 rfl) ?_
    refine va_get (ci := 9) (v := .int (gi S6 0)) (C := RX9) (T := TX9) (N := 15) hx hb hts k0 hown hK hP 0 (aC0 Y A S6) rfl 0 (by decide) k7 (fun _ h9 => h9) rfl dX9_meetWatchers_52 ?_
    refine lv_iload_n hx hb dX9_meetWatchers_55 rfl (lv_at hl 3 rfl) ?_
    refine gVi (As := [.int (gi S6 0), .int a2]) (rest := [.int x5, .ref (A 0)]) ⟨hx, hb, hml, hown, hts⟩ (kX8_firstInformer l D Y A hI H.size S6 (gi S6 0) a2 _ h) (cwV 2 hts gX9_meetWatchers_X8_firstInformer rfl rfl rfl (by decide +kernel) ⟨Nat.le_of_ble_eq_true rfl, Nat.le_of_ble_eq_true rfl⟩) hK hP hS (gF_le hS.1) (aC7 Y A S6) (show vwCl[8]? = some (RX8, TX8, 6) from rfl) rfl rfl hl.1 (Nat.le_of_ble_eq_true rfl) dX9_meetWatchers_56 ⟨Nat.zero_le _, Nat.zero_le _⟩ ?_
    intro r8 S7 H locs h hP hS
    refine gVv (As := [.int x5, .int r8]) (rest := []) ⟨hx, hb, hml, hown, hts⟩ (kX9_partSeized l D Y A hI H.size S7 x5 r8 _ h) (cwV 2 hts gX9_meetWatchers_X9_partSeized rfl rfl rfl (by decide +kernel) ⟨Nat.le_of_ble_eq_true rfl, Nat.le_of_ble_eq_true rfl⟩) hK hP hS (gF_le hS.1) (aC0 Y A S7) (show vwCl[9]? = some (RX9, TX9, 15) from rfl) rfl rfl hl.1 (Nat.le_of_ble_eq_true rfl) dX9_meetWatchers_59 ⟨Nat.zero_le _, Nat.zero_le _⟩ ?_
    intro S9 H locs h hP hS
    refine lv_aload_n hx hb dX9_meetWatchers_62 rfl (lv_at hl 1 rfl) ?_
    refine va_get (ci := 9) (v := .ref (A 3)) (C := RX9) (T := TX9) (N := 15) hx hb hts k0 hown hK hP 0 (aC0 Y A S9) rfl 8 (by decide) k1 (fun _ h9 => h9) rfl dX9_meetWatchers_63 ?_
    refine va_get (ci := 0) (v := .ref (A 29)) (C := RX0) (T := TX0) (N := 9) hx hb hts k2 hown hK hP 3 (aC3 Y A S9) rfl 5 (by decide) k5 (fun _ h9 => h9) rfl dX9_meetWatchers_66 ?_
    refine lv_iload_n hx hb dX9_meetWatchers_69 rfl (lv_at hl 2 rfl) ?_
    refine lv_iconst (v := (0 : Int32)) hx hb dX9_meetWatchers_70 (by decide) ?_
    obtain ⟨S10, eS10⟩ : ∃ z : gS, z = sA S9 18 (upd (ga S9 18) a1.toNatClampNeg (0 : Int32)) := ⟨_, rfl⟩
    refine va_iast hx hb hK hP (hD S9) hS 29 0 (aC29 Y A S9) rfl v_1 dX9_meetWatchers_71 (fun H locs hP _ hS => ?_)
    have hP := uC29 eS10 hP
    have h := h S10 eS10
    refine lv_goto (tgt := 88) hx hb dX9_meetWatchers_72 (by decide) ?_
    refine lv_aload_n hx hb dX9_meetWatchers_88 rfl (lv_at hl 1 rfl) ?_
    refine va_get (ci := 9) (v := .ref (A 3)) (C := RX9) (T := TX9) (N := 15) hx hb hts k0 hown hK hP 0 (aC0 Y A S10) rfl 8 (by decide) k1 (fun _ h9 => h9) rfl dX9_meetWatchers_89 ?_
    refine lv_iload_n hx hb dX9_meetWatchers_92 rfl (lv_at hl 2 rfl) ?_
    refine lv_iload_n hx hb dX9_meetWatchers_93 rfl (lv_at hl 3 rfl) ?_
    refine lv_bipush (v := (25 : Int32)) hx hb dX9_meetWatchers_94 (by decide) ?_
    refine gVv (As := [.int a1, .int a2, .int (25 : Int32)]) (rest := []) ⟨hx, hb, hml, hown, hts⟩ (kX0_frighten l D Y A hI H.size S10 a1 a2 (25 : Int32) _ h) (cwV 3 hts gX9_meetWatchers_X0_frighten rfl rfl rfl (by decide +kernel) ⟨Nat.le_of_ble_eq_true rfl, Nat.le_of_ble_eq_true rfl⟩) hK hP hS (gF_le hS.1) (aC3 Y A S10) (show vwCl[0]? = some (RX0, TX0, 9) from rfl) rfl rfl hl.1 (Nat.le_of_ble_eq_true rfl) dX9_meetWatchers_96 ⟨Nat.zero_le _, Nat.zero_le _⟩ ?_
    intro S11 H locs h hP hS
    exact hret _ _ _ _ _ dX9_meetWatchers_99 h hP hS

def qX9_bringAshore (S : gS) (a1 : Int32) (a2 : Int32) (Q : gS → Prop) : Prop :=
  vp_in a1 8 ∧ (∀ x2 : Int32, x2 = (ga S 18 a1.toNatClampNeg) → (qX3_firstWithRoom S a2 x2 (fun r4 S3 => (r4 = (-1 : Int32) → (∀ S10 : gS, S10 = sA S3 20 (upd (ga S3 20) a1.toNatClampNeg ((ga S3 20 a1.toNatClampNeg) + (1 : Int32))) → (Q S10))) ∧ (¬ r4 = (-1 : Int32) → (qX5_add S3 a1 x2 (gi S3 0) a2 (0 : Int32) r4 (fun S6 => vp_in r4 12 ∧ (∀ S8 : gS, S8 = sA S6 33 (upd (ga S6 33) r4.toNatClampNeg ((ga S6 33 r4.toNatClampNeg) + x2)) → (∀ S9 : gS, S9 = sA S8 18 (upd (ga S8 18) a1.toNatClampNeg (0 : Int32)) → (Q S9)))))))))
abbrev rmX9_bringAshore : Room := { frames := 1, cells := 0, slots := 0, locals := 26 }
set_option maxHeartbeats 4000000 in
set_option maxRecDepth 100000 in
theorem kX9_bringAshore (l : Launch) (D : va_G) (Y : Nat → ClassId) (A : Nat → Nat) (hI : iC A) (sz : Nat) (S : gS) (a1 : Int32) (a2 : Int32) (Q : gS → Prop) (h : qX9_bringAshore S a1 a2 Q) : Met l yX9_bringAshore wsX9_bringAshore rmX9_bringAshore (gPc [.ref (A 0), .int a1, .int a2] sz D vwCl (tY Y) (wC Y A S)) (va_Qv Q (fun S' t => gH D vwCl (tY Y) (wC Y A S') t) (gF A 65 sz)) 0 0 (gF A 65 sz) := by
  refine gMet_v (cc := cX9_bringAshore) (maxL := 5) (by decide +kernel) rfl (Nat.le_of_ble_eq_true rfl) (fun p e s m args below meth c Z H locs hx hb hml hts hown hK hP hS hret ls hl => ?_)
  have hown : s.vm.findClass RX9 = some m.cls := hown
  have hl : lv_has ls 5 [(0, .ref (A 0)), (1, .int a1), (2, .int a2)] := hl
  have hD : ∀ S0 : gS, va_D (gF A 65 s.heap.size) (wC Y A S0) := fun S0 => dC hI S0 (fun k hk => gF_in hk)
  have k0 : ∀ w ∈ u_ws RX9 TX9 15, w ∈ wsX9_bringAshore := by decide +kernel
  have k1 := hts (.fieldLink RX9 46 "CoastWatch" "boats" "LCoastWatch$Boats;") (by decide +kernel)
  have k2 : ∀ w ∈ u_ws RX0 TX0 9, w ∈ wsX9_bringAshore := by decide +kernel
  have k3 := hts (.fieldLink RX9 158 "CoastWatch$Boats" "casks" "[I") (by decide +kernel)
  have k4 := hts (.fieldLink RX9 53 "CoastWatch" "hides" "LCoastWatch$Hides;") (by decide +kernel)
  have k5 := hts (.fieldLink RX9 60 "CoastWatch" "lots" "LCoastWatch$Lots;") (by decide +kernel)
  have k6 := hts (.fieldLink RX9 7 "CoastWatch" "night" "I") (by decide +kernel)
  have k7 : ∀ w ∈ u_ws RX3 TX3 7, w ∈ wsX9_bringAshore := by decide +kernel
  have k8 := hts (.fieldLink RX9 203 "CoastWatch$Hides" "lying" "[I") (by decide +kernel)
  have k9 := hts (.fieldLink RX9 287 "CoastWatch$Boats" "returns" "[I") (by decide +kernel)
  refine lv_aload_n hx hb dX9_bringAshore_0 rfl (lv_at hl 0 rfl) ?_
  refine va_get (ci := 9) (v := .ref (A 3)) (C := RX9) (T := TX9) (N := 15) hx hb hts k0 hown hK hP 0 (aC0 Y A S) rfl 8 (by decide) k1 (fun _ h9 => h9) rfl dX9_bringAshore_1 ?_
  refine va_get (ci := 0) (v := .ref (A 29)) (C := RX0) (T := TX0) (N := 9) hx hb hts k2 hown hK hP 3 (aC3 Y A S) rfl 5 (by decide) k3 (fun _ h9 => h9) rfl dX9_bringAshore_4 ?_
  refine lv_iload_n hx hb dX9_bringAshore_7 rfl (lv_at hl 1 rfl) ?_
  have v_1 := h.1
  have h := h.2
  refine va_iald hx hb hK hP 29 0 (aC29 Y A S) rfl v_1 dX9_bringAshore_8 ?_
  refine lv_topi (fun x2 ex2 => ?_)
  have h := h x2 ex2
  refine lv_istore_n (lv' := [(3, .int x2), (0, .ref (A 0)), (1, .int a1), (2, .int a2)]) hx hb dX9_bringAshore_9 rfl hl (by decide) rfl (fun ls hl => ?_)
  refine lv_aload_n hx hb dX9_bringAshore_10 rfl (lv_at hl 1 rfl) ?_
  refine va_get (ci := 9) (v := .ref (A 4)) (C := RX9) (T := TX9) (N := 15) hx hb hts k0 hown hK hP 0 (aC0 Y A S) rfl 9 (by decide) k4 (fun _ h9 => h9) rfl dX9_bringAshore_11 ?_
  refine lv_iload_n hx hb dX9_bringAshore_14 rfl (lv_at hl 3 rfl) ?_
  refine lv_iload_n hx hb dX9_bringAshore_15 rfl (lv_at hl 0 rfl) ?_
  refine gVi (As := [.int a2, .int x2]) (rest := []) ⟨hx, hb, hml, hown, hts⟩ (kX3_firstWithRoom l D Y A hI H.size S a2 x2 _ h) (cwV 2 hts gX9_bringAshore_X3_firstWithRoom rfl rfl rfl (by decide +kernel) ⟨Nat.le_of_ble_eq_true rfl, Nat.le_of_ble_eq_true rfl⟩) hK hP hS (gF_le hS.1) (aC4 Y A S) (show vwCl[3]? = some (RX3, TX3, 7) from rfl) rfl rfl hl.1 (Nat.le_of_ble_eq_true rfl) dX9_bringAshore_16 ⟨Nat.zero_le _, Nat.zero_le _⟩ ?_
  intro r4 S3 H locs h hP hS
  refine lv_istore (lv' := [(4, .int r4), (3, .int x2), (0, .ref (A 0)), (1, .int a1), (2, .int a2)]) hx hb dX9_bringAshore_19 hl (by decide) rfl (fun ls hl => ?_)
  refine lv_iload hx hb dX9_bringAshore_21 (lv_at hl 0 rfl) ?_
  refine lv_iconst (v := (-1 : Int32)) hx hb dX9_bringAshore_23 (by decide) ?_
  refine lv_icmp_ne (tgt := 41) hx hb dX9_bringAshore_24 (by decide) (fun c5 => ?_) (fun c5 => ?_)
  · have h := h.2 c5
    refine lv_aload_n hx hb dX9_bringAshore_41 rfl (lv_at hl 2 rfl) ?_
    refine va_get (ci := 9) (v := .ref (A 5)) (C := RX9) (T := TX9) (N := 15) hx hb hts k0 hown hK hP 0 (aC0 Y A S3) rfl 10 (by decide) k5 (fun _ h9 => h9) rfl dX9_bringAshore_42 ?_
    refine lv_iload_n hx hb dX9_bringAshore_45 rfl (lv_at hl 3 rfl) ?_
    refine lv_iload_n hx hb dX9_bringAshore_46 rfl (lv_at hl 1 rfl) ?_
    refine lv_aload_n hx hb dX9_bringAshore_47 rfl (lv_at hl 2 rfl) ?_
    refine va_get (ci := 9) (v := .int (gi S3 0)) (C := RX9) (T := TX9) (N := 15) hx hb hts k0 hown hK hP 0 (aC0 Y A S3) rfl 0 (by decide) k6 (fun _ h9 => h9) rfl dX9_bringAshore_48 ?_
    refine lv_iload_n hx hb dX9_bringAshore_51 rfl (lv_at hl 4 rfl) ?_
    refine lv_iconst (v := (0 : Int32)) hx hb dX9_bringAshore_52 (by decide) ?_
    refine lv_iload hx hb dX9_bringAshore_53 (lv_at hl 0 rfl) ?_
    refine gVv (As := [.int a1, .int x2, .int (gi S3 0), .int a2, .int (0 : Int32), .int r4]) (rest := []) ⟨hx, hb, hml, hown, hts⟩ (kX5_add l D Y A hI H.size S3 a1 x2 (gi S3 0) a2 (0 : Int32) r4 _ h) (cwV 6 hts gX9_bringAshore_X5_add rfl rfl rfl (by decide +kernel) ⟨Nat.le_of_ble_eq_true rfl, Nat.le_of_ble_eq_true rfl⟩) hK hP hS (gF_le hS.1) (aC5 Y A S3) (show vwCl[5]? = some (RX5, TX5, 7) from rfl) rfl rfl hl.1 (Nat.le_of_ble_eq_true rfl) dX9_bringAshore_55 ⟨Nat.zero_le _, Nat.zero_le _⟩ ?_
    intro S6 H locs h hP hS
    refine lv_aload_n hx hb dX9_bringAshore_58 rfl (lv_at hl 2 rfl) ?_
    refine va_get (ci := 9) (v := .ref (A 4)) (C := RX9) (T := TX9) (N := 15) hx hb hts k0 hown hK hP 0 (aC0 Y A S6) rfl 9 (by decide) k4 (fun _ h9 => h9) rfl dX9_bringAshore_59 ?_
    refine va_get (ci := 3) (v := .ref (A 45)) (C := RX3) (T := TX3) (N := 7) hx hb hts k7 hown hK hP 4 (aC4 Y A S6) rfl 5 (by decide) k8 (fun _ h9 => h9) rfl dX9_bringAshore_62 ?_
    refine lv_iload hx hb dX9_bringAshore_65 (lv_at hl 0 rfl) ?_
    refine lv_dup2_11 hx hb dX9_bringAshore_67 rfl rfl ?_
    have v_7 := h.1
    have h := h.2
    refine va_iald hx hb hK hP 45 0 (aC45 Y A S6) rfl v_7 dX9_bringAshore_68 ?_
    refine lv_iload_n hx hb dX9_bringAshore_69 rfl (lv_at hl 1 rfl) ?_
    refine lv_iadd hx hb dX9_bringAshore_70 ?_
    obtain ⟨S8, eS8⟩ : ∃ z : gS, z = sA S6 33 (upd (ga S6 33) r4.toNatClampNeg ((ga S6 33 r4.toNatClampNeg) + x2)) := ⟨_, rfl⟩
    refine va_iast hx hb hK hP (hD S6) hS 45 0 (aC45 Y A S6) rfl v_7 dX9_bringAshore_71 (fun H locs hP _ hS => ?_)
    have hP := uC45 eS8 hP
    have h := h S8 eS8
    refine lv_aload_n hx hb dX9_bringAshore_72 rfl (lv_at hl 2 rfl) ?_
    refine va_get (ci := 9) (v := .ref (A 3)) (C := RX9) (T := TX9) (N := 15) hx hb hts k0 hown hK hP 0 (aC0 Y A S8) rfl 8 (by decide) k1 (fun _ h9 => h9) rfl dX9_bringAshore_73 ?_
    refine va_get (ci := 0) (v := .ref (A 29)) (C := RX0) (T := TX0) (N := 9) hx hb hts k2 hown hK hP 3 (aC3 Y A S8) rfl 5 (by decide) k3 (fun _ h9 => h9) rfl dX9_bringAshore_76 ?_
    refine lv_iload_n hx hb dX9_bringAshore_79 rfl (lv_at hl 3 rfl) ?_
    refine lv_iconst (v := (0 : Int32)) hx hb dX9_bringAshore_80 (by decide) ?_
    obtain ⟨S9, eS9⟩ : ∃ z : gS, z = sA S8 18 (upd (ga S8 18) a1.toNatClampNeg (0 : Int32)) := ⟨_, rfl⟩
    refine va_iast hx hb hK hP (hD S8) hS 29 0 (aC29 Y A S8) rfl v_1 dX9_bringAshore_81 (fun H locs hP _ hS => ?_)
    have hP := uC29 eS9 hP
    have h := h S9 eS9
    exact hret _ _ _ _ _ dX9_bringAshore_82 h hP hS
  · have h := h.1 c5
    refine lv_aload_n hx hb dX9_bringAshore_27 rfl (lv_at hl 2 rfl) ?_
    refine va_get (ci := 9) (v := .ref (A 3)) (C := RX9) (T := TX9) (N := 15) hx hb hts k0 hown hK hP 0 (aC0 Y A S3) rfl 8 (by decide) k1 (fun _ h9 => h9) rfl dX9_bringAshore_28 ?_
    refine va_get (ci := 0) (v := .ref (A 31)) (C := RX0) (T := TX0) (N := 9) hx hb hts k2 hown hK hP 3 (aC3 Y A S3) rfl 7 (by decide) k9 (fun _ h9 => h9) rfl dX9_bringAshore_31 ?_
    refine lv_iload_n hx hb dX9_bringAshore_34 rfl (lv_at hl 3 rfl) ?_
    refine lv_dup2_11 hx hb dX9_bringAshore_35 rfl rfl ?_
    refine va_iald hx hb hK hP 31 0 (aC31 Y A S3) rfl v_1 dX9_bringAshore_36 ?_
    refine lv_iconst (v := (1 : Int32)) hx hb dX9_bringAshore_37 (by decide) ?_
    refine lv_iadd hx hb dX9_bringAshore_38 ?_
    obtain ⟨S10, eS10⟩ : ∃ z : gS, z = sA S3 20 (upd (ga S3 20) a1.toNatClampNeg ((ga S3 20 a1.toNatClampNeg) + (1 : Int32))) := ⟨_, rfl⟩
    refine va_iast hx hb hK hP (hD S3) hS 31 0 (aC31 Y A S3) rfl v_1 dX9_bringAshore_39 (fun H locs hP _ hS => ?_)
    have hP := uC31 eS10 hP
    have h := h S10 eS10
    exact hret _ _ _ _ _ dX9_bringAshore_40 h hP hS

def qX9_lookAt (S : gS) (a1 : Int32) (a2 : Int32) (Q : gS → Prop) : Prop :=
  qX9_isCove S a2 (fun r2 S1 => (r2 = 0 → (Q S1)) ∧ (¬ r2 = 0 → (vp_in a2 6 ∧ (((ga S1 13 a2.toNatClampNeg) ≤ 0 → (Q S1)) ∧ (¬ (ga S1 13 a2.toNatClampNeg) ≤ 0 → (qX0_frighten S1 a1 a2 (5 : Int32) (fun S6 => Q S6)))))))
abbrev rmX9_lookAt : Room := { frames := 2, cells := 0, slots := 0, locals := 38 }
set_option maxHeartbeats 4000000 in
set_option maxRecDepth 100000 in
theorem kX9_lookAt (l : Launch) (D : va_G) (Y : Nat → ClassId) (A : Nat → Nat) (hI : iC A) (sz : Nat) (S : gS) (a1 : Int32) (a2 : Int32) (Q : gS → Prop) (h : qX9_lookAt S a1 a2 Q) : Met l yX9_lookAt wsX9_lookAt rmX9_lookAt (gPc [.ref (A 0), .int a1, .int a2] sz D vwCl (tY Y) (wC Y A S)) (va_Qv Q (fun S' t => gH D vwCl (tY Y) (wC Y A S') t) (gF A 65 sz)) 0 0 (gF A 65 sz) := by
  refine gMet_v (cc := cX9_lookAt) (maxL := 3) (by decide +kernel) rfl (Nat.le_of_ble_eq_true rfl) (fun p e s m args below meth c Z H locs hx hb hml hts hown hK hP hS hret ls hl => ?_)
  have hown : s.vm.findClass RX9 = some m.cls := hown
  have hl : lv_has ls 3 [(0, .ref (A 0)), (1, .int a1), (2, .int a2)] := hl
  have hD : ∀ S0 : gS, va_D (gF A 65 s.heap.size) (wC Y A S0) := fun S0 => dC hI S0 (fun k hk => gF_in hk)
  have k0 : ∀ w ∈ u_ws RX9 TX9 15, w ∈ wsX9_lookAt := by decide +kernel
  have k1 := hts (.fieldLink RX9 39 "CoastWatch" "coves" "LCoastWatch$Coves;") (by decide +kernel)
  have k2 : ∀ w ∈ u_ws RX1 TX1 7, w ∈ wsX9_lookAt := by decide +kernel
  have k3 := hts (.fieldLink RX9 291 "CoastWatch$Coves" "watchers" "[I") (by decide +kernel)
  have k4 := hts (.fieldLink RX9 46 "CoastWatch" "boats" "LCoastWatch$Boats;") (by decide +kernel)
  refine lv_iload_n hx hb dX9_lookAt_0 rfl (lv_at hl 2 rfl) ?_
  refine gSi (As := [.int a2]) (rest := []) ⟨hx, hb, hml, hown, hts⟩ (kX9_isCove l D Y A hI H.size S a2 _ h) (va_cwS 1 hts gX9_lookAt_X9_isCove rfl rfl rfl (by decide +kernel) ⟨Nat.le_of_ble_eq_true rfl, Nat.le_of_ble_eq_true rfl⟩) hK hP hS (gF_le hS.1) rfl rfl hl.1 (Nat.le_of_ble_eq_true rfl) dX9_lookAt_1 ⟨Nat.zero_le _, Nat.zero_le _⟩ ?_
  intro r2 S1 H locs h hP hS
  refine lv_if_eq (tgt := 29) hx hb dX9_lookAt_4 (by decide) (fun c3 => ?_) (fun c3 => ?_)
  · have h := h.1 c3
    exact hret _ _ _ _ _ dX9_lookAt_29 h hP hS
  · have h := h.2 c3
    refine lv_aload_n hx hb dX9_lookAt_7 rfl (lv_at hl 0 rfl) ?_
    refine va_get (ci := 9) (v := .ref (A 2)) (C := RX9) (T := TX9) (N := 15) hx hb hts k0 hown hK hP 0 (aC0 Y A S1) rfl 7 (by decide) k1 (fun _ h9 => h9) rfl dX9_lookAt_8 ?_
    refine va_get (ci := 1) (v := .ref (A 24)) (C := RX1) (T := TX1) (N := 7) hx hb hts k2 hown hK hP 2 (aC2 Y A S1) rfl 6 (by decide) k3 (fun _ h9 => h9) rfl dX9_lookAt_11 ?_
    refine lv_iload_n hx hb dX9_lookAt_14 rfl (lv_at hl 2 rfl) ?_
    have v_4 := h.1
    have h := h.2
    refine va_iald hx hb hK hP 24 0 (aC24 Y A S1) rfl v_4 dX9_lookAt_15 ?_
    refine lv_if_le (tgt := 29) hx hb dX9_lookAt_16 (by decide) (fun c5 => ?_) (fun c5 => ?_)
    · have h := h.1 c5
      exact hret _ _ _ _ _ dX9_lookAt_29 h hP hS
    · have h := h.2 c5
      refine lv_aload_n hx hb dX9_lookAt_19 rfl (lv_at hl 0 rfl) ?_
      refine va_get (ci := 9) (v := .ref (A 3)) (C := RX9) (T := TX9) (N := 15) hx hb hts k0 hown hK hP 0 (aC0 Y A S1) rfl 8 (by decide) k4 (fun _ h9 => h9) rfl dX9_lookAt_20 ?_
      refine lv_iload_n hx hb dX9_lookAt_23 rfl (lv_at hl 1 rfl) ?_
      refine lv_iload_n hx hb dX9_lookAt_24 rfl (lv_at hl 2 rfl) ?_
      refine lv_iconst (v := (5 : Int32)) hx hb dX9_lookAt_25 (by decide) ?_
      refine gVv (As := [.int a1, .int a2, .int (5 : Int32)]) (rest := []) ⟨hx, hb, hml, hown, hts⟩ (kX0_frighten l D Y A hI H.size S1 a1 a2 (5 : Int32) _ h) (cwV 3 hts gX9_lookAt_X0_frighten rfl rfl rfl (by decide +kernel) ⟨Nat.le_of_ble_eq_true rfl, Nat.le_of_ble_eq_true rfl⟩) hK hP hS (gF_le hS.1) (aC3 Y A S1) (show vwCl[0]? = some (RX0, TX0, 9) from rfl) rfl rfl hl.1 (Nat.le_of_ble_eq_true rfl) dX9_lookAt_26 ⟨Nat.zero_le _, Nat.zero_le _⟩ ?_
      intro S6 H locs h hP hS
      exact hret _ _ _ _ _ dX9_lookAt_29 h hP hS

def qX9_sendOut_J82 (a1 : Int32) (Q : gS → Prop) : Int32 × gS → Prop := fun ⟨v2, S⟩ =>
  qX9_lookAt S a1 (v2 - (1 : Int32)) (fun S1 => qX9_lookAt S1 a1 (v2 + (1 : Int32)) (fun S2 => Q S2))
def qX9_sendOut (S : gS) (a1 : Int32) (Q : gS → Prop) : Prop :=
  vp_in a1 8 ∧ (((ga S 18 a1.toNatClampNeg) = 0 → (Q S)) ∧ (¬ (ga S 18 a1.toNatClampNeg) = 0 → (((100 : Int32) ≤ (gi S 6) → (Q S)) ∧ (¬ (100 : Int32) ≤ (gi S 6) → (qX9_light S (fun r7 S6 => (r7 ≤ (ga S6 17 a1.toNatClampNeg) → (qX9_chosenCove S6 a1 (fun r10 S9 => (r10 = (-1 : Int32) → (Q S9)) ∧ (¬ r10 = (-1 : Int32) → (qX1_countingAt S9 r10 (fun r13 S12 => (r13 ≤ 0 → (qX9_bringAshore S12 a1 r10 (fun S15 => qX9_sendOut_J82 a1 Q (r10, S15)))) ∧ (¬ r13 ≤ 0 → (qX9_meetWatchers S12 a1 r10 r13 (fun S16 => qX9_sendOut_J82 a1 Q (r10, S16)))))))))) ∧ (¬ r7 ≤ (ga S6 17 a1.toNatClampNeg) → (Q S6))))))))
abbrev rmX9_sendOut : Room := { frames := 4, cells := 0, slots := 0, locals := 89 }
set_option maxHeartbeats 4000000 in
set_option maxRecDepth 100000 in
theorem kX9_sendOut (l : Launch) (D : va_G) (Y : Nat → ClassId) (A : Nat → Nat) (hI : iC A) (sz : Nat) (S : gS) (a1 : Int32) (Q : gS → Prop) (h : qX9_sendOut S a1 Q) : Met l yX9_sendOut wsX9_sendOut rmX9_sendOut (gPc [.ref (A 0), .int a1] sz D vwCl (tY Y) (wC Y A S)) (va_Qv Q (fun S' t => gH D vwCl (tY Y) (wC Y A S') t) (gF A 65 sz)) 0 0 (gF A 65 sz) := by
  refine gMet_v (cc := cX9_sendOut) (maxL := 4) (by decide +kernel) rfl (Nat.le_of_ble_eq_true rfl) (fun p e s m args below meth c Z H locs hx hb hml hts hown hK hP hS hret ls hl => ?_)
  have hown : s.vm.findClass RX9 = some m.cls := hown
  have hl : lv_has ls 4 [(0, .ref (A 0)), (1, .int a1)] := hl
  have hD : ∀ S0 : gS, va_D (gF A 65 s.heap.size) (wC Y A S0) := fun S0 => dC hI S0 (fun k hk => gF_in hk)
  have k0 : ∀ w ∈ u_ws RX9 TX9 15, w ∈ wsX9_sendOut := by decide +kernel
  have k1 := hts (.fieldLink RX9 46 "CoastWatch" "boats" "LCoastWatch$Boats;") (by decide +kernel)
  have k2 : ∀ w ∈ u_ws RX0 TX0 9, w ∈ wsX9_sendOut := by decide +kernel
  have k3 := hts (.fieldLink RX9 158 "CoastWatch$Boats" "casks" "[I") (by decide +kernel)
  have k4 := hts (.fieldLink RX9 60 "CoastWatch" "lots" "LCoastWatch$Lots;") (by decide +kernel)
  have k5 : ∀ w ∈ u_ws RX5 TX5 7, w ∈ wsX9_sendOut := by decide +kernel
  have k6 := hts (.fieldLink RX9 185 "CoastWatch$Lots" "size" "I") (by decide +kernel)
  have k7 := hts (.fieldLink RX9 331 "CoastWatch$Boats" "bold" "[I") (by decide +kernel)
  have k8 := hts (.fieldLink RX9 39 "CoastWatch" "coves" "LCoastWatch$Coves;") (by decide +kernel)
  have tJ82 : ∀ (v2 : Int32) (S : gS), qX9_sendOut_J82 a1 Q (v2, S) → ∀ (H : Heap) (locs : List Loc) (ls : Array Slot), va_P D vwCl (wC Y A S) H → va_S (gF A 65 s.heap.size) s.heap H locs → lv_has ls 4 [(0, .ref (A 0)), (1, .int a1), (2, .int v2)] → W p l e rmX9_sendOut s m args below meth c H locs 0 0 Z (F0 m 82 ls []) := by
    intro  v2 S h
    intro H locs ls hP hS hl
    refine lv_aload_n hx hb dX9_sendOut_82 rfl (lv_at hl 0 rfl) ?_
    refine lv_iload_n hx hb dX9_sendOut_83 rfl (lv_at hl 1 rfl) ?_
    refine lv_iload_n hx hb dX9_sendOut_84 rfl (lv_at hl 2 rfl) ?_
    refine lv_iconst (v := (1 : Int32)) hx hb dX9_sendOut_85 (by decide) ?_
    refine lv_isub hx hb dX9_sendOut_86 ?_
    refine gVv (As := [.int a1, .int (v2 - (1 : Int32))]) (rest := []) ⟨hx, hb, hml, hown, hts⟩ (kX9_lookAt l D Y A hI H.size S a1 (v2 - (1 : Int32)) _ h) (cwV 2 hts gX9_sendOut_X9_lookAt rfl rfl rfl (by decide +kernel) ⟨Nat.le_of_ble_eq_true rfl, Nat.le_of_ble_eq_true rfl⟩) hK hP hS (gF_le hS.1) (aC0 Y A S) (show vwCl[9]? = some (RX9, TX9, 15) from rfl) rfl rfl hl.1 (Nat.le_of_ble_eq_true rfl) dX9_sendOut_87 ⟨Nat.zero_le _, Nat.zero_le _⟩ ?_
    intro S1 H locs h hP hS
    refine lv_aload_n hx hb dX9_sendOut_90 rfl (lv_at hl 0 rfl) ?_
    refine lv_iload_n hx hb dX9_sendOut_91 rfl (lv_at hl 1 rfl) ?_
    refine lv_iload_n hx hb dX9_sendOut_92 rfl (lv_at hl 2 rfl) ?_
    refine lv_iconst (v := (1 : Int32)) hx hb dX9_sendOut_93 (by decide) ?_
    refine lv_iadd hx hb dX9_sendOut_94 ?_
    refine gVv (As := [.int a1, .int (v2 + (1 : Int32))]) (rest := []) ⟨hx, hb, hml, hown, hts⟩ (kX9_lookAt l D Y A hI H.size S1 a1 (v2 + (1 : Int32)) _ h) (cwV 2 hts gX9_sendOut_X9_lookAt rfl rfl rfl (by decide +kernel) ⟨Nat.le_of_ble_eq_true rfl, Nat.le_of_ble_eq_true rfl⟩) hK hP hS (gF_le hS.1) (aC0 Y A S1) (show vwCl[9]? = some (RX9, TX9, 15) from rfl) rfl rfl hl.1 (Nat.le_of_ble_eq_true rfl) dX9_sendOut_95 ⟨Nat.zero_le _, Nat.zero_le _⟩ ?_
    intro S2 H locs h hP hS
    exact hret _ _ _ _ _ dX9_sendOut_98 h hP hS
  refine lv_aload_n hx hb dX9_sendOut_0 rfl (lv_at hl 0 rfl) ?_
  refine va_get (ci := 9) (v := .ref (A 3)) (C := RX9) (T := TX9) (N := 15) hx hb hts k0 hown hK hP 0 (aC0 Y A S) rfl 8 (by decide) k1 (fun _ h9 => h9) rfl dX9_sendOut_1 ?_
  refine va_get (ci := 0) (v := .ref (A 29)) (C := RX0) (T := TX0) (N := 9) hx hb hts k2 hown hK hP 3 (aC3 Y A S) rfl 5 (by decide) k3 (fun _ h9 => h9) rfl dX9_sendOut_4 ?_
  refine lv_iload_n hx hb dX9_sendOut_7 rfl (lv_at hl 1 rfl) ?_
  have v_3 := h.1
  have h := h.2
  refine va_iald hx hb hK hP 29 0 (aC29 Y A S) rfl v_3 dX9_sendOut_8 ?_
  refine lv_if_eq (tgt := 40) hx hb dX9_sendOut_9 (by decide) (fun c4 => ?_) (fun c4 => ?_)
  · have h := h.1 c4
    exact hret _ _ _ _ _ dX9_sendOut_40 h hP hS
  · have h := h.2 c4
    refine lv_aload_n hx hb dX9_sendOut_12 rfl (lv_at hl 0 rfl) ?_
    refine va_get (ci := 9) (v := .ref (A 5)) (C := RX9) (T := TX9) (N := 15) hx hb hts k0 hown hK hP 0 (aC0 Y A S) rfl 10 (by decide) k4 (fun _ h9 => h9) rfl dX9_sendOut_13 ?_
    refine va_get (ci := 5) (v := .int (gi S 6)) (C := RX5) (T := TX5) (N := 7) hx hb hts k5 hown hK hP 5 (aC5 Y A S) rfl 0 (by decide) k6 (fun _ h9 => h9) rfl dX9_sendOut_16 ?_
    refine lv_bipush (v := (100 : Int32)) hx hb dX9_sendOut_19 (by decide) ?_
    refine lv_icmp_ge (tgt := 40) hx hb dX9_sendOut_21 (by decide) (fun c5 => ?_) (fun c5 => ?_)
    · have h := h.1 c5
      exact hret _ _ _ _ _ dX9_sendOut_40 h hP hS
    · have h := h.2 c5
      refine lv_aload_n hx hb dX9_sendOut_24 rfl (lv_at hl 0 rfl) ?_
      refine gVi (As := []) (rest := []) ⟨hx, hb, hml, hown, hts⟩ (kX9_light l D Y A hI H.size S  _ h) (cwV 0 hts gX9_sendOut_X9_light rfl rfl rfl (by decide +kernel) ⟨Nat.le_of_ble_eq_true rfl, Nat.le_of_ble_eq_true rfl⟩) hK hP hS (gF_le hS.1) (aC0 Y A S) (show vwCl[9]? = some (RX9, TX9, 15) from rfl) rfl rfl hl.1 (Nat.le_of_ble_eq_true rfl) dX9_sendOut_25 ⟨Nat.zero_le _, Nat.zero_le _⟩ ?_
      intro r7 S6 H locs h hP hS
      refine lv_aload_n hx hb dX9_sendOut_28 rfl (lv_at hl 0 rfl) ?_
      refine va_get (ci := 9) (v := .ref (A 3)) (C := RX9) (T := TX9) (N := 15) hx hb hts k0 hown hK hP 0 (aC0 Y A S6) rfl 8 (by decide) k1 (fun _ h9 => h9) rfl dX9_sendOut_29 ?_
      refine va_get (ci := 0) (v := .ref (A 28)) (C := RX0) (T := TX0) (N := 9) hx hb hts k2 hown hK hP 3 (aC3 Y A S6) rfl 4 (by decide) k7 (fun _ h9 => h9) rfl dX9_sendOut_32 ?_
      refine lv_iload_n hx hb dX9_sendOut_35 rfl (lv_at hl 1 rfl) ?_
      refine va_iald hx hb hK hP 28 0 (aC28 Y A S6) rfl v_3 dX9_sendOut_36 ?_
      refine lv_icmp_le (tgt := 41) hx hb dX9_sendOut_37 (by decide) (fun c8 => ?_) (fun c8 => ?_)
      · have h := h.1 c8
        refine lv_aload_n hx hb dX9_sendOut_41 rfl (lv_at hl 0 rfl) ?_
        refine lv_iload_n hx hb dX9_sendOut_42 rfl (lv_at hl 1 rfl) ?_
        refine gVi (As := [.int a1]) (rest := []) ⟨hx, hb, hml, hown, hts⟩ (kX9_chosenCove l D Y A hI H.size S6 a1 _ h) (cwV 1 hts gX9_sendOut_X9_chosenCove rfl rfl rfl (by decide +kernel) ⟨Nat.le_of_ble_eq_true rfl, Nat.le_of_ble_eq_true rfl⟩) hK hP hS (gF_le hS.1) (aC0 Y A S6) (show vwCl[9]? = some (RX9, TX9, 15) from rfl) rfl rfl hl.1 (Nat.le_of_ble_eq_true rfl) dX9_sendOut_43 ⟨Nat.zero_le _, Nat.zero_le _⟩ ?_
        intro r10 S9 H locs h hP hS
        refine lv_istore_n (lv' := [(2, .int r10), (0, .ref (A 0)), (1, .int a1)]) hx hb dX9_sendOut_46 rfl hl (by decide) rfl (fun ls hl => ?_)
        refine lv_iload_n hx hb dX9_sendOut_47 rfl (lv_at hl 0 rfl) ?_
        refine lv_iconst (v := (-1 : Int32)) hx hb dX9_sendOut_48 (by decide) ?_
        refine lv_icmp_ne (tgt := 53) hx hb dX9_sendOut_49 (by decide) (fun c11 => ?_) (fun c11 => ?_)
        · have h := h.2 c11
          refine lv_aload_n hx hb dX9_sendOut_53 rfl (lv_at hl 1 rfl) ?_
          refine va_get (ci := 9) (v := .ref (A 2)) (C := RX9) (T := TX9) (N := 15) hx hb hts k0 hown hK hP 0 (aC0 Y A S9) rfl 7 (by decide) k8 (fun _ h9 => h9) rfl dX9_sendOut_54 ?_
          refine lv_iload_n hx hb dX9_sendOut_57 rfl (lv_at hl 0 rfl) ?_
          refine gVi (As := [.int r10]) (rest := []) ⟨hx, hb, hml, hown, hts⟩ (kX1_countingAt l D Y A hI H.size S9 r10 _ h) (cwV 1 hts gX9_sendOut_X1_countingAt rfl rfl rfl (by decide +kernel) ⟨Nat.le_of_ble_eq_true rfl, Nat.le_of_ble_eq_true rfl⟩) hK hP hS (gF_le hS.1) (aC2 Y A S9) (show vwCl[1]? = some (RX1, TX1, 7) from rfl) rfl rfl hl.1 (Nat.le_of_ble_eq_true rfl) dX9_sendOut_58 ⟨Nat.zero_le _, Nat.zero_le _⟩ ?_
          intro r13 S12 H locs h hP hS
          refine lv_istore_n (lv' := [(3, .int r13), (2, .int r10), (0, .ref (A 0)), (1, .int a1)]) hx hb dX9_sendOut_61 rfl hl (by decide) rfl (fun ls hl => ?_)
          refine lv_iload_n hx hb dX9_sendOut_62 rfl (lv_at hl 0 rfl) ?_
          refine lv_if_le (tgt := 76) hx hb dX9_sendOut_63 (by decide) (fun c14 => ?_) (fun c14 => ?_)
          · have h := h.1 c14
            refine lv_aload_n hx hb dX9_sendOut_76 rfl (lv_at hl 2 rfl) ?_
            refine lv_iload_n hx hb dX9_sendOut_77 rfl (lv_at hl 3 rfl) ?_
            refine lv_iload_n hx hb dX9_sendOut_78 rfl (lv_at hl 1 rfl) ?_
            refine gVv (As := [.int a1, .int r10]) (rest := []) ⟨hx, hb, hml, hown, hts⟩ (kX9_bringAshore l D Y A hI H.size S12 a1 r10 _ h) (cwV 2 hts gX9_sendOut_X9_bringAshore rfl rfl rfl (by decide +kernel) ⟨Nat.le_of_ble_eq_true rfl, Nat.le_of_ble_eq_true rfl⟩) hK hP hS (gF_le hS.1) (aC0 Y A S12) (show vwCl[9]? = some (RX9, TX9, 15) from rfl) rfl rfl hl.1 (Nat.le_of_ble_eq_true rfl) dX9_sendOut_79 ⟨Nat.zero_le _, Nat.zero_le _⟩ ?_
            intro S15 H locs h hP hS
            exact tJ82  r10 S15 h _ _ _ hP hS (lv_sub hl [2, 3, 1] rfl)
          · have h := h.2 c14
            refine lv_aload_n hx hb dX9_sendOut_66 rfl (lv_at hl 2 rfl) ?_
            refine lv_iload_n hx hb dX9_sendOut_67 rfl (lv_at hl 3 rfl) ?_
            refine lv_iload_n hx hb dX9_sendOut_68 rfl (lv_at hl 1 rfl) ?_
            refine lv_iload_n hx hb dX9_sendOut_69 rfl (lv_at hl 0 rfl) ?_
            refine gVv (As := [.int a1, .int r10, .int r13]) (rest := []) ⟨hx, hb, hml, hown, hts⟩ (kX9_meetWatchers l D Y A hI H.size S12 a1 r10 r13 _ h) (cwV 3 hts gX9_sendOut_X9_meetWatchers rfl rfl rfl (by decide +kernel) ⟨Nat.le_of_ble_eq_true rfl, Nat.le_of_ble_eq_true rfl⟩) hK hP hS (gF_le hS.1) (aC0 Y A S12) (show vwCl[9]? = some (RX9, TX9, 15) from rfl) rfl rfl hl.1 (Nat.le_of_ble_eq_true rfl) dX9_sendOut_70 ⟨Nat.zero_le _, Nat.zero_le _⟩ ?_
            intro S16 H locs h hP hS
            refine lv_goto (tgt := 82) hx hb dX9_sendOut_73 (by decide) ?_
            exact tJ82  r10 S16 h _ _ _ hP hS (lv_sub hl [2, 3, 1] rfl)
        · have h := h.1 c11
          exact hret _ _ _ _ _ dX9_sendOut_52 h hP hS
      · have h := h.2 c8
        exact hret _ _ _ _ _ dX9_sendOut_40 h hP hS

def qX9_proveWords_L2 (Q : gS → Prop) (K2 : Int32 × gS → Prop) : Int32 × gS → Prop := fun ⟨v1, S⟩ =>
  ((gi S 8) ≤ v1 → (Q S)) ∧ (¬ (gi S 8) ≤ v1 → (vp_in v1 60 ∧ (((ga S 44 v1.toNatClampNeg) = (gi S 0) → (∀ x5 : Int32, x5 = (ga S 45 v1.toNatClampNeg) → (qX5_cameTo S x5 (gi S 0) (fun r7 S6 => qX8_prove S6 v1 r7 (fun S8 => (r7 = 0 → (∀ x10 : Int32, x10 = v1 + (1 : Int32) → (K2 (x10, S8)))) ∧ (¬ r7 = 0 → (qX3_suspect S8 x5 (fun S11 => ∀ x12 : Int32, x12 = v1 + (1 : Int32) → (K2 (x12, S11)))))))))) ∧ (¬ (ga S 44 v1.toNatClampNeg) = (gi S 0) → (∀ x4 : Int32, x4 = v1 + (1 : Int32) → (K2 (x4, S)))))))
def qX9_proveWords (S : gS) (Q : gS → Prop) : Prop :=
  lp (qX9_proveWords_L2 Q) ((0 : Int32), S)
abbrev rmX9_proveWords : Room := { frames := 2, cells := 0, slots := 0, locals := 37 }
set_option maxHeartbeats 4000000 in
set_option maxRecDepth 100000 in
theorem kX9_proveWords (l : Launch) (D : va_G) (Y : Nat → ClassId) (A : Nat → Nat) (hI : iC A) (sz : Nat) (S : gS) (Q : gS → Prop) (h : qX9_proveWords S  Q) : Met l yX9_proveWords wsX9_proveWords rmX9_proveWords (gPc [.ref (A 0)] sz D vwCl (tY Y) (wC Y A S)) (va_Qv Q (fun S' t => gH D vwCl (tY Y) (wC Y A S') t) (gF A 65 sz)) 0 0 (gF A 65 sz) := by
  refine gMet_v (cc := cX9_proveWords) (maxL := 4) (by decide +kernel) rfl (Nat.le_of_ble_eq_true rfl) (fun p e s m args below meth c Z H locs hx hb hml hts hown hK hP hS hret ls hl => ?_)
  have hown : s.vm.findClass RX9 = some m.cls := hown
  have hl : lv_has ls 4 [(0, .ref (A 0))] := hl
  have hD : ∀ S0 : gS, va_D (gF A 65 s.heap.size) (wC Y A S0) := fun S0 => dC hI S0 (fun k hk => gF_in hk)
  have k0 : ∀ w ∈ u_ws RX9 TX9 15, w ∈ wsX9_proveWords := by decide +kernel
  have k1 := hts (.fieldLink RX9 74 "CoastWatch" "words" "LCoastWatch$Words;") (by decide +kernel)
  have k2 : ∀ w ∈ u_ws RX8 TX8 6, w ∈ wsX9_proveWords := by decide +kernel
  have k3 := hts (.fieldLink RX9 180 "CoastWatch$Words" "size" "I") (by decide +kernel)
  have k4 := hts (.fieldLink RX9 383 "CoastWatch$Words" "night" "[I") (by decide +kernel)
  have k5 := hts (.fieldLink RX9 7 "CoastWatch" "night" "I") (by decide +kernel)
  have k6 := hts (.fieldLink RX9 384 "CoastWatch$Words" "cove" "[I") (by decide +kernel)
  have k7 := hts (.fieldLink RX9 60 "CoastWatch" "lots" "LCoastWatch$Lots;") (by decide +kernel)
  have k8 := hts (.fieldLink RX9 53 "CoastWatch" "hides" "LCoastWatch$Hides;") (by decide +kernel)
  have tL2 : ∀ (v1 : Int32) (S : gS), lp (qX9_proveWords_L2 Q) (v1, S) → ∀ (H : Heap) (locs : List Loc) (ls : Array Slot), va_P D vwCl (wC Y A S) H → va_S (gF A 65 s.heap.size) s.heap H locs → lv_has ls 4 [(0, .ref (A 0)), (1, .int v1)] → W p l e rmX9_proveWords s m args below meth c H locs 0 0 Z (F0 m 2 ls []) := by
    intro  v1 S h
    refine lp_walk (G := fun a => match a with | (v1, S) => ∀ (H : Heap) (locs : List Loc) (ls : Array Slot), va_P D vwCl (wC Y A S) H → va_S (gF A 65 s.heap.size) s.heap H locs → lv_has ls 4 [(0, .ref (A 0)), (1, .int v1)] → W p l e rmX9_proveWords s m args below meth c H locs 0 0 Z (F0 m 2 ls [])) (fun K2 a ih2 h => ?_) (v1, S) h
    obtain ⟨v1, S⟩ := a
    have ih2 : ∀ (v1 : Int32) (S : gS), K2 (v1, S) → ∀ (H : Heap) (locs : List Loc) (ls : Array Slot), va_P D vwCl (wC Y A S) H → va_S (gF A 65 s.heap.size) s.heap H locs → lv_has ls 4 [(0, .ref (A 0)), (1, .int v1)] → W p l e rmX9_proveWords s m args below meth c H locs 0 0 Z (F0 m 2 ls []) := fun v1 S q => ih2 (v1, S) q
    intro H locs ls hP hS hl
    refine lv_iload_n hx hb dX9_proveWords_2 rfl (lv_at hl 1 rfl) ?_
    refine lv_aload_n hx hb dX9_proveWords_3 rfl (lv_at hl 0 rfl) ?_
    refine va_get (ci := 9) (v := .ref (A 7)) (C := RX9) (T := TX9) (N := 15) hx hb hts k0 hown hK hP 0 (aC0 Y A S) rfl 12 (by decide) k1 (fun _ h9 => h9) rfl dX9_proveWords_4 ?_
    refine va_get (ci := 8) (v := .int (gi S 8)) (C := RX8) (T := TX8) (N := 6) hx hb hts k2 hown hK hP 7 (aC7 Y A S) rfl 0 (by decide) k3 (fun _ h9 => h9) rfl dX9_proveWords_7 ?_
    refine lv_icmp_ge (tgt := 79) hx hb dX9_proveWords_10 (by decide) (fun c1 => ?_) (fun c1 => ?_)
    · have h := h.1 c1
      exact hret _ _ _ _ _ dX9_proveWords_79 h hP hS
    · have h := h.2 c1
      refine lv_aload_n hx hb dX9_proveWords_13 rfl (lv_at hl 0 rfl) ?_
      refine va_get (ci := 9) (v := .ref (A 7)) (C := RX9) (T := TX9) (N := 15) hx hb hts k0 hown hK hP 0 (aC0 Y A S) rfl 12 (by decide) k1 (fun _ h9 => h9) rfl dX9_proveWords_14 ?_
      refine va_get (ci := 8) (v := .ref (A 57)) (C := RX8) (T := TX8) (N := 6) hx hb hts k2 hown hK hP 7 (aC7 Y A S) rfl 2 (by decide) k4 (fun _ h9 => h9) rfl dX9_proveWords_17 ?_
      refine lv_iload_n hx hb dX9_proveWords_20 rfl (lv_at hl 1 rfl) ?_
      have v_2 := h.1
      have h := h.2
      refine va_iald hx hb hK hP 57 0 (aC57 Y A S) rfl v_2 dX9_proveWords_21 ?_
      refine lv_aload_n hx hb dX9_proveWords_22 rfl (lv_at hl 0 rfl) ?_
      refine va_get (ci := 9) (v := .int (gi S 0)) (C := RX9) (T := TX9) (N := 15) hx hb hts k0 hown hK hP 0 (aC0 Y A S) rfl 0 (by decide) k5 (fun _ h9 => h9) rfl dX9_proveWords_23 ?_
      refine lv_icmp_ne (tgt := 73) hx hb dX9_proveWords_26 (by decide) (fun c3 => ?_) (fun c3 => ?_)
      · have h := h.2 c3
        obtain ⟨x4, ex4⟩ : ∃ z : Int32, z = v1 + (1 : Int32) := ⟨_, rfl⟩
        have h := h x4 ex4
        refine lv_iinc (v := x4) (lv' := [(1, .int x4), (0, .ref (A 0))]) hx hb dX9_proveWords_73 hl (k := 1) rfl (by rw [ex4]; rfl) (by decide) rfl (fun ls hl => ?_)
        refine lv_goto (tgt := 2) hx hb dX9_proveWords_76 (by decide) ?_
        exact ih2 x4 S h _ _ _ hP hS (lv_sub hl [1, 0] rfl)
      · have h := h.1 c3
        refine lv_aload_n hx hb dX9_proveWords_29 rfl (lv_at hl 0 rfl) ?_
        refine va_get (ci := 9) (v := .ref (A 7)) (C := RX9) (T := TX9) (N := 15) hx hb hts k0 hown hK hP 0 (aC0 Y A S) rfl 12 (by decide) k1 (fun _ h9 => h9) rfl dX9_proveWords_30 ?_
        refine va_get (ci := 8) (v := .ref (A 58)) (C := RX8) (T := TX8) (N := 6) hx hb hts k2 hown hK hP 7 (aC7 Y A S) rfl 3 (by decide) k6 (fun _ h9 => h9) rfl dX9_proveWords_33 ?_
        refine lv_iload_n hx hb dX9_proveWords_36 rfl (lv_at hl 1 rfl) ?_
        refine va_iald hx hb hK hP 58 0 (aC58 Y A S) rfl v_2 dX9_proveWords_37 ?_
        refine lv_topi (fun x5 ex5 => ?_)
        have h := h x5 ex5
        refine lv_istore_n (lv' := [(2, .int x5), (0, .ref (A 0)), (1, .int v1)]) hx hb dX9_proveWords_38 rfl hl (by decide) rfl (fun ls hl => ?_)
        refine lv_aload_n hx hb dX9_proveWords_39 rfl (lv_at hl 1 rfl) ?_
        refine va_get (ci := 9) (v := .ref (A 5)) (C := RX9) (T := TX9) (N := 15) hx hb hts k0 hown hK hP 0 (aC0 Y A S) rfl 10 (by decide) k7 (fun _ h9 => h9) rfl dX9_proveWords_40 ?_
        refine lv_iload_n hx hb dX9_proveWords_43 rfl (lv_at hl 0 rfl) ?_
        refine lv_aload_n hx hb dX9_proveWords_44 rfl (lv_at hl 1 rfl) ?_
        refine va_get (ci := 9) (v := .int (gi S 0)) (C := RX9) (T := TX9) (N := 15) hx hb hts k0 hown hK hP 0 (aC0 Y A S) rfl 0 (by decide) k5 (fun _ h9 => h9) rfl dX9_proveWords_45 ?_
        refine gVi (As := [.int x5, .int (gi S 0)]) (rest := []) ⟨hx, hb, hml, hown, hts⟩ (kX5_cameTo l D Y A hI H.size S x5 (gi S 0) _ h) (cwV 2 hts gX9_proveWords_X5_cameTo rfl rfl rfl (by decide +kernel) ⟨Nat.le_of_ble_eq_true rfl, Nat.le_of_ble_eq_true rfl⟩) hK hP hS (gF_le hS.1) (aC5 Y A S) (show vwCl[5]? = some (RX5, TX5, 7) from rfl) rfl rfl hl.1 (Nat.le_of_ble_eq_true rfl) dX9_proveWords_48 ⟨Nat.zero_le _, Nat.zero_le _⟩ ?_
        intro r7 S6 H locs h hP hS
        refine lv_istore_n (lv' := [(3, .int r7), (2, .int x5), (0, .ref (A 0)), (1, .int v1)]) hx hb dX9_proveWords_51 rfl hl (by decide) rfl (fun ls hl => ?_)
        refine lv_aload_n hx hb dX9_proveWords_52 rfl (lv_at hl 2 rfl) ?_
        refine va_get (ci := 9) (v := .ref (A 7)) (C := RX9) (T := TX9) (N := 15) hx hb hts k0 hown hK hP 0 (aC0 Y A S6) rfl 12 (by decide) k1 (fun _ h9 => h9) rfl dX9_proveWords_53 ?_
        refine lv_iload_n hx hb dX9_proveWords_56 rfl (lv_at hl 3 rfl) ?_
        refine lv_iload_n hx hb dX9_proveWords_57 rfl (lv_at hl 0 rfl) ?_
        refine gVv (As := [.int v1, .int r7]) (rest := []) ⟨hx, hb, hml, hown, hts⟩ (kX8_prove l D Y A hI H.size S6 v1 r7 _ h) (cwV 2 hts gX9_proveWords_X8_prove rfl rfl rfl (by decide +kernel) ⟨Nat.le_of_ble_eq_true rfl, Nat.le_of_ble_eq_true rfl⟩) hK hP hS (gF_le hS.1) (aC7 Y A S6) (show vwCl[8]? = some (RX8, TX8, 6) from rfl) rfl rfl hl.1 (Nat.le_of_ble_eq_true rfl) dX9_proveWords_58 ⟨Nat.zero_le _, Nat.zero_le _⟩ ?_
        intro S8 H locs h hP hS
        refine lv_iload_n hx hb dX9_proveWords_61 rfl (lv_at hl 0 rfl) ?_
        refine lv_if_eq (tgt := 73) hx hb dX9_proveWords_62 (by decide) (fun c9 => ?_) (fun c9 => ?_)
        · have h := h.1 c9
          obtain ⟨x10, ex10⟩ : ∃ z : Int32, z = v1 + (1 : Int32) := ⟨_, rfl⟩
          have h := h x10 ex10
          refine lv_iinc (v := x10) (lv' := [(1, .int x10), (3, .int r7), (2, .int x5), (0, .ref (A 0))]) hx hb dX9_proveWords_73 hl (k := 3) rfl (by rw [ex10]; rfl) (by decide) rfl (fun ls hl => ?_)
          refine lv_goto (tgt := 2) hx hb dX9_proveWords_76 (by decide) ?_
          exact ih2 x10 S8 h _ _ _ hP hS (lv_sub hl [3, 0] rfl)
        · have h := h.2 c9
          refine lv_aload_n hx hb dX9_proveWords_65 rfl (lv_at hl 2 rfl) ?_
          refine va_get (ci := 9) (v := .ref (A 4)) (C := RX9) (T := TX9) (N := 15) hx hb hts k0 hown hK hP 0 (aC0 Y A S8) rfl 9 (by decide) k8 (fun _ h9 => h9) rfl dX9_proveWords_66 ?_
          refine lv_iload_n hx hb dX9_proveWords_69 rfl (lv_at hl 1 rfl) ?_
          refine gVv (As := [.int x5]) (rest := []) ⟨hx, hb, hml, hown, hts⟩ (kX3_suspect l D Y A hI H.size S8 x5 _ h) (cwV 1 hts gX9_proveWords_X3_suspect rfl rfl rfl (by decide +kernel) ⟨Nat.le_of_ble_eq_true rfl, Nat.le_of_ble_eq_true rfl⟩) hK hP hS (gF_le hS.1) (aC4 Y A S8) (show vwCl[3]? = some (RX3, TX3, 7) from rfl) rfl rfl hl.1 (Nat.le_of_ble_eq_true rfl) dX9_proveWords_70 ⟨Nat.zero_le _, Nat.zero_le _⟩ ?_
          intro S11 H locs h hP hS
          obtain ⟨x12, ex12⟩ : ∃ z : Int32, z = v1 + (1 : Int32) := ⟨_, rfl⟩
          have h := h x12 ex12
          refine lv_iinc (v := x12) (lv' := [(1, .int x12), (3, .int r7), (2, .int x5), (0, .ref (A 0))]) hx hb dX9_proveWords_73 hl (k := 3) rfl (by rw [ex12]; rfl) (by decide) rfl (fun ls hl => ?_)
          refine lv_goto (tgt := 2) hx hb dX9_proveWords_76 (by decide) ?_
          exact ih2 x12 S11 h _ _ _ hP hS (lv_sub hl [3, 0] rfl)
  refine lv_iconst (v := (0 : Int32)) hx hb dX9_proveWords_0 (by decide) ?_
  refine lv_istore_n (lv' := [(1, .int (0 : Int32)), (0, .ref (A 0))]) hx hb dX9_proveWords_1 rfl hl (by decide) rfl (fun ls hl => ?_)
  exact tL2  (0 : Int32) S h _ _ _ hP hS (lv_sub hl [1, 0] rfl)

def qX9_passNight_L16 (Q : gS → Prop) (K16 : Int32 × gS → Prop) : Int32 × gS → Prop := fun ⟨v1, S⟩ =>
  ((gi S 4) ≤ v1 → (qX0_calm S (fun S2 => qX9_proveWords S2 (fun S3 => Q S3)))) ∧ (¬ (gi S 4) ≤ v1 → (qX9_sendOut S v1 (fun S4 => ∀ x5 : Int32, x5 = v1 + (1 : Int32) → (K16 (x5, S4)))))
def qX9_passNight (S : gS) (Q : gS → Prop) : Prop :=
  ∀ S6 : gS, S6 = sI S 0 ((gi S 0) + (1 : Int32)) → (qX9_placeWatchers S6 (fun S7 => lp (qX9_passNight_L16 Q) ((0 : Int32), S7)))
abbrev rmX9_passNight : Room := { frames := 5, cells := 0, slots := 0, locals := 112 }
set_option maxHeartbeats 4000000 in
set_option maxRecDepth 100000 in
theorem kX9_passNight (l : Launch) (D : va_G) (Y : Nat → ClassId) (A : Nat → Nat) (hI : iC A) (sz : Nat) (S : gS) (Q : gS → Prop) (h : qX9_passNight S  Q) : Met l yX9_passNight wsX9_passNight rmX9_passNight (gPc [.ref (A 0)] sz D vwCl (tY Y) (wC Y A S)) (va_Qv Q (fun S' t => gH D vwCl (tY Y) (wC Y A S') t) (gF A 65 sz)) 0 0 (gF A 65 sz) := by
  refine gMet_v (cc := cX9_passNight) (maxL := 2) (by decide +kernel) rfl (Nat.le_of_ble_eq_true rfl) (fun p e s m args below meth c Z H locs hx hb hml hts hown hK hP hS hret ls hl => ?_)
  have hown : s.vm.findClass RX9 = some m.cls := hown
  have hl : lv_has ls 2 [(0, .ref (A 0))] := hl
  have hD : ∀ S0 : gS, va_D (gF A 65 s.heap.size) (wC Y A S0) := fun S0 => dC hI S0 (fun k hk => gF_in hk)
  have k0 : ∀ w ∈ u_ws RX9 TX9 15, w ∈ wsX9_passNight := by decide +kernel
  have k1 := hts (.fieldLink RX9 46 "CoastWatch" "boats" "LCoastWatch$Boats;") (by decide +kernel)
  have k2 : ∀ w ∈ u_ws RX0 TX0 9, w ∈ wsX9_passNight := by decide +kernel
  have k3 := hts (.fieldLink RX9 145 "CoastWatch$Boats" "size" "I") (by decide +kernel)
  have k4 := hts (.fieldLink RX9 7 "CoastWatch" "night" "I") (by decide +kernel)
  have tL16 : ∀ (v1 : Int32) (S : gS), lp (qX9_passNight_L16 Q) (v1, S) → ∀ (H : Heap) (locs : List Loc) (ls : Array Slot), va_P D vwCl (wC Y A S) H → va_S (gF A 65 s.heap.size) s.heap H locs → lv_has ls 2 [(0, .ref (A 0)), (1, .int v1)] → W p l e rmX9_passNight s m args below meth c H locs 0 0 Z (F0 m 16 ls []) := by
    intro  v1 S h
    refine lp_walk (G := fun a => match a with | (v1, S) => ∀ (H : Heap) (locs : List Loc) (ls : Array Slot), va_P D vwCl (wC Y A S) H → va_S (gF A 65 s.heap.size) s.heap H locs → lv_has ls 2 [(0, .ref (A 0)), (1, .int v1)] → W p l e rmX9_passNight s m args below meth c H locs 0 0 Z (F0 m 16 ls [])) (fun K16 a ih16 h => ?_) (v1, S) h
    obtain ⟨v1, S⟩ := a
    have ih16 : ∀ (v1 : Int32) (S : gS), K16 (v1, S) → ∀ (H : Heap) (locs : List Loc) (ls : Array Slot), va_P D vwCl (wC Y A S) H → va_S (gF A 65 s.heap.size) s.heap H locs → lv_has ls 2 [(0, .ref (A 0)), (1, .int v1)] → W p l e rmX9_passNight s m args below meth c H locs 0 0 Z (F0 m 16 ls []) := fun v1 S q => ih16 (v1, S) q
    intro H locs ls hP hS hl
    refine lv_iload_n hx hb dX9_passNight_16 rfl (lv_at hl 1 rfl) ?_
    refine lv_aload_n hx hb dX9_passNight_17 rfl (lv_at hl 0 rfl) ?_
    refine va_get (ci := 9) (v := .ref (A 3)) (C := RX9) (T := TX9) (N := 15) hx hb hts k0 hown hK hP 0 (aC0 Y A S) rfl 8 (by decide) k1 (fun _ h9 => h9) rfl dX9_passNight_18 ?_
    refine va_get (ci := 0) (v := .int (gi S 4)) (C := RX0) (T := TX0) (N := 9) hx hb hts k2 hown hK hP 3 (aC3 Y A S) rfl 0 (by decide) k3 (fun _ h9 => h9) rfl dX9_passNight_21 ?_
    refine lv_icmp_ge (tgt := 38) hx hb dX9_passNight_24 (by decide) (fun c1 => ?_) (fun c1 => ?_)
    · have h := h.1 c1
      refine lv_aload_n hx hb dX9_passNight_38 rfl (lv_at hl 0 rfl) ?_
      refine va_get (ci := 9) (v := .ref (A 3)) (C := RX9) (T := TX9) (N := 15) hx hb hts k0 hown hK hP 0 (aC0 Y A S) rfl 8 (by decide) k1 (fun _ h9 => h9) rfl dX9_passNight_39 ?_
      refine gVv (As := []) (rest := []) ⟨hx, hb, hml, hown, hts⟩ (kX0_calm l D Y A hI H.size S  _ h) (cwV 0 hts gX9_passNight_X0_calm rfl rfl rfl (by decide +kernel) ⟨Nat.le_of_ble_eq_true rfl, Nat.le_of_ble_eq_true rfl⟩) hK hP hS (gF_le hS.1) (aC3 Y A S) (show vwCl[0]? = some (RX0, TX0, 9) from rfl) rfl rfl hl.1 (Nat.le_of_ble_eq_true rfl) dX9_passNight_42 ⟨Nat.zero_le _, Nat.zero_le _⟩ ?_
      intro S2 H locs h hP hS
      refine lv_aload_n hx hb dX9_passNight_45 rfl (lv_at hl 0 rfl) ?_
      refine gVv (As := []) (rest := []) ⟨hx, hb, hml, hown, hts⟩ (kX9_proveWords l D Y A hI H.size S2  _ h) (cwV 0 hts gX9_passNight_X9_proveWords rfl rfl rfl (by decide +kernel) ⟨Nat.le_of_ble_eq_true rfl, Nat.le_of_ble_eq_true rfl⟩) hK hP hS (gF_le hS.1) (aC0 Y A S2) (show vwCl[9]? = some (RX9, TX9, 15) from rfl) rfl rfl hl.1 (Nat.le_of_ble_eq_true rfl) dX9_passNight_46 ⟨Nat.zero_le _, Nat.zero_le _⟩ ?_
      intro S3 H locs h hP hS
      exact hret _ _ _ _ _ dX9_passNight_49 h hP hS
    · have h := h.2 c1
      refine lv_aload_n hx hb dX9_passNight_27 rfl (lv_at hl 0 rfl) ?_
      refine lv_iload_n hx hb dX9_passNight_28 rfl (lv_at hl 1 rfl) ?_
      refine gVv (As := [.int v1]) (rest := []) ⟨hx, hb, hml, hown, hts⟩ (kX9_sendOut l D Y A hI H.size S v1 _ h) (cwV 1 hts gX9_passNight_X9_sendOut rfl rfl rfl (by decide +kernel) ⟨Nat.le_of_ble_eq_true rfl, Nat.le_of_ble_eq_true rfl⟩) hK hP hS (gF_le hS.1) (aC0 Y A S) (show vwCl[9]? = some (RX9, TX9, 15) from rfl) rfl rfl hl.1 (Nat.le_of_ble_eq_true rfl) dX9_passNight_29 ⟨Nat.zero_le _, Nat.zero_le _⟩ ?_
      intro S4 H locs h hP hS
      obtain ⟨x5, ex5⟩ : ∃ z : Int32, z = v1 + (1 : Int32) := ⟨_, rfl⟩
      have h := h x5 ex5
      refine lv_iinc (v := x5) (lv' := [(1, .int x5), (0, .ref (A 0))]) hx hb dX9_passNight_32 hl (k := 1) rfl (by rw [ex5]; rfl) (by decide) rfl (fun ls hl => ?_)
      refine lv_goto (tgt := 16) hx hb dX9_passNight_35 (by decide) ?_
      exact ih16 x5 S4 h _ _ _ hP hS (lv_sub hl [1, 0] rfl)
  refine lv_aload_n hx hb dX9_passNight_0 rfl (lv_at hl 0 rfl) ?_
  refine lv_dup hx hb dX9_passNight_1 rfl ?_
  refine va_get (ci := 9) (v := .int (gi S 0)) (C := RX9) (T := TX9) (N := 15) hx hb hts k0 hown hK hP 0 (aC0 Y A S) rfl 0 (by decide) k4 (fun _ h9 => h9) rfl dX9_passNight_2 ?_
  refine lv_iconst (v := (1 : Int32)) hx hb dX9_passNight_5 (by decide) ?_
  refine lv_iadd hx hb dX9_passNight_6 ?_
  obtain ⟨S6, eS6⟩ : ∃ z : gS, z = sI S 0 ((gi S 0) + (1 : Int32)) := ⟨_, rfl⟩
  have h := h S6 eS6
  refine va_put (ci := 9) (v := .int ((gi S 0) + (1 : Int32))) (ty := .int) (C := RX9) (T := TX9) (N := 15) hx hb hts k0 tyX9 tyX9_ok nmX9 hown hK hP (hD S) hS 0 (aC0 Y A S) rfl 0 (by decide) k4 (fun _ h9 => h9) rfl rfl rfl rfl (by simp) dX9_passNight_7 (fun H locs hP _ hS => ?_)
  have hP := pC0_0 eS6 hP
  refine lv_aload_n hx hb dX9_passNight_10 rfl (lv_at hl 0 rfl) ?_
  refine gVv (As := []) (rest := []) ⟨hx, hb, hml, hown, hts⟩ (kX9_placeWatchers l D Y A hI H.size S6  _ h) (cwV 0 hts gX9_passNight_X9_placeWatchers rfl rfl rfl (by decide +kernel) ⟨Nat.le_of_ble_eq_true rfl, Nat.le_of_ble_eq_true rfl⟩) hK hP hS (gF_le hS.1) (aC0 Y A S6) (show vwCl[9]? = some (RX9, TX9, 15) from rfl) rfl rfl hl.1 (Nat.le_of_ble_eq_true rfl) dX9_passNight_11 ⟨Nat.zero_le _, Nat.zero_le _⟩ ?_
  intro S7 H locs h hP hS
  refine lv_iconst (v := (0 : Int32)) hx hb dX9_passNight_14 (by decide) ?_
  refine lv_istore_n (lv' := [(1, .int (0 : Int32)), (0, .ref (A 0))]) hx hb dX9_passNight_15 rfl hl (by decide) rfl (fun ls hl => ?_)
  exact tL16  (0 : Int32) S7 h _ _ _ hP hS (lv_sub hl [1, 0] rfl)

def qX9_nights_L41 (a1 : Int32) (Q : Int32 → gS → Prop) (K41 : Int32 × Int32 × gS → Prop) : Int32 × Int32 × gS → Prop := fun ⟨v2, v3, S⟩ =>
  (a1 ≤ v3 → (Q ((gi S 6) - v2) S)) ∧ (¬ a1 ≤ v3 → (qX9_passNight S (fun S2 => ∀ x3 : Int32, x3 = v3 + (1 : Int32) → (K41 (v2, x3, S2)))))
def qX9_nights (S : gS) (a1 : Int32) (Q : Int32 → gS → Prop) : Prop :=
  ((1 : Int32) ≤ a1 → ((a1 ≤ ((1000 : Int32) - (gi S 0)) → (∀ x6 : Int32, x6 = (gi S 6) → (lp (qX9_nights_L41 a1 Q) (x6, (0 : Int32), S)))) ∧ (¬ a1 ≤ ((1000 : Int32) - (gi S 0)) → (qX9_refuse S (-6 : Int32) (fun r8 S7 => Q r8 S7))))) ∧ (¬ (1 : Int32) ≤ a1 → (qX9_refuse S (-4 : Int32) (fun r10 S9 => Q r10 S9)))
abbrev rmX9_nights : Room := { frames := 6, cells := 0, slots := 0, locals := 133 }
set_option maxHeartbeats 4000000 in
set_option maxRecDepth 100000 in
theorem kX9_nights (l : Launch) (D : va_G) (Y : Nat → ClassId) (A : Nat → Nat) (hI : iC A) (sz : Nat) (S : gS) (a1 : Int32) (Q : Int32 → gS → Prop) (h : qX9_nights S a1 Q) : Met l yX9_nights wsX9_nights rmX9_nights (gPc [.ref (A 0), .int a1] sz D vwCl (tY Y) (wC Y A S)) (va_Qi Q (fun S' t => gH D vwCl (tY Y) (wC Y A S') t) (gF A 65 sz)) 0 0 (gF A 65 sz) := by
  refine gMet_i (cc := cX9_nights) (maxL := 4) (by decide +kernel) rfl (Nat.le_of_ble_eq_true rfl) (fun p e s m args below meth c Z H locs hx hb hml hts hown hK hP hS hret ls hl => ?_)
  have hown : s.vm.findClass RX9 = some m.cls := hown
  have hl : lv_has ls 4 [(0, .ref (A 0)), (1, .int a1)] := hl
  have hD : ∀ S0 : gS, va_D (gF A 65 s.heap.size) (wC Y A S0) := fun S0 => dC hI S0 (fun k hk => gF_in hk)
  have k0 : ∀ w ∈ u_ws RX9 TX9 15, w ∈ wsX9_nights := by decide +kernel
  have k1 := hts (.fieldLink RX9 60 "CoastWatch" "lots" "LCoastWatch$Lots;") (by decide +kernel)
  have k2 : ∀ w ∈ u_ws RX5 TX5 7, w ∈ wsX9_nights := by decide +kernel
  have k3 := hts (.fieldLink RX9 185 "CoastWatch$Lots" "size" "I") (by decide +kernel)
  have k4 := hts (.fieldLink RX9 7 "CoastWatch" "night" "I") (by decide +kernel)
  have tL41 : ∀ (v2 : Int32) (v3 : Int32) (S : gS), lp (qX9_nights_L41 a1 Q) (v2, v3, S) → ∀ (H : Heap) (locs : List Loc) (ls : Array Slot), va_P D vwCl (wC Y A S) H → va_S (gF A 65 s.heap.size) s.heap H locs → lv_has ls 4 [(0, .ref (A 0)), (1, .int a1), (2, .int v2), (3, .int v3)] → W p l e rmX9_nights s m args below meth c H locs 0 0 Z (F0 m 41 ls []) := by
    intro  v2 v3 S h
    refine lp_walk (G := fun a => match a with | (v2, v3, S) => ∀ (H : Heap) (locs : List Loc) (ls : Array Slot), va_P D vwCl (wC Y A S) H → va_S (gF A 65 s.heap.size) s.heap H locs → lv_has ls 4 [(0, .ref (A 0)), (1, .int a1), (2, .int v2), (3, .int v3)] → W p l e rmX9_nights s m args below meth c H locs 0 0 Z (F0 m 41 ls [])) (fun K41 a ih41 h => ?_) (v2, v3, S) h
    obtain ⟨v2, v3, S⟩ := a
    have ih41 : ∀ (v2 : Int32) (v3 : Int32) (S : gS), K41 (v2, v3, S) → ∀ (H : Heap) (locs : List Loc) (ls : Array Slot), va_P D vwCl (wC Y A S) H → va_S (gF A 65 s.heap.size) s.heap H locs → lv_has ls 4 [(0, .ref (A 0)), (1, .int a1), (2, .int v2), (3, .int v3)] → W p l e rmX9_nights s m args below meth c H locs 0 0 Z (F0 m 41 ls []) := fun v2 v3 S q => ih41 (v2, v3, S) q
    intro H locs ls hP hS hl
    refine lv_iload_n hx hb dX9_nights_41 rfl (lv_at hl 3 rfl) ?_
    refine lv_iload_n hx hb dX9_nights_42 rfl (lv_at hl 1 rfl) ?_
    refine lv_icmp_ge (tgt := 56) hx hb dX9_nights_43 (by decide) (fun c1 => ?_) (fun c1 => ?_)
    · have h := h.1 c1
      refine lv_aload_n hx hb dX9_nights_56 rfl (lv_at hl 0 rfl) ?_
      refine va_get (ci := 9) (v := .ref (A 5)) (C := RX9) (T := TX9) (N := 15) hx hb hts k0 hown hK hP 0 (aC0 Y A S) rfl 10 (by decide) k1 (fun _ h9 => h9) rfl dX9_nights_57 ?_
      refine va_get (ci := 5) (v := .int (gi S 6)) (C := RX5) (T := TX5) (N := 7) hx hb hts k2 hown hK hP 5 (aC5 Y A S) rfl 0 (by decide) k3 (fun _ h9 => h9) rfl dX9_nights_60 ?_
      refine lv_iload_n hx hb dX9_nights_63 rfl (lv_at hl 2 rfl) ?_
      refine lv_isub hx hb dX9_nights_64 ?_
      exact hret _ _ _ _ _ _ dX9_nights_65 h hP hS
    · have h := h.2 c1
      refine lv_aload_n hx hb dX9_nights_46 rfl (lv_at hl 0 rfl) ?_
      refine gVv (As := []) (rest := []) ⟨hx, hb, hml, hown, hts⟩ (kX9_passNight l D Y A hI H.size S  _ h) (cwV 0 hts gX9_nights_X9_passNight rfl rfl rfl (by decide +kernel) ⟨Nat.le_of_ble_eq_true rfl, Nat.le_of_ble_eq_true rfl⟩) hK hP hS (gF_le hS.1) (aC0 Y A S) (show vwCl[9]? = some (RX9, TX9, 15) from rfl) rfl rfl hl.1 (Nat.le_of_ble_eq_true rfl) dX9_nights_47 ⟨Nat.zero_le _, Nat.zero_le _⟩ ?_
      intro S2 H locs h hP hS
      obtain ⟨x3, ex3⟩ : ∃ z : Int32, z = v3 + (1 : Int32) := ⟨_, rfl⟩
      have h := h x3 ex3
      refine lv_iinc (v := x3) (lv' := [(3, .int x3), (0, .ref (A 0)), (1, .int a1), (2, .int v2)]) hx hb dX9_nights_50 hl (k := 3) rfl (by rw [ex3]; rfl) (by decide) rfl (fun ls hl => ?_)
      refine lv_goto (tgt := 41) hx hb dX9_nights_53 (by decide) ?_
      exact ih41 v2 x3 S2 h _ _ _ hP hS (lv_sub hl [1, 2, 3, 0] rfl)
  refine lv_iload_n hx hb dX9_nights_0 rfl (lv_at hl 1 rfl) ?_
  refine lv_iconst (v := (1 : Int32)) hx hb dX9_nights_1 (by decide) ?_
  refine lv_icmp_ge (tgt := 12) hx hb dX9_nights_2 (by decide) (fun c4 => ?_) (fun c4 => ?_)
  · have h := h.1 c4
    refine lv_iload_n hx hb dX9_nights_12 rfl (lv_at hl 1 rfl) ?_
    refine lv_sipush (v := (1000 : Int32)) hx hb dX9_nights_13 (by decide) ?_
    refine lv_aload_n hx hb dX9_nights_16 rfl (lv_at hl 0 rfl) ?_
    refine va_get (ci := 9) (v := .int (gi S 0)) (C := RX9) (T := TX9) (N := 15) hx hb hts k0 hown hK hP 0 (aC0 Y A S) rfl 0 (by decide) k4 (fun _ h9 => h9) rfl dX9_nights_17 ?_
    refine lv_isub hx hb dX9_nights_20 ?_
    refine lv_icmp_le (tgt := 31) hx hb dX9_nights_21 (by decide) (fun c5 => ?_) (fun c5 => ?_)
    · have h := h.1 c5
      refine lv_aload_n hx hb dX9_nights_31 rfl (lv_at hl 0 rfl) ?_
      refine va_get (ci := 9) (v := .ref (A 5)) (C := RX9) (T := TX9) (N := 15) hx hb hts k0 hown hK hP 0 (aC0 Y A S) rfl 10 (by decide) k1 (fun _ h9 => h9) rfl dX9_nights_32 ?_
      refine va_get (ci := 5) (v := .int (gi S 6)) (C := RX5) (T := TX5) (N := 7) hx hb hts k2 hown hK hP 5 (aC5 Y A S) rfl 0 (by decide) k3 (fun _ h9 => h9) rfl dX9_nights_35 ?_
      refine lv_topi (fun x6 ex6 => ?_)
      have h := h x6 ex6
      refine lv_istore_n (lv' := [(2, .int x6), (0, .ref (A 0)), (1, .int a1)]) hx hb dX9_nights_38 rfl hl (by decide) rfl (fun ls hl => ?_)
      refine lv_iconst (v := (0 : Int32)) hx hb dX9_nights_39 (by decide) ?_
      refine lv_istore_n (lv' := [(3, .int (0 : Int32)), (2, .int x6), (0, .ref (A 0)), (1, .int a1)]) hx hb dX9_nights_40 rfl hl (by decide) rfl (fun ls hl => ?_)
      exact tL41  x6 (0 : Int32) S h _ _ _ hP hS (lv_sub hl [2, 3, 1, 0] rfl)
    · have h := h.2 c5
      refine lv_aload_n hx hb dX9_nights_24 rfl (lv_at hl 0 rfl) ?_
      refine lv_bipush (v := (-6 : Int32)) hx hb dX9_nights_25 (by decide) ?_
      refine gVi (As := [.int (-6 : Int32)]) (rest := []) ⟨hx, hb, hml, hown, hts⟩ (kX9_refuse l D Y A hI H.size S (-6 : Int32) _ h) (cwV 1 hts gX9_nights_X9_refuse rfl rfl rfl (by decide +kernel) ⟨Nat.le_of_ble_eq_true rfl, Nat.le_of_ble_eq_true rfl⟩) hK hP hS (gF_le hS.1) (aC0 Y A S) (show vwCl[9]? = some (RX9, TX9, 15) from rfl) rfl rfl hl.1 (Nat.le_of_ble_eq_true rfl) dX9_nights_27 ⟨Nat.zero_le _, Nat.zero_le _⟩ ?_
      intro r8 S7 H locs h hP hS
      exact hret _ _ _ _ _ _ dX9_nights_30 h hP hS
  · have h := h.2 c4
    refine lv_aload_n hx hb dX9_nights_5 rfl (lv_at hl 0 rfl) ?_
    refine lv_bipush (v := (-4 : Int32)) hx hb dX9_nights_6 (by decide) ?_
    refine gVi (As := [.int (-4 : Int32)]) (rest := []) ⟨hx, hb, hml, hown, hts⟩ (kX9_refuse l D Y A hI H.size S (-4 : Int32) _ h) (cwV 1 hts gX9_nights_X9_refuse rfl rfl rfl (by decide +kernel) ⟨Nat.le_of_ble_eq_true rfl, Nat.le_of_ble_eq_true rfl⟩) hK hP hS (gF_le hS.1) (aC0 Y A S) (show vwCl[9]? = some (RX9, TX9, 15) from rfl) rfl rfl hl.1 (Nat.le_of_ble_eq_true rfl) dX9_nights_8 ⟨Nat.zero_le _, Nat.zero_le _⟩ ?_
    intro r10 S9 H locs h hP hS
    exact hret _ _ _ _ _ _ dX9_nights_11 h hP hS

def qX9_isHide (S : gS) (a1 : Int32) (Q : Int32 → gS → Prop) : Prop :=
  (a1 < 0 → (Q (0 : Int32) S)) ∧ (¬ a1 < 0 → (((gi S 5) ≤ a1 → (Q (0 : Int32) S)) ∧ (¬ (gi S 5) ≤ a1 → (Q (1 : Int32) S))))
abbrev rmX9_isHide : Room := { frames := 0, cells := 0, slots := 0, locals := 0 }
set_option maxHeartbeats 4000000 in
set_option maxRecDepth 100000 in
theorem kX9_isHide (l : Launch) (D : va_G) (Y : Nat → ClassId) (A : Nat → Nat) (hI : iC A) (sz : Nat) (S : gS) (a1 : Int32) (Q : Int32 → gS → Prop) (h : qX9_isHide S a1 Q) : Met l yX9_isHide wsX9_isHide rmX9_isHide (gPc [.ref (A 0), .int a1] sz D vwCl (tY Y) (wC Y A S)) (va_Qi Q (fun S' t => gH D vwCl (tY Y) (wC Y A S') t) (gF A 65 sz)) 0 0 (gF A 65 sz) := by
  refine gMet_z (cc := cX9_isHide) (maxL := 2) (by decide +kernel) rfl (Nat.le_of_ble_eq_true rfl) (fun p e s m args below meth c Z H locs hx hb hml hts hown hK hP hS hret ls hl => ?_)
  have hown : s.vm.findClass RX9 = some m.cls := hown
  have hl : lv_has ls 2 [(0, .ref (A 0)), (1, .int a1)] := hl
  have hD : ∀ S0 : gS, va_D (gF A 65 s.heap.size) (wC Y A S0) := fun S0 => dC hI S0 (fun k hk => gF_in hk)
  have k0 : ∀ w ∈ u_ws RX9 TX9 15, w ∈ wsX9_isHide := by decide +kernel
  have k1 := hts (.fieldLink RX9 53 "CoastWatch" "hides" "LCoastWatch$Hides;") (by decide +kernel)
  have k2 : ∀ w ∈ u_ws RX3 TX3 7, w ∈ wsX9_isHide := by decide +kernel
  have k3 := hts (.fieldLink RX9 161 "CoastWatch$Hides" "size" "I") (by decide +kernel)
  refine lv_iload_n hx hb dX9_isHide_0 rfl (lv_at hl 1 rfl) ?_
  refine lv_if_lt (tgt := 19) hx hb dX9_isHide_1 (by decide) (fun c1 => ?_) (fun c1 => ?_)
  · have h := h.1 c1
    refine lv_iconst (v := (0 : Int32)) hx hb dX9_isHide_19 (by decide) ?_
    exact hret _ _ _ _ _ _ dX9_isHide_20 rfl h hP hS
  · have h := h.2 c1
    refine lv_iload_n hx hb dX9_isHide_4 rfl (lv_at hl 1 rfl) ?_
    refine lv_aload_n hx hb dX9_isHide_5 rfl (lv_at hl 0 rfl) ?_
    refine va_get (ci := 9) (v := .ref (A 4)) (C := RX9) (T := TX9) (N := 15) hx hb hts k0 hown hK hP 0 (aC0 Y A S) rfl 9 (by decide) k1 (fun _ h9 => h9) rfl dX9_isHide_6 ?_
    refine va_get (ci := 3) (v := .int (gi S 5)) (C := RX3) (T := TX3) (N := 7) hx hb hts k2 hown hK hP 4 (aC4 Y A S) rfl 0 (by decide) k3 (fun _ h9 => h9) rfl dX9_isHide_9 ?_
    refine lv_icmp_ge (tgt := 19) hx hb dX9_isHide_12 (by decide) (fun c2 => ?_) (fun c2 => ?_)
    · have h := h.1 c2
      refine lv_iconst (v := (0 : Int32)) hx hb dX9_isHide_19 (by decide) ?_
      exact hret _ _ _ _ _ _ dX9_isHide_20 rfl h hP hS
    · have h := h.2 c2
      refine lv_iconst (v := (1 : Int32)) hx hb dX9_isHide_15 (by decide) ?_
      refine lv_goto (tgt := 20) hx hb dX9_isHide_16 (by decide) ?_
      exact hret _ _ _ _ _ _ dX9_isHide_20 rfl h hP hS

def qX9_search_L18 (a1 : Int32) (Q : Int32 → gS → Prop) (K18 : Int32 × Int32 × gS → Prop) : Int32 × Int32 × gS → Prop := fun ⟨v2, v3, S⟩ =>
  ((gi S 6) ≤ v3 → (vp_in a1 12 ∧ (∀ S2 : gS, S2 = sA S 33 (upd (ga S 33) a1.toNatClampNeg (0 : Int32)) → (∀ S4 : gS, S4 = sA S2 32 (upd (ga S2 32) a1.toNatClampNeg ((ga S2 32 a1.toNatClampNeg) / (2 : Int32))) → (Q v2 S4))))) ∧ (¬ (gi S 6) ≤ v3 → (qX5_liesIn S v3 a1 (fun r6 S5 => (r6 = 0 → (∀ x8 : Int32, x8 = v3 + (1 : Int32) → (K18 (v2, x8, S5)))) ∧ (¬ r6 = 0 → (vp_in v3 100 ∧ (∀ S9 : gS, S9 = sA S5 38 (upd (ga S5 38) v3.toNatClampNeg (2 : Int32)) → (∀ x11 : Int32, x11 = (v2 + (ga S9 35 v3.toNatClampNeg)) → (qX9_partSeized S9 (ga S9 35 v3.toNatClampNeg) (-1 : Int32) (fun S12 => ∀ x13 : Int32, x13 = v3 + (1 : Int32) → (K18 (x11, x13, S12)))))))))))
def qX9_search (S : gS) (a1 : Int32) (Q : Int32 → gS → Prop) : Prop :=
  qX9_isHide S a1 (fun r15 S14 => (r15 = 0 → (qX9_refuse S14 (-1 : Int32) (fun r18 S17 => Q r18 S17))) ∧ (¬ r15 = 0 → (lp (qX9_search_L18 a1 Q) ((0 : Int32), (0 : Int32), S14))))
abbrev rmX9_search : Room := { frames := 2, cells := 0, slots := 0, locals := 49 }
set_option maxHeartbeats 4000000 in
set_option maxRecDepth 100000 in
theorem kX9_search (l : Launch) (D : va_G) (Y : Nat → ClassId) (A : Nat → Nat) (hI : iC A) (sz : Nat) (S : gS) (a1 : Int32) (Q : Int32 → gS → Prop) (h : qX9_search S a1 Q) : Met l yX9_search wsX9_search rmX9_search (gPc [.ref (A 0), .int a1] sz D vwCl (tY Y) (wC Y A S)) (va_Qi Q (fun S' t => gH D vwCl (tY Y) (wC Y A S') t) (gF A 65 sz)) 0 0 (gF A 65 sz) := by
  refine gMet_i (cc := cX9_search) (maxL := 4) (by decide +kernel) rfl (Nat.le_of_ble_eq_true rfl) (fun p e s m args below meth c Z H locs hx hb hml hts hown hK hP hS hret ls hl => ?_)
  have hown : s.vm.findClass RX9 = some m.cls := hown
  have hl : lv_has ls 4 [(0, .ref (A 0)), (1, .int a1)] := hl
  have hD : ∀ S0 : gS, va_D (gF A 65 s.heap.size) (wC Y A S0) := fun S0 => dC hI S0 (fun k hk => gF_in hk)
  have k0 : ∀ w ∈ u_ws RX9 TX9 15, w ∈ wsX9_search := by decide +kernel
  have k1 := hts (.fieldLink RX9 60 "CoastWatch" "lots" "LCoastWatch$Lots;") (by decide +kernel)
  have k2 : ∀ w ∈ u_ws RX5 TX5 7, w ∈ wsX9_search := by decide +kernel
  have k3 := hts (.fieldLink RX9 185 "CoastWatch$Lots" "size" "I") (by decide +kernel)
  have k4 := hts (.fieldLink RX9 53 "CoastWatch" "hides" "LCoastWatch$Hides;") (by decide +kernel)
  have k5 : ∀ w ∈ u_ws RX3 TX3 7, w ∈ wsX9_search := by decide +kernel
  have k6 := hts (.fieldLink RX9 203 "CoastWatch$Hides" "lying" "[I") (by decide +kernel)
  have k7 := hts (.fieldLink RX9 206 "CoastWatch$Hides" "guess" "[I") (by decide +kernel)
  have k8 := hts (.fieldLink RX9 196 "CoastWatch$Lots" "place" "[I") (by decide +kernel)
  have k9 := hts (.fieldLink RX9 199 "CoastWatch$Lots" "casks" "[I") (by decide +kernel)
  have tL18 : ∀ (v2 : Int32) (v3 : Int32) (S : gS), lp (qX9_search_L18 a1 Q) (v2, v3, S) → ∀ (H : Heap) (locs : List Loc) (ls : Array Slot), va_P D vwCl (wC Y A S) H → va_S (gF A 65 s.heap.size) s.heap H locs → lv_has ls 4 [(0, .ref (A 0)), (1, .int a1), (2, .int v2), (3, .int v3)] → W p l e rmX9_search s m args below meth c H locs 0 0 Z (F0 m 18 ls []) := by
    intro  v2 v3 S h
    refine lp_walk (G := fun a => match a with | (v2, v3, S) => ∀ (H : Heap) (locs : List Loc) (ls : Array Slot), va_P D vwCl (wC Y A S) H → va_S (gF A 65 s.heap.size) s.heap H locs → lv_has ls 4 [(0, .ref (A 0)), (1, .int a1), (2, .int v2), (3, .int v3)] → W p l e rmX9_search s m args below meth c H locs 0 0 Z (F0 m 18 ls [])) (fun K18 a ih18 h => ?_) (v2, v3, S) h
    obtain ⟨v2, v3, S⟩ := a
    have ih18 : ∀ (v2 : Int32) (v3 : Int32) (S : gS), K18 (v2, v3, S) → ∀ (H : Heap) (locs : List Loc) (ls : Array Slot), va_P D vwCl (wC Y A S) H → va_S (gF A 65 s.heap.size) s.heap H locs → lv_has ls 4 [(0, .ref (A 0)), (1, .int a1), (2, .int v2), (3, .int v3)] → W p l e rmX9_search s m args below meth c H locs 0 0 Z (F0 m 18 ls []) := fun v2 v3 S q => ih18 (v2, v3, S) q
    intro H locs ls hP hS hl
    refine lv_iload_n hx hb dX9_search_18 rfl (lv_at hl 3 rfl) ?_
    refine lv_aload_n hx hb dX9_search_19 rfl (lv_at hl 0 rfl) ?_
    refine va_get (ci := 9) (v := .ref (A 5)) (C := RX9) (T := TX9) (N := 15) hx hb hts k0 hown hK hP 0 (aC0 Y A S) rfl 10 (by decide) k1 (fun _ h9 => h9) rfl dX9_search_20 ?_
    refine va_get (ci := 5) (v := .int (gi S 6)) (C := RX5) (T := TX5) (N := 7) hx hb hts k2 hown hK hP 5 (aC5 Y A S) rfl 0 (by decide) k3 (fun _ h9 => h9) rfl dX9_search_23 ?_
    refine lv_icmp_ge (tgt := 83) hx hb dX9_search_26 (by decide) (fun c1 => ?_) (fun c1 => ?_)
    · have h := h.1 c1
      refine lv_aload_n hx hb dX9_search_83 rfl (lv_at hl 0 rfl) ?_
      refine va_get (ci := 9) (v := .ref (A 4)) (C := RX9) (T := TX9) (N := 15) hx hb hts k0 hown hK hP 0 (aC0 Y A S) rfl 9 (by decide) k4 (fun _ h9 => h9) rfl dX9_search_84 ?_
      refine va_get (ci := 3) (v := .ref (A 45)) (C := RX3) (T := TX3) (N := 7) hx hb hts k5 hown hK hP 4 (aC4 Y A S) rfl 5 (by decide) k6 (fun _ h9 => h9) rfl dX9_search_87 ?_
      refine lv_iload_n hx hb dX9_search_90 rfl (lv_at hl 1 rfl) ?_
      refine lv_iconst (v := (0 : Int32)) hx hb dX9_search_91 (by decide) ?_
      have v_3 := h.1
      have h := h.2
      obtain ⟨S2, eS2⟩ : ∃ z : gS, z = sA S 33 (upd (ga S 33) a1.toNatClampNeg (0 : Int32)) := ⟨_, rfl⟩
      refine va_iast hx hb hK hP (hD S) hS 45 0 (aC45 Y A S) rfl v_3 dX9_search_92 (fun H locs hP _ hS => ?_)
      have hP := uC45 eS2 hP
      have h := h S2 eS2
      refine lv_aload_n hx hb dX9_search_93 rfl (lv_at hl 0 rfl) ?_
      refine va_get (ci := 9) (v := .ref (A 4)) (C := RX9) (T := TX9) (N := 15) hx hb hts k0 hown hK hP 0 (aC0 Y A S2) rfl 9 (by decide) k4 (fun _ h9 => h9) rfl dX9_search_94 ?_
      refine va_get (ci := 3) (v := .ref (A 44)) (C := RX3) (T := TX3) (N := 7) hx hb hts k5 hown hK hP 4 (aC4 Y A S2) rfl 4 (by decide) k7 (fun _ h9 => h9) rfl dX9_search_97 ?_
      refine lv_iload_n hx hb dX9_search_100 rfl (lv_at hl 1 rfl) ?_
      refine lv_dup2_11 hx hb dX9_search_101 rfl rfl ?_
      refine va_iald hx hb hK hP 44 0 (aC44 Y A S2) rfl v_3 dX9_search_102 ?_
      refine lv_iconst (v := (2 : Int32)) hx hb dX9_search_103 (by decide) ?_
      refine lv_idiv hx hb dX9_search_104 (by decide) ?_
      obtain ⟨S4, eS4⟩ : ∃ z : gS, z = sA S2 32 (upd (ga S2 32) a1.toNatClampNeg ((ga S2 32 a1.toNatClampNeg) / (2 : Int32))) := ⟨_, rfl⟩
      refine va_iast hx hb hK hP (hD S2) hS 44 0 (aC44 Y A S2) rfl v_3 dX9_search_105 (fun H locs hP _ hS => ?_)
      have hP := uC44 eS4 hP
      have h := h S4 eS4
      refine lv_iload_n hx hb dX9_search_106 rfl (lv_at hl 2 rfl) ?_
      exact hret _ _ _ _ _ _ dX9_search_107 h hP hS
    · have h := h.2 c1
      refine lv_aload_n hx hb dX9_search_29 rfl (lv_at hl 0 rfl) ?_
      refine va_get (ci := 9) (v := .ref (A 5)) (C := RX9) (T := TX9) (N := 15) hx hb hts k0 hown hK hP 0 (aC0 Y A S) rfl 10 (by decide) k1 (fun _ h9 => h9) rfl dX9_search_30 ?_
      refine lv_iload_n hx hb dX9_search_33 rfl (lv_at hl 3 rfl) ?_
      refine lv_iload_n hx hb dX9_search_34 rfl (lv_at hl 1 rfl) ?_
      refine gVi (As := [.int v3, .int a1]) (rest := []) ⟨hx, hb, hml, hown, hts⟩ (kX5_liesIn l D Y A hI H.size S v3 a1 _ h) (cwV 2 hts gX9_search_X5_liesIn rfl rfl rfl (by decide +kernel) ⟨Nat.le_of_ble_eq_true rfl, Nat.le_of_ble_eq_true rfl⟩) hK hP hS (gF_le hS.1) (aC5 Y A S) (show vwCl[5]? = some (RX5, TX5, 7) from rfl) rfl rfl hl.1 (Nat.le_of_ble_eq_true rfl) dX9_search_35 ⟨Nat.zero_le _, Nat.zero_le _⟩ ?_
      intro r6 S5 H locs h hP hS
      refine lv_if_eq (tgt := 77) hx hb dX9_search_38 (by decide) (fun c7 => ?_) (fun c7 => ?_)
      · have h := h.1 c7
        obtain ⟨x8, ex8⟩ : ∃ z : Int32, z = v3 + (1 : Int32) := ⟨_, rfl⟩
        have h := h x8 ex8
        refine lv_iinc (v := x8) (lv' := [(3, .int x8), (0, .ref (A 0)), (1, .int a1), (2, .int v2)]) hx hb dX9_search_77 hl (k := 3) rfl (by rw [ex8]; rfl) (by decide) rfl (fun ls hl => ?_)
        refine lv_goto (tgt := 18) hx hb dX9_search_80 (by decide) ?_
        exact ih18 v2 x8 S5 h _ _ _ hP hS (lv_sub hl [1, 2, 3, 0] rfl)
      · have h := h.2 c7
        refine lv_aload_n hx hb dX9_search_41 rfl (lv_at hl 0 rfl) ?_
        refine va_get (ci := 9) (v := .ref (A 5)) (C := RX9) (T := TX9) (N := 15) hx hb hts k0 hown hK hP 0 (aC0 Y A S5) rfl 10 (by decide) k1 (fun _ h9 => h9) rfl dX9_search_42 ?_
        refine va_get (ci := 5) (v := .ref (A 51)) (C := RX5) (T := TX5) (N := 7) hx hb hts k2 hown hK hP 5 (aC5 Y A S5) rfl 5 (by decide) k8 (fun _ h9 => h9) rfl dX9_search_45 ?_
        refine lv_iload_n hx hb dX9_search_48 rfl (lv_at hl 3 rfl) ?_
        refine lv_iconst (v := (2 : Int32)) hx hb dX9_search_49 (by decide) ?_
        have v_10 := h.1
        have h := h.2
        obtain ⟨S9, eS9⟩ : ∃ z : gS, z = sA S5 38 (upd (ga S5 38) v3.toNatClampNeg (2 : Int32)) := ⟨_, rfl⟩
        refine va_iast hx hb hK hP (hD S5) hS 51 0 (aC51 Y A S5) rfl v_10 dX9_search_50 (fun H locs hP _ hS => ?_)
        have hP := uC51 eS9 hP
        have h := h S9 eS9
        refine lv_iload_n hx hb dX9_search_51 rfl (lv_at hl 2 rfl) ?_
        refine lv_aload_n hx hb dX9_search_52 rfl (lv_at hl 0 rfl) ?_
        refine va_get (ci := 9) (v := .ref (A 5)) (C := RX9) (T := TX9) (N := 15) hx hb hts k0 hown hK hP 0 (aC0 Y A S9) rfl 10 (by decide) k1 (fun _ h9 => h9) rfl dX9_search_53 ?_
        refine va_get (ci := 5) (v := .ref (A 48)) (C := RX5) (T := TX5) (N := 7) hx hb hts k2 hown hK hP 5 (aC5 Y A S9) rfl 2 (by decide) k9 (fun _ h9 => h9) rfl dX9_search_56 ?_
        refine lv_iload_n hx hb dX9_search_59 rfl (lv_at hl 3 rfl) ?_
        refine va_iald hx hb hK hP 48 0 (aC48 Y A S9) rfl v_10 dX9_search_60 ?_
        refine lv_iadd hx hb dX9_search_61 ?_
        refine lv_topi (fun x11 ex11 => ?_)
        have h := h x11 ex11
        refine lv_istore_n (lv' := [(2, .int x11), (0, .ref (A 0)), (1, .int a1), (3, .int v3)]) hx hb dX9_search_62 rfl hl (by decide) rfl (fun ls hl => ?_)
        refine lv_aload_n hx hb dX9_search_63 rfl (lv_at hl 1 rfl) ?_
        refine lv_aload_n hx hb dX9_search_64 rfl (lv_at hl 1 rfl) ?_
        refine va_get (ci := 9) (v := .ref (A 5)) (C := RX9) (T := TX9) (N := 15) hx hb hts k0 hown hK hP 0 (aC0 Y A S9) rfl 10 (by decide) k1 (fun _ h9 => h9) rfl dX9_search_65 ?_
        refine va_get (ci := 5) (v := .ref (A 48)) (C := RX5) (T := TX5) (N := 7) hx hb hts k2 hown hK hP 5 (aC5 Y A S9) rfl 2 (by decide) k9 (fun _ h9 => h9) rfl dX9_search_68 ?_
        refine lv_iload_n hx hb dX9_search_71 rfl (lv_at hl 3 rfl) ?_
        refine va_iald hx hb hK hP 48 0 (aC48 Y A S9) rfl v_10 dX9_search_72 ?_
        refine lv_iconst (v := (-1 : Int32)) hx hb dX9_search_73 (by decide) ?_
        refine gVv (As := [.int (ga S9 35 v3.toNatClampNeg), .int (-1 : Int32)]) (rest := []) ⟨hx, hb, hml, hown, hts⟩ (kX9_partSeized l D Y A hI H.size S9 (ga S9 35 v3.toNatClampNeg) (-1 : Int32) _ h) (cwV 2 hts gX9_search_X9_partSeized rfl rfl rfl (by decide +kernel) ⟨Nat.le_of_ble_eq_true rfl, Nat.le_of_ble_eq_true rfl⟩) hK hP hS (gF_le hS.1) (aC0 Y A S9) (show vwCl[9]? = some (RX9, TX9, 15) from rfl) rfl rfl hl.1 (Nat.le_of_ble_eq_true rfl) dX9_search_74 ⟨Nat.zero_le _, Nat.zero_le _⟩ ?_
        intro S12 H locs h hP hS
        obtain ⟨x13, ex13⟩ : ∃ z : Int32, z = v3 + (1 : Int32) := ⟨_, rfl⟩
        have h := h x13 ex13
        refine lv_iinc (v := x13) (lv' := [(3, .int x13), (2, .int x11), (0, .ref (A 0)), (1, .int a1)]) hx hb dX9_search_77 hl (k := 3) rfl (by rw [ex13]; rfl) (by decide) rfl (fun ls hl => ?_)
        refine lv_goto (tgt := 18) hx hb dX9_search_80 (by decide) ?_
        exact ih18 x11 x13 S12 h _ _ _ hP hS (lv_sub hl [2, 3, 1, 0] rfl)
  refine lv_aload_n hx hb dX9_search_0 rfl (lv_at hl 0 rfl) ?_
  refine lv_iload_n hx hb dX9_search_1 rfl (lv_at hl 1 rfl) ?_
  refine gVi (As := [.int a1]) (rest := []) ⟨hx, hb, hml, hown, hts⟩ (kX9_isHide l D Y A hI H.size S a1 _ h) (cwV 1 hts gX9_search_X9_isHide rfl rfl rfl (by decide +kernel) ⟨Nat.le_of_ble_eq_true rfl, Nat.le_of_ble_eq_true rfl⟩) hK hP hS (gF_le hS.1) (aC0 Y A S) (show vwCl[9]? = some (RX9, TX9, 15) from rfl) rfl rfl hl.1 (Nat.le_of_ble_eq_true rfl) dX9_search_2 ⟨Nat.zero_le _, Nat.zero_le _⟩ ?_
  intro r15 S14 H locs h hP hS
  refine lv_if_ne (tgt := 14) hx hb dX9_search_5 (by decide) (fun c16 => ?_) (fun c16 => ?_)
  · have h := h.2 c16
    refine lv_iconst (v := (0 : Int32)) hx hb dX9_search_14 (by decide) ?_
    refine lv_istore_n (lv' := [(2, .int (0 : Int32)), (0, .ref (A 0)), (1, .int a1)]) hx hb dX9_search_15 rfl hl (by decide) rfl (fun ls hl => ?_)
    refine lv_iconst (v := (0 : Int32)) hx hb dX9_search_16 (by decide) ?_
    refine lv_istore_n (lv' := [(3, .int (0 : Int32)), (2, .int (0 : Int32)), (0, .ref (A 0)), (1, .int a1)]) hx hb dX9_search_17 rfl hl (by decide) rfl (fun ls hl => ?_)
    exact tL18  (0 : Int32) (0 : Int32) S14 h _ _ _ hP hS (lv_sub hl [2, 3, 1, 0] rfl)
  · have h := h.1 c16
    refine lv_aload_n hx hb dX9_search_8 rfl (lv_at hl 0 rfl) ?_
    refine lv_iconst (v := (-1 : Int32)) hx hb dX9_search_9 (by decide) ?_
    refine gVi (As := [.int (-1 : Int32)]) (rest := []) ⟨hx, hb, hml, hown, hts⟩ (kX9_refuse l D Y A hI H.size S14 (-1 : Int32) _ h) (cwV 1 hts gX9_search_X9_refuse rfl rfl rfl (by decide +kernel) ⟨Nat.le_of_ble_eq_true rfl, Nat.le_of_ble_eq_true rfl⟩) hK hP hS (gF_le hS.1) (aC0 Y A S14) (show vwCl[9]? = some (RX9, TX9, 15) from rfl) rfl rfl hl.1 (Nat.le_of_ble_eq_true rfl) dX9_search_10 ⟨Nat.zero_le _, Nat.zero_le _⟩ ?_
    intro r18 S17 H locs h hP hS
    exact hret _ _ _ _ _ _ dX9_search_13 h hP hS

def qX9_best (S : gS) (a1 : Int32) (Q : Int32 → gS → Prop) : Prop :=
  (0 ≤ a1 → ((a1 ≤ (100 : Int32) → (qX3_bestSet S a1 (fun r4 S3 => Q r4 S3))) ∧ (¬ a1 ≤ (100 : Int32) → (qX9_refuse S (-6 : Int32) (fun r6 S5 => Q r6 S5))))) ∧ (¬ 0 ≤ a1 → (qX9_refuse S (-4 : Int32) (fun r8 S7 => Q r8 S7)))
abbrev rmX9_best : Room := { frames := 2, cells := 0, slots := 0, locals := 43 }
set_option maxHeartbeats 4000000 in
set_option maxRecDepth 100000 in
theorem kX9_best (l : Launch) (D : va_G) (Y : Nat → ClassId) (A : Nat → Nat) (hI : iC A) (sz : Nat) (S : gS) (a1 : Int32) (Q : Int32 → gS → Prop) (h : qX9_best S a1 Q) : Met l yX9_best wsX9_best rmX9_best (gPc [.ref (A 0), .int a1] sz D vwCl (tY Y) (wC Y A S)) (va_Qi Q (fun S' t => gH D vwCl (tY Y) (wC Y A S') t) (gF A 65 sz)) 0 0 (gF A 65 sz) := by
  refine gMet_i (cc := cX9_best) (maxL := 2) (by decide +kernel) rfl (Nat.le_of_ble_eq_true rfl) (fun p e s m args below meth c Z H locs hx hb hml hts hown hK hP hS hret ls hl => ?_)
  have hown : s.vm.findClass RX9 = some m.cls := hown
  have hl : lv_has ls 2 [(0, .ref (A 0)), (1, .int a1)] := hl
  have hD : ∀ S0 : gS, va_D (gF A 65 s.heap.size) (wC Y A S0) := fun S0 => dC hI S0 (fun k hk => gF_in hk)
  have k0 : ∀ w ∈ u_ws RX9 TX9 15, w ∈ wsX9_best := by decide +kernel
  have k1 := hts (.fieldLink RX9 53 "CoastWatch" "hides" "LCoastWatch$Hides;") (by decide +kernel)
  refine lv_iload_n hx hb dX9_best_0 rfl (lv_at hl 1 rfl) ?_
  refine lv_if_ge (tgt := 11) hx hb dX9_best_1 (by decide) (fun c1 => ?_) (fun c1 => ?_)
  · have h := h.1 c1
    refine lv_iload_n hx hb dX9_best_11 rfl (lv_at hl 1 rfl) ?_
    refine lv_bipush (v := (100 : Int32)) hx hb dX9_best_12 (by decide) ?_
    refine lv_icmp_le (tgt := 24) hx hb dX9_best_14 (by decide) (fun c2 => ?_) (fun c2 => ?_)
    · have h := h.1 c2
      refine lv_aload_n hx hb dX9_best_24 rfl (lv_at hl 0 rfl) ?_
      refine va_get (ci := 9) (v := .ref (A 4)) (C := RX9) (T := TX9) (N := 15) hx hb hts k0 hown hK hP 0 (aC0 Y A S) rfl 9 (by decide) k1 (fun _ h9 => h9) rfl dX9_best_25 ?_
      refine lv_iload_n hx hb dX9_best_28 rfl (lv_at hl 1 rfl) ?_
      refine gVi (As := [.int a1]) (rest := []) ⟨hx, hb, hml, hown, hts⟩ (kX3_bestSet l D Y A hI H.size S a1 _ h) (cwV 1 hts gX9_best_X3_bestSet rfl rfl rfl (by decide +kernel) ⟨Nat.le_of_ble_eq_true rfl, Nat.le_of_ble_eq_true rfl⟩) hK hP hS (gF_le hS.1) (aC4 Y A S) (show vwCl[3]? = some (RX3, TX3, 7) from rfl) rfl rfl hl.1 (Nat.le_of_ble_eq_true rfl) dX9_best_29 ⟨Nat.zero_le _, Nat.zero_le _⟩ ?_
      intro r4 S3 H locs h hP hS
      exact hret _ _ _ _ _ _ dX9_best_32 h hP hS
    · have h := h.2 c2
      refine lv_aload_n hx hb dX9_best_17 rfl (lv_at hl 0 rfl) ?_
      refine lv_bipush (v := (-6 : Int32)) hx hb dX9_best_18 (by decide) ?_
      refine gVi (As := [.int (-6 : Int32)]) (rest := []) ⟨hx, hb, hml, hown, hts⟩ (kX9_refuse l D Y A hI H.size S (-6 : Int32) _ h) (cwV 1 hts gX9_best_X9_refuse rfl rfl rfl (by decide +kernel) ⟨Nat.le_of_ble_eq_true rfl, Nat.le_of_ble_eq_true rfl⟩) hK hP hS (gF_le hS.1) (aC0 Y A S) (show vwCl[9]? = some (RX9, TX9, 15) from rfl) rfl rfl hl.1 (Nat.le_of_ble_eq_true rfl) dX9_best_20 ⟨Nat.zero_le _, Nat.zero_le _⟩ ?_
      intro r6 S5 H locs h hP hS
      exact hret _ _ _ _ _ _ dX9_best_23 h hP hS
  · have h := h.2 c1
    refine lv_aload_n hx hb dX9_best_4 rfl (lv_at hl 0 rfl) ?_
    refine lv_bipush (v := (-4 : Int32)) hx hb dX9_best_5 (by decide) ?_
    refine gVi (As := [.int (-4 : Int32)]) (rest := []) ⟨hx, hb, hml, hown, hts⟩ (kX9_refuse l D Y A hI H.size S (-4 : Int32) _ h) (cwV 1 hts gX9_best_X9_refuse rfl rfl rfl (by decide +kernel) ⟨Nat.le_of_ble_eq_true rfl, Nat.le_of_ble_eq_true rfl⟩) hK hP hS (gF_le hS.1) (aC0 Y A S) (show vwCl[9]? = some (RX9, TX9, 15) from rfl) rfl rfl hl.1 (Nat.le_of_ble_eq_true rfl) dX9_best_7 ⟨Nat.zero_le _, Nat.zero_le _⟩ ?_
    intro r8 S7 H locs h hP hS
    exact hret _ _ _ _ _ _ dX9_best_10 h hP hS

def qX9_isPart (S : gS) (a0 : Int32) (Q : Int32 → gS → Prop) : Prop :=
  (a0 = 0 → (Q (1 : Int32) S)) ∧ (¬ a0 = 0 → ((a0 = (1 : Int32) → (Q (1 : Int32) S)) ∧ (¬ a0 = (1 : Int32) → (Q (0 : Int32) S))))
abbrev rmX9_isPart : Room := { frames := 0, cells := 0, slots := 0, locals := 0 }
set_option maxHeartbeats 4000000 in
set_option maxRecDepth 100000 in
theorem kX9_isPart (l : Launch) (D : va_G) (Y : Nat → ClassId) (A : Nat → Nat) (hI : iC A) (sz : Nat) (S : gS) (a0 : Int32) (Q : Int32 → gS → Prop) (h : qX9_isPart S a0 Q) : Met l yX9_isPart wsX9_isPart rmX9_isPart (gPc [.int a0] sz D vwCl (tY Y) (wC Y A S)) (va_Qi Q (fun S' t => gH D vwCl (tY Y) (wC Y A S') t) (gF A 65 sz)) 0 0 (gF A 65 sz) := by
  refine gMet_z (cc := cX9_isPart) (maxL := 1) (by decide +kernel) rfl (Nat.le_of_ble_eq_true rfl) (fun p e s m args below meth c Z H locs hx hb hml hts hown hK hP hS hret ls hl => ?_)
  have hown : s.vm.findClass RX9 = some m.cls := hown
  have hl : lv_has ls 1 [(0, .int a0)] := hl
  have hD : ∀ S0 : gS, va_D (gF A 65 s.heap.size) (wC Y A S0) := fun S0 => dC hI S0 (fun k hk => gF_in hk)
  refine lv_iload_n hx hb dX9_isPart_0 rfl (lv_at hl 0 rfl) ?_
  refine lv_if_eq (tgt := 9) hx hb dX9_isPart_1 (by decide) (fun c1 => ?_) (fun c1 => ?_)
  · have h := h.1 c1
    refine lv_iconst (v := (1 : Int32)) hx hb dX9_isPart_9 (by decide) ?_
    refine lv_goto (tgt := 14) hx hb dX9_isPart_10 (by decide) ?_
    exact hret _ _ _ _ _ _ dX9_isPart_14 rfl h hP hS
  · have h := h.2 c1
    refine lv_iload_n hx hb dX9_isPart_4 rfl (lv_at hl 0 rfl) ?_
    refine lv_iconst (v := (1 : Int32)) hx hb dX9_isPart_5 (by decide) ?_
    refine lv_icmp_ne (tgt := 13) hx hb dX9_isPart_6 (by decide) (fun c2 => ?_) (fun c2 => ?_)
    · have h := h.2 c2
      refine lv_iconst (v := (0 : Int32)) hx hb dX9_isPart_13 (by decide) ?_
      exact hret _ _ _ _ _ _ dX9_isPart_14 rfl h hP hS
    · have h := h.1 c2
      refine lv_iconst (v := (1 : Int32)) hx hb dX9_isPart_9 (by decide) ?_
      refine lv_goto (tgt := 14) hx hb dX9_isPart_10 (by decide) ?_
      exact hret _ _ _ _ _ _ dX9_isPart_14 rfl h hP hS

def qX9_commonDivisor_L3 (Q : Int64 → gS → Prop) (K3 : Int64 × Int64 × Int32 × gS → Prop) : Int64 × Int64 × Int32 × gS → Prop := fun ⟨v0, v2, v4, S⟩ =>
  ((100 : Int32) ≤ v4 → (Q v0 S)) ∧ (¬ (100 : Int32) ≤ v4 → (((lg_cmp v2 (0 : Int64)) = 0 → (Q v0 S)) ∧ (¬ (lg_cmp v2 (0 : Int64)) = 0 → (¬ v2 = 0 ∧ (∀ x4 : Int64, x4 = (v0 - v0 / v2 * v2) → (∀ x5 : Int32, x5 = v4 + (1 : Int32) → (K3 (v2, x4, x5, S))))))))
def qX9_commonDivisor (S : gS) (a0 : Int64) (a2 : Int64) (Q : Int64 → gS → Prop) : Prop :=
  lp (qX9_commonDivisor_L3 Q) (a0, a2, (0 : Int32), S)
abbrev rmX9_commonDivisor : Room := { frames := 0, cells := 0, slots := 0, locals := 0 }
set_option maxHeartbeats 4000000 in
set_option maxRecDepth 100000 in
theorem kX9_commonDivisor (l : Launch) (D : va_G) (Y : Nat → ClassId) (A : Nat → Nat) (hI : iC A) (sz : Nat) (S : gS) (a0 : Int64) (a2 : Int64) (Q : Int64 → gS → Prop) (h : qX9_commonDivisor S a0 a2 Q) : Met l yX9_commonDivisor wsX9_commonDivisor rmX9_commonDivisor (gPc [.long a0, .long a2] sz D vwCl (tY Y) (wC Y A S)) (va_Ql Q (fun S' t => gH D vwCl (tY Y) (wC Y A S') t) (gF A 65 sz)) 0 0 (gF A 65 sz) := by
  refine gMet_l (cc := cX9_commonDivisor) (maxL := 7) (by decide +kernel) rfl (Nat.le_of_ble_eq_true rfl) (fun p e s m args below meth c Z H locs hx hb hml hts hown hK hP hS hret ls hl => ?_)
  have hown : s.vm.findClass RX9 = some m.cls := hown
  have hl : lv_has ls 7 [(0, .long a0), (2, .long a2)] := hl
  have hD : ∀ S0 : gS, va_D (gF A 65 s.heap.size) (wC Y A S0) := fun S0 => dC hI S0 (fun k hk => gF_in hk)
  have tL3 : ∀ (v0 : Int64) (v2 : Int64) (v4 : Int32) (S : gS), lp (qX9_commonDivisor_L3 Q) (v0, v2, v4, S) → ∀ (H : Heap) (locs : List Loc) (ls : Array Slot), va_P D vwCl (wC Y A S) H → va_S (gF A 65 s.heap.size) s.heap H locs → lv_has ls 7 [(0, .long v0), (2, .long v2), (4, .int v4)] → W p l e rmX9_commonDivisor s m args below meth c H locs 0 0 Z (F0 m 3 ls []) := by
    intro  v0 v2 v4 S h
    refine lp_walk (G := fun a => match a with | (v0, v2, v4, S) => ∀ (H : Heap) (locs : List Loc) (ls : Array Slot), va_P D vwCl (wC Y A S) H → va_S (gF A 65 s.heap.size) s.heap H locs → lv_has ls 7 [(0, .long v0), (2, .long v2), (4, .int v4)] → W p l e rmX9_commonDivisor s m args below meth c H locs 0 0 Z (F0 m 3 ls [])) (fun K3 a ih3 h => ?_) (v0, v2, v4, S) h
    obtain ⟨v0, v2, v4, S⟩ := a
    have ih3 : ∀ (v0 : Int64) (v2 : Int64) (v4 : Int32) (S : gS), K3 (v0, v2, v4, S) → ∀ (H : Heap) (locs : List Loc) (ls : Array Slot), va_P D vwCl (wC Y A S) H → va_S (gF A 65 s.heap.size) s.heap H locs → lv_has ls 7 [(0, .long v0), (2, .long v2), (4, .int v4)] → W p l e rmX9_commonDivisor s m args below meth c H locs 0 0 Z (F0 m 3 ls []) := fun v0 v2 v4 S q => ih3 (v0, v2, v4, S) q
    intro H locs ls hP hS hl
    refine lv_iload hx hb dX9_commonDivisor_3 (lv_at hl 2 rfl) ?_
    refine lv_bipush (v := (100 : Int32)) hx hb dX9_commonDivisor_5 (by decide) ?_
    refine lv_icmp_ge (tgt := 32) hx hb dX9_commonDivisor_7 (by decide) (fun c1 => ?_) (fun c1 => ?_)
    · have h := h.1 c1
      refine lv_lload_n hx hb dX9_commonDivisor_32 rfl (lv_at hl 0 rfl) ?_
      exact hret _ _ _ _ _ _ dX9_commonDivisor_33 h hP hS
    · have h := h.2 c1
      refine lv_lload_n hx hb dX9_commonDivisor_10 rfl (lv_at hl 1 rfl) ?_
      refine lv_lconst (v := (0 : Int64)) hx hb dX9_commonDivisor_11 (by decide) ?_
      refine W.lcmp hx hb dX9_commonDivisor_12 ?_
      refine lv_if_eq (tgt := 32) hx hb dX9_commonDivisor_13 (by decide) (fun c2 => ?_) (fun c2 => ?_)
      · have h := h.1 c2
        refine lv_lload_n hx hb dX9_commonDivisor_32 rfl (lv_at hl 0 rfl) ?_
        exact hret _ _ _ _ _ _ dX9_commonDivisor_33 h hP hS
      · have h := h.2 c2
        refine lv_lload_n hx hb dX9_commonDivisor_16 rfl (lv_at hl 0 rfl) ?_
        refine lv_lload_n hx hb dX9_commonDivisor_17 rfl (lv_at hl 1 rfl) ?_
        have n_3 := h.1
        have h := h.2
        refine lv_lrem hx hb dX9_commonDivisor_18 n_3 ?_
        refine lv_topl (fun x4 ex4 => ?_)
        have h := h x4 ex4
        refine lv_lstore (lv' := [(5, .long x4), (0, .long v0), (2, .long v2), (4, .int v4)]) hx hb dX9_commonDivisor_19 hl (by decide) rfl (fun ls hl => ?_)
        refine lv_lload_n hx hb dX9_commonDivisor_21 rfl (lv_at hl 2 rfl) ?_
        refine lv_lstore_n (lv' := [(0, .long v2), (5, .long x4), (2, .long v2), (4, .int v4)]) hx hb dX9_commonDivisor_22 rfl hl (by decide) rfl (fun ls hl => ?_)
        refine lv_lload hx hb dX9_commonDivisor_23 (lv_at hl 1 rfl) ?_
        refine lv_lstore_n (lv' := [(2, .long x4), (0, .long v2), (5, .long x4), (4, .int v4)]) hx hb dX9_commonDivisor_25 rfl hl (by decide) rfl (fun ls hl => ?_)
        obtain ⟨x5, ex5⟩ : ∃ z : Int32, z = v4 + (1 : Int32) := ⟨_, rfl⟩
        have h := h x5 ex5
        refine lv_iinc (v := x5) (lv' := [(4, .int x5), (2, .long x4), (0, .long v2), (5, .long x4)]) hx hb dX9_commonDivisor_26 hl (k := 3) rfl (by rw [ex5]; rfl) (by decide) rfl (fun ls hl => ?_)
        refine lv_goto (tgt := 3) hx hb dX9_commonDivisor_29 (by decide) ?_
        exact ih3 v2 x4 x5 S h _ _ _ hP hS (lv_sub hl [2, 1, 0] rfl)
  refine lv_iconst (v := (0 : Int32)) hx hb dX9_commonDivisor_0 (by decide) ?_
  refine lv_istore (lv' := [(4, .int (0 : Int32)), (0, .long a0), (2, .long a2)]) hx hb dX9_commonDivisor_1 hl (by decide) rfl (fun ls hl => ?_)
  exact tL3  a0 a2 (0 : Int32) S h _ _ _ hP hS (lv_sub hl [1, 2, 0] rfl)

def qX9_lowest_J12 (a0 : Int64) (a2 : Int64) (a4 : Int32) (Q : Int64 → gS → Prop) : Int64 × gS → Prop := fun ⟨s0, S⟩ =>
  qX9_commonDivisor S s0 a2 (fun r2 S1 => (0 < (lg_cmp r2 (0 : Int64)) → ((a4 = 0 → (¬ r2 = 0 ∧ (Q (a0 / r2) S1))) ∧ (¬ a4 = 0 → (¬ r2 = 0 ∧ (Q (a2 / r2) S1))))) ∧ (¬ 0 < (lg_cmp r2 (0 : Int64)) → (Q (0 : Int64) S1)))
def qX9_lowest (S : gS) (a0 : Int64) (a2 : Int64) (a4 : Int32) (Q : Int64 → gS → Prop) : Prop :=
  (0 ≤ (lg_cmp a0 (0 : Int64)) → (qX9_lowest_J12 a0 a2 a4 Q (a0, S))) ∧ (¬ 0 ≤ (lg_cmp a0 (0 : Int64)) → (qX9_lowest_J12 a0 a2 a4 Q ((-a0), S)))
abbrev rmX9_lowest : Room := { frames := 1, cells := 0, slots := 0, locals := 26 }
set_option maxHeartbeats 4000000 in
set_option maxRecDepth 100000 in
theorem kX9_lowest (l : Launch) (D : va_G) (Y : Nat → ClassId) (A : Nat → Nat) (hI : iC A) (sz : Nat) (S : gS) (a0 : Int64) (a2 : Int64) (a4 : Int32) (Q : Int64 → gS → Prop) (h : qX9_lowest S a0 a2 a4 Q) : Met l yX9_lowest wsX9_lowest rmX9_lowest (gPc [.long a0, .long a2, .int a4] sz D vwCl (tY Y) (wC Y A S)) (va_Ql Q (fun S' t => gH D vwCl (tY Y) (wC Y A S') t) (gF A 65 sz)) 0 0 (gF A 65 sz) := by
  refine gMet_l (cc := cX9_lowest) (maxL := 7) (by decide +kernel) rfl (Nat.le_of_ble_eq_true rfl) (fun p e s m args below meth c Z H locs hx hb hml hts hown hK hP hS hret ls hl => ?_)
  have hown : s.vm.findClass RX9 = some m.cls := hown
  have hl : lv_has ls 7 [(0, .long a0), (2, .long a2), (4, .int a4)] := hl
  have hD : ∀ S0 : gS, va_D (gF A 65 s.heap.size) (wC Y A S0) := fun S0 => dC hI S0 (fun k hk => gF_in hk)
  have tJ12 : ∀ (s0 : Int64) (S : gS), qX9_lowest_J12 a0 a2 a4 Q (s0, S) → ∀ (H : Heap) (locs : List Loc) (ls : Array Slot), va_P D vwCl (wC Y A S) H → va_S (gF A 65 s.heap.size) s.heap H locs → lv_has ls 7 [(0, .long a0), (2, .long a2), (4, .int a4)] → W p l e rmX9_lowest s m args below meth c H locs 0 0 Z (F0 m 12 ls [.long s0]) := by
    intro  s0 S h
    intro H locs ls hP hS hl
    refine lv_lload_n hx hb dX9_lowest_12 rfl (lv_at hl 1 rfl) ?_
    refine gSl (As := [.long s0, .long a2]) (rest := []) ⟨hx, hb, hml, hown, hts⟩ (kX9_commonDivisor l D Y A hI H.size S s0 a2 _ h) (va_cwS 2 hts gX9_lowest_X9_commonDivisor rfl rfl rfl (by decide +kernel) ⟨Nat.le_of_ble_eq_true rfl, Nat.le_of_ble_eq_true rfl⟩) hK hP hS (gF_le hS.1) rfl rfl hl.1 (Nat.le_of_ble_eq_true rfl) dX9_lowest_13 ⟨Nat.zero_le _, Nat.zero_le _⟩ ?_
    intro r2 S1 H locs h hP hS
    refine lv_lstore (lv' := [(5, .long r2), (0, .long a0), (2, .long a2), (4, .int a4)]) hx hb dX9_lowest_16 hl (by decide) rfl (fun ls hl => ?_)
    refine lv_lload hx hb dX9_lowest_18 (lv_at hl 0 rfl) ?_
    refine lv_lconst (v := (0 : Int64)) hx hb dX9_lowest_20 (by decide) ?_
    refine W.lcmp hx hb dX9_lowest_21 ?_
    refine lv_if_gt (tgt := 27) hx hb dX9_lowest_22 (by decide) (fun c3 => ?_) (fun c3 => ?_)
    · have h := h.1 c3
      refine lv_iload hx hb dX9_lowest_27 (lv_at hl 3 rfl) ?_
      refine lv_if_ne (tgt := 36) hx hb dX9_lowest_29 (by decide) (fun c4 => ?_) (fun c4 => ?_)
      · have h := h.2 c4
        refine lv_lload_n hx hb dX9_lowest_36 rfl (lv_at hl 2 rfl) ?_
        refine lv_lload hx hb dX9_lowest_37 (lv_at hl 0 rfl) ?_
        have n_5 := h.1
        have h := h.2
        refine lv_ldiv hx hb dX9_lowest_39 n_5 ?_
        exact hret _ _ _ _ _ _ dX9_lowest_40 h hP hS
      · have h := h.1 c4
        refine lv_lload_n hx hb dX9_lowest_32 rfl (lv_at hl 1 rfl) ?_
        refine lv_goto (tgt := 37) hx hb dX9_lowest_33 (by decide) ?_
        refine lv_lload hx hb dX9_lowest_37 (lv_at hl 0 rfl) ?_
        have n_6 := h.1
        have h := h.2
        refine lv_ldiv hx hb dX9_lowest_39 n_6 ?_
        exact hret _ _ _ _ _ _ dX9_lowest_40 h hP hS
    · have h := h.2 c3
      refine lv_lconst (v := (0 : Int64)) hx hb dX9_lowest_25 (by decide) ?_
      exact hret _ _ _ _ _ _ dX9_lowest_26 h hP hS
  refine lv_lload_n hx hb dX9_lowest_0 rfl (lv_at hl 0 rfl) ?_
  refine lv_lconst (v := (0 : Int64)) hx hb dX9_lowest_1 (by decide) ?_
  refine W.lcmp hx hb dX9_lowest_2 ?_
  refine lv_if_ge (tgt := 11) hx hb dX9_lowest_3 (by decide) (fun c7 => ?_) (fun c7 => ?_)
  · have h := h.1 c7
    refine lv_lload_n hx hb dX9_lowest_11 rfl (lv_at hl 0 rfl) ?_
    exact tJ12  a0 S h _ _ _ hP hS (lv_sub hl [0, 1, 2] rfl)
  · have h := h.2 c7
    refine lv_lload_n hx hb dX9_lowest_6 rfl (lv_at hl 0 rfl) ?_
    refine lv_lneg hx hb dX9_lowest_7 ?_
    refine lv_goto (tgt := 12) hx hb dX9_lowest_8 (by decide) ?_
    exact tJ12  (-a0) S h _ _ _ hP hS (lv_sub hl [0, 1, 2] rfl)

def qX9_belief (S : gS) (a1 : Int32) (a2 : Int32) (a3 : Int32) (Q : Int64 → gS → Prop) : Prop :=
  qX9_isCove S a1 (fun r2 S1 => (r2 = 0 → (qX9_refuse S1 (-1 : Int32) (fun r22 S21 => Q r22.toInt64 S21))) ∧ (¬ r2 = 0 → ((0 ≤ a2 → ((a2 ≤ (1000 : Int32) → (qX9_isPart S1 a3 (fun r7 S6 => (r7 = 0 → (qX9_refuse S6 (-2 : Int32) (fun r16 S15 => Q r16.toInt64 S15))) ∧ (¬ r7 = 0 → (qX8_doubtAbove S6 a2 a1 (fun r10 S9 => qX8_doubtBelow S9 a2 a1 (fun r12 S11 => qX9_lowest S11 (r12 - r10) r12 a3 (fun r14 S13 => Q r14 S13)))))))) ∧ (¬ a2 ≤ (1000 : Int32) → (qX9_refuse S1 (-6 : Int32) (fun r18 S17 => Q r18.toInt64 S17))))) ∧ (¬ 0 ≤ a2 → (qX9_refuse S1 (-4 : Int32) (fun r20 S19 => Q r20.toInt64 S19))))))
abbrev rmX9_belief : Room := { frames := 2, cells := 0, slots := 0, locals := 52 }
set_option maxHeartbeats 4000000 in
set_option maxRecDepth 100000 in
theorem kX9_belief (l : Launch) (D : va_G) (Y : Nat → ClassId) (A : Nat → Nat) (hI : iC A) (sz : Nat) (S : gS) (a1 : Int32) (a2 : Int32) (a3 : Int32) (Q : Int64 → gS → Prop) (h : qX9_belief S a1 a2 a3 Q) : Met l yX9_belief wsX9_belief rmX9_belief (gPc [.ref (A 0), .int a1, .int a2, .int a3] sz D vwCl (tY Y) (wC Y A S)) (va_Ql Q (fun S' t => gH D vwCl (tY Y) (wC Y A S') t) (gF A 65 sz)) 0 0 (gF A 65 sz) := by
  refine gMet_l (cc := cX9_belief) (maxL := 8) (by decide +kernel) rfl (Nat.le_of_ble_eq_true rfl) (fun p e s m args below meth c Z H locs hx hb hml hts hown hK hP hS hret ls hl => ?_)
  have hown : s.vm.findClass RX9 = some m.cls := hown
  have hl : lv_has ls 8 [(0, .ref (A 0)), (1, .int a1), (2, .int a2), (3, .int a3)] := hl
  have hD : ∀ S0 : gS, va_D (gF A 65 s.heap.size) (wC Y A S0) := fun S0 => dC hI S0 (fun k hk => gF_in hk)
  have k0 : ∀ w ∈ u_ws RX9 TX9 15, w ∈ wsX9_belief := by decide +kernel
  have k1 := hts (.fieldLink RX9 74 "CoastWatch" "words" "LCoastWatch$Words;") (by decide +kernel)
  refine lv_iload_n hx hb dX9_belief_0 rfl (lv_at hl 1 rfl) ?_
  refine gSi (As := [.int a1]) (rest := []) ⟨hx, hb, hml, hown, hts⟩ (kX9_isCove l D Y A hI H.size S a1 _ h) (va_cwS 1 hts gX9_belief_X9_isCove rfl rfl rfl (by decide +kernel) ⟨Nat.le_of_ble_eq_true rfl, Nat.le_of_ble_eq_true rfl⟩) hK hP hS (gF_le hS.1) rfl rfl hl.1 (Nat.le_of_ble_eq_true rfl) dX9_belief_1 ⟨Nat.zero_le _, Nat.zero_le _⟩ ?_
  intro r2 S1 H locs h hP hS
  refine lv_if_ne (tgt := 14) hx hb dX9_belief_4 (by decide) (fun c3 => ?_) (fun c3 => ?_)
  · have h := h.2 c3
    refine lv_iload_n hx hb dX9_belief_14 rfl (lv_at hl 2 rfl) ?_
    refine lv_if_ge (tgt := 26) hx hb dX9_belief_15 (by decide) (fun c4 => ?_) (fun c4 => ?_)
    · have h := h.1 c4
      refine lv_iload_n hx hb dX9_belief_26 rfl (lv_at hl 2 rfl) ?_
      refine lv_sipush (v := (1000 : Int32)) hx hb dX9_belief_27 (by decide) ?_
      refine lv_icmp_le (tgt := 41) hx hb dX9_belief_30 (by decide) (fun c5 => ?_) (fun c5 => ?_)
      · have h := h.1 c5
        refine lv_iload_n hx hb dX9_belief_41 rfl (lv_at hl 3 rfl) ?_
        refine gSi (As := [.int a3]) (rest := []) ⟨hx, hb, hml, hown, hts⟩ (kX9_isPart l D Y A hI H.size S1 a3 _ h) (va_cwS 1 hts gX9_belief_X9_isPart rfl rfl rfl (by decide +kernel) ⟨Nat.le_of_ble_eq_true rfl, Nat.le_of_ble_eq_true rfl⟩) hK hP hS (gF_le hS.1) rfl rfl hl.1 (Nat.le_of_ble_eq_true rfl) dX9_belief_42 ⟨Nat.zero_le _, Nat.zero_le _⟩ ?_
        intro r7 S6 H locs h hP hS
        refine lv_if_ne (tgt := 56) hx hb dX9_belief_45 (by decide) (fun c8 => ?_) (fun c8 => ?_)
        · have h := h.2 c8
          refine lv_aload_n hx hb dX9_belief_56 rfl (lv_at hl 0 rfl) ?_
          refine va_get (ci := 9) (v := .ref (A 7)) (C := RX9) (T := TX9) (N := 15) hx hb hts k0 hown hK hP 0 (aC0 Y A S6) rfl 12 (by decide) k1 (fun _ h9 => h9) rfl dX9_belief_57 ?_
          refine lv_iload_n hx hb dX9_belief_60 rfl (lv_at hl 2 rfl) ?_
          refine lv_iload_n hx hb dX9_belief_61 rfl (lv_at hl 1 rfl) ?_
          refine gVl (As := [.int a2, .int a1]) (rest := []) ⟨hx, hb, hml, hown, hts⟩ (kX8_doubtAbove l D Y A hI H.size S6 a2 a1 _ h) (cwV 2 hts gX9_belief_X8_doubtAbove rfl rfl rfl (by decide +kernel) ⟨Nat.le_of_ble_eq_true rfl, Nat.le_of_ble_eq_true rfl⟩) hK hP hS (gF_le hS.1) (aC7 Y A S6) (show vwCl[8]? = some (RX8, TX8, 6) from rfl) rfl rfl hl.1 (Nat.le_of_ble_eq_true rfl) dX9_belief_62 ⟨Nat.zero_le _, Nat.zero_le _⟩ ?_
          intro r10 S9 H locs h hP hS
          refine lv_lstore (lv' := [(4, .long r10), (0, .ref (A 0)), (1, .int a1), (2, .int a2), (3, .int a3)]) hx hb dX9_belief_65 hl (by decide) rfl (fun ls hl => ?_)
          refine lv_aload_n hx hb dX9_belief_67 rfl (lv_at hl 1 rfl) ?_
          refine va_get (ci := 9) (v := .ref (A 7)) (C := RX9) (T := TX9) (N := 15) hx hb hts k0 hown hK hP 0 (aC0 Y A S9) rfl 12 (by decide) k1 (fun _ h9 => h9) rfl dX9_belief_68 ?_
          refine lv_iload_n hx hb dX9_belief_71 rfl (lv_at hl 3 rfl) ?_
          refine lv_iload_n hx hb dX9_belief_72 rfl (lv_at hl 2 rfl) ?_
          refine gVl (As := [.int a2, .int a1]) (rest := []) ⟨hx, hb, hml, hown, hts⟩ (kX8_doubtBelow l D Y A hI H.size S9 a2 a1 _ h) (cwV 2 hts gX9_belief_X8_doubtBelow rfl rfl rfl (by decide +kernel) ⟨Nat.le_of_ble_eq_true rfl, Nat.le_of_ble_eq_true rfl⟩) hK hP hS (gF_le hS.1) (aC7 Y A S9) (show vwCl[8]? = some (RX8, TX8, 6) from rfl) rfl rfl hl.1 (Nat.le_of_ble_eq_true rfl) dX9_belief_73 ⟨Nat.zero_le _, Nat.zero_le _⟩ ?_
          intro r12 S11 H locs h hP hS
          refine lv_lstore (lv' := [(6, .long r12), (4, .long r10), (0, .ref (A 0)), (1, .int a1), (2, .int a2), (3, .int a3)]) hx hb dX9_belief_76 hl (by decide) rfl (fun ls hl => ?_)
          refine lv_lload hx hb dX9_belief_78 (lv_at hl 0 rfl) ?_
          refine lv_lload hx hb dX9_belief_80 (lv_at hl 1 rfl) ?_
          refine lv_lsub hx hb dX9_belief_82 ?_
          refine lv_lload hx hb dX9_belief_83 (lv_at hl 0 rfl) ?_
          refine lv_iload_n hx hb dX9_belief_85 rfl (lv_at hl 5 rfl) ?_
          refine gSl (As := [.long (r12 - r10), .long r12, .int a3]) (rest := []) ⟨hx, hb, hml, hown, hts⟩ (kX9_lowest l D Y A hI H.size S11 (r12 - r10) r12 a3 _ h) (va_cwS 3 hts gX9_belief_X9_lowest rfl rfl rfl (by decide +kernel) ⟨Nat.le_of_ble_eq_true rfl, Nat.le_of_ble_eq_true rfl⟩) hK hP hS (gF_le hS.1) rfl rfl hl.1 (Nat.le_of_ble_eq_true rfl) dX9_belief_86 ⟨Nat.zero_le _, Nat.zero_le _⟩ ?_
          intro r14 S13 H locs h hP hS
          exact hret _ _ _ _ _ _ dX9_belief_89 h hP hS
        · have h := h.1 c8
          refine lv_aload_n hx hb dX9_belief_48 rfl (lv_at hl 0 rfl) ?_
          refine lv_bipush (v := (-2 : Int32)) hx hb dX9_belief_49 (by decide) ?_
          refine gVi (As := [.int (-2 : Int32)]) (rest := []) ⟨hx, hb, hml, hown, hts⟩ (kX9_refuse l D Y A hI H.size S6 (-2 : Int32) _ h) (cwV 1 hts gX9_belief_X9_refuse rfl rfl rfl (by decide +kernel) ⟨Nat.le_of_ble_eq_true rfl, Nat.le_of_ble_eq_true rfl⟩) hK hP hS (gF_le hS.1) (aC0 Y A S6) (show vwCl[9]? = some (RX9, TX9, 15) from rfl) rfl rfl hl.1 (Nat.le_of_ble_eq_true rfl) dX9_belief_51 ⟨Nat.zero_le _, Nat.zero_le _⟩ ?_
          intro r16 S15 H locs h hP hS
          refine lv_i2l hx hb dX9_belief_54 rfl ?_
          exact hret _ _ _ _ _ _ dX9_belief_55 h hP hS
      · have h := h.2 c5
        refine lv_aload_n hx hb dX9_belief_33 rfl (lv_at hl 0 rfl) ?_
        refine lv_bipush (v := (-6 : Int32)) hx hb dX9_belief_34 (by decide) ?_
        refine gVi (As := [.int (-6 : Int32)]) (rest := []) ⟨hx, hb, hml, hown, hts⟩ (kX9_refuse l D Y A hI H.size S1 (-6 : Int32) _ h) (cwV 1 hts gX9_belief_X9_refuse rfl rfl rfl (by decide +kernel) ⟨Nat.le_of_ble_eq_true rfl, Nat.le_of_ble_eq_true rfl⟩) hK hP hS (gF_le hS.1) (aC0 Y A S1) (show vwCl[9]? = some (RX9, TX9, 15) from rfl) rfl rfl hl.1 (Nat.le_of_ble_eq_true rfl) dX9_belief_36 ⟨Nat.zero_le _, Nat.zero_le _⟩ ?_
        intro r18 S17 H locs h hP hS
        refine lv_i2l hx hb dX9_belief_39 rfl ?_
        exact hret _ _ _ _ _ _ dX9_belief_40 h hP hS
    · have h := h.2 c4
      refine lv_aload_n hx hb dX9_belief_18 rfl (lv_at hl 0 rfl) ?_
      refine lv_bipush (v := (-4 : Int32)) hx hb dX9_belief_19 (by decide) ?_
      refine gVi (As := [.int (-4 : Int32)]) (rest := []) ⟨hx, hb, hml, hown, hts⟩ (kX9_refuse l D Y A hI H.size S1 (-4 : Int32) _ h) (cwV 1 hts gX9_belief_X9_refuse rfl rfl rfl (by decide +kernel) ⟨Nat.le_of_ble_eq_true rfl, Nat.le_of_ble_eq_true rfl⟩) hK hP hS (gF_le hS.1) (aC0 Y A S1) (show vwCl[9]? = some (RX9, TX9, 15) from rfl) rfl rfl hl.1 (Nat.le_of_ble_eq_true rfl) dX9_belief_21 ⟨Nat.zero_le _, Nat.zero_le _⟩ ?_
      intro r20 S19 H locs h hP hS
      refine lv_i2l hx hb dX9_belief_24 rfl ?_
      exact hret _ _ _ _ _ _ dX9_belief_25 h hP hS
  · have h := h.1 c3
    refine lv_aload_n hx hb dX9_belief_7 rfl (lv_at hl 0 rfl) ?_
    refine lv_iconst (v := (-1 : Int32)) hx hb dX9_belief_8 (by decide) ?_
    refine gVi (As := [.int (-1 : Int32)]) (rest := []) ⟨hx, hb, hml, hown, hts⟩ (kX9_refuse l D Y A hI H.size S1 (-1 : Int32) _ h) (cwV 1 hts gX9_belief_X9_refuse rfl rfl rfl (by decide +kernel) ⟨Nat.le_of_ble_eq_true rfl, Nat.le_of_ble_eq_true rfl⟩) hK hP hS (gF_le hS.1) (aC0 Y A S1) (show vwCl[9]? = some (RX9, TX9, 15) from rfl) rfl rfl hl.1 (Nat.le_of_ble_eq_true rfl) dX9_belief_9 ⟨Nat.zero_le _, Nat.zero_le _⟩ ?_
    intro r22 S21 H locs h hP hS
    refine lv_i2l hx hb dX9_belief_12 rfl ?_
    exact hret _ _ _ _ _ _ dX9_belief_13 h hP hS

def qX9_weight (S : gS) (a1 : Int32) (a2 : Int32) (Q : Int32 → gS → Prop) : Prop :=
  qX9_isInformer S a1 (fun r2 S1 => (r2 = 0 → (qX9_refuse S1 (-1 : Int32) (fun r15 S14 => Q r15 S14))) ∧ (¬ r2 = 0 → (qX9_isPart S1 a2 (fun r5 S4 => (r5 = 0 → (qX9_refuse S4 (-2 : Int32) (fun r13 S12 => Q r13 S12))) ∧ (¬ r5 = 0 → (vp_in a1 6 ∧ (qX8_provedOf S4 a1 (fun r9 S8 => qX9_lowest S8 (((ga S4 46 a1.toNatClampNeg) + (1 : Int32)).toInt64) ((r9 + (2 : Int32)).toInt64) a2 (fun r11 S10 => Q r11.toInt32 S10)))))))))
abbrev rmX9_weight : Room := { frames := 2, cells := 0, slots := 0, locals := 52 }
set_option maxHeartbeats 4000000 in
set_option maxRecDepth 100000 in
theorem kX9_weight (l : Launch) (D : va_G) (Y : Nat → ClassId) (A : Nat → Nat) (hI : iC A) (sz : Nat) (S : gS) (a1 : Int32) (a2 : Int32) (Q : Int32 → gS → Prop) (h : qX9_weight S a1 a2 Q) : Met l yX9_weight wsX9_weight rmX9_weight (gPc [.ref (A 0), .int a1, .int a2] sz D vwCl (tY Y) (wC Y A S)) (va_Qi Q (fun S' t => gH D vwCl (tY Y) (wC Y A S') t) (gF A 65 sz)) 0 0 (gF A 65 sz) := by
  refine gMet_i (cc := cX9_weight) (maxL := 3) (by decide +kernel) rfl (Nat.le_of_ble_eq_true rfl) (fun p e s m args below meth c Z H locs hx hb hml hts hown hK hP hS hret ls hl => ?_)
  have hown : s.vm.findClass RX9 = some m.cls := hown
  have hl : lv_has ls 3 [(0, .ref (A 0)), (1, .int a1), (2, .int a2)] := hl
  have hD : ∀ S0 : gS, va_D (gF A 65 s.heap.size) (wC Y A S0) := fun S0 => dC hI S0 (fun k hk => gF_in hk)
  have k0 : ∀ w ∈ u_ws RX9 TX9 15, w ∈ wsX9_weight := by decide +kernel
  have k1 := hts (.fieldLink RX9 74 "CoastWatch" "words" "LCoastWatch$Words;") (by decide +kernel)
  have k2 : ∀ w ∈ u_ws RX8 TX8 6, w ∈ wsX9_weight := by decide +kernel
  have k3 := hts (.fieldLink RX9 226 "CoastWatch$Words" "right" "[I") (by decide +kernel)
  refine lv_iload_n hx hb dX9_weight_0 rfl (lv_at hl 1 rfl) ?_
  refine gSi (As := [.int a1]) (rest := []) ⟨hx, hb, hml, hown, hts⟩ (kX9_isInformer l D Y A hI H.size S a1 _ h) (va_cwS 1 hts gX9_weight_X9_isInformer rfl rfl rfl (by decide +kernel) ⟨Nat.le_of_ble_eq_true rfl, Nat.le_of_ble_eq_true rfl⟩) hK hP hS (gF_le hS.1) rfl rfl hl.1 (Nat.le_of_ble_eq_true rfl) dX9_weight_1 ⟨Nat.zero_le _, Nat.zero_le _⟩ ?_
  intro r2 S1 H locs h hP hS
  refine lv_if_ne (tgt := 13) hx hb dX9_weight_4 (by decide) (fun c3 => ?_) (fun c3 => ?_)
  · have h := h.2 c3
    refine lv_iload_n hx hb dX9_weight_13 rfl (lv_at hl 2 rfl) ?_
    refine gSi (As := [.int a2]) (rest := []) ⟨hx, hb, hml, hown, hts⟩ (kX9_isPart l D Y A hI H.size S1 a2 _ h) (va_cwS 1 hts gX9_weight_X9_isPart rfl rfl rfl (by decide +kernel) ⟨Nat.le_of_ble_eq_true rfl, Nat.le_of_ble_eq_true rfl⟩) hK hP hS (gF_le hS.1) rfl rfl hl.1 (Nat.le_of_ble_eq_true rfl) dX9_weight_14 ⟨Nat.zero_le _, Nat.zero_le _⟩ ?_
    intro r5 S4 H locs h hP hS
    refine lv_if_ne (tgt := 27) hx hb dX9_weight_17 (by decide) (fun c6 => ?_) (fun c6 => ?_)
    · have h := h.2 c6
      refine lv_aload_n hx hb dX9_weight_27 rfl (lv_at hl 0 rfl) ?_
      refine va_get (ci := 9) (v := .ref (A 7)) (C := RX9) (T := TX9) (N := 15) hx hb hts k0 hown hK hP 0 (aC0 Y A S4) rfl 12 (by decide) k1 (fun _ h9 => h9) rfl dX9_weight_28 ?_
      refine va_get (ci := 8) (v := .ref (A 59)) (C := RX8) (T := TX8) (N := 6) hx hb hts k2 hown hK hP 7 (aC7 Y A S4) rfl 4 (by decide) k3 (fun _ h9 => h9) rfl dX9_weight_31 ?_
      refine lv_iload_n hx hb dX9_weight_34 rfl (lv_at hl 1 rfl) ?_
      have v_7 := h.1
      have h := h.2
      refine va_iald hx hb hK hP 59 0 (aC59 Y A S4) rfl v_7 dX9_weight_35 ?_
      refine lv_iconst (v := (1 : Int32)) hx hb dX9_weight_36 (by decide) ?_
      refine lv_iadd hx hb dX9_weight_37 ?_
      refine lv_i2l hx hb dX9_weight_38 rfl ?_
      refine lv_aload_n hx hb dX9_weight_39 rfl (lv_at hl 0 rfl) ?_
      refine va_get (ci := 9) (v := .ref (A 7)) (C := RX9) (T := TX9) (N := 15) hx hb hts k0 hown hK hP 0 (aC0 Y A S4) rfl 12 (by decide) k1 (fun _ h9 => h9) rfl dX9_weight_40 ?_
      refine lv_iload_n hx hb dX9_weight_43 rfl (lv_at hl 1 rfl) ?_
      refine gVi (As := [.int a1]) (rest := [.long (((ga S4 46 a1.toNatClampNeg) + (1 : Int32)).toInt64)]) ⟨hx, hb, hml, hown, hts⟩ (kX8_provedOf l D Y A hI H.size S4 a1 _ h) (cwV 1 hts gX9_weight_X8_provedOf rfl rfl rfl (by decide +kernel) ⟨Nat.le_of_ble_eq_true rfl, Nat.le_of_ble_eq_true rfl⟩) hK hP hS (gF_le hS.1) (aC7 Y A S4) (show vwCl[8]? = some (RX8, TX8, 6) from rfl) rfl rfl hl.1 (Nat.le_of_ble_eq_true rfl) dX9_weight_44 ⟨Nat.zero_le _, Nat.zero_le _⟩ ?_
      intro r9 S8 H locs h hP hS
      refine lv_iconst (v := (2 : Int32)) hx hb dX9_weight_47 (by decide) ?_
      refine lv_iadd hx hb dX9_weight_48 ?_
      refine lv_i2l hx hb dX9_weight_49 rfl ?_
      refine lv_iload_n hx hb dX9_weight_50 rfl (lv_at hl 2 rfl) ?_
      refine gSl (As := [.long (((ga S4 46 a1.toNatClampNeg) + (1 : Int32)).toInt64), .long ((r9 + (2 : Int32)).toInt64), .int a2]) (rest := []) ⟨hx, hb, hml, hown, hts⟩ (kX9_lowest l D Y A hI H.size S8 (((ga S4 46 a1.toNatClampNeg) + (1 : Int32)).toInt64) ((r9 + (2 : Int32)).toInt64) a2 _ h) (va_cwS 3 hts gX9_weight_X9_lowest rfl rfl rfl (by decide +kernel) ⟨Nat.le_of_ble_eq_true rfl, Nat.le_of_ble_eq_true rfl⟩) hK hP hS (gF_le hS.1) rfl rfl hl.1 (Nat.le_of_ble_eq_true rfl) dX9_weight_51 ⟨Nat.zero_le _, Nat.zero_le _⟩ ?_
      intro r11 S10 H locs h hP hS
      refine lv_l2i hx hb dX9_weight_54 rfl ?_
      exact hret _ _ _ _ _ _ dX9_weight_55 h hP hS
    · have h := h.1 c6
      refine lv_aload_n hx hb dX9_weight_20 rfl (lv_at hl 0 rfl) ?_
      refine lv_bipush (v := (-2 : Int32)) hx hb dX9_weight_21 (by decide) ?_
      refine gVi (As := [.int (-2 : Int32)]) (rest := []) ⟨hx, hb, hml, hown, hts⟩ (kX9_refuse l D Y A hI H.size S4 (-2 : Int32) _ h) (cwV 1 hts gX9_weight_X9_refuse rfl rfl rfl (by decide +kernel) ⟨Nat.le_of_ble_eq_true rfl, Nat.le_of_ble_eq_true rfl⟩) hK hP hS (gF_le hS.1) (aC0 Y A S4) (show vwCl[9]? = some (RX9, TX9, 15) from rfl) rfl rfl hl.1 (Nat.le_of_ble_eq_true rfl) dX9_weight_23 ⟨Nat.zero_le _, Nat.zero_le _⟩ ?_
      intro r13 S12 H locs h hP hS
      exact hret _ _ _ _ _ _ dX9_weight_26 h hP hS
  · have h := h.1 c3
    refine lv_aload_n hx hb dX9_weight_7 rfl (lv_at hl 0 rfl) ?_
    refine lv_iconst (v := (-1 : Int32)) hx hb dX9_weight_8 (by decide) ?_
    refine gVi (As := [.int (-1 : Int32)]) (rest := []) ⟨hx, hb, hml, hown, hts⟩ (kX9_refuse l D Y A hI H.size S1 (-1 : Int32) _ h) (cwV 1 hts gX9_weight_X9_refuse rfl rfl rfl (by decide +kernel) ⟨Nat.le_of_ble_eq_true rfl, Nat.le_of_ble_eq_true rfl⟩) hK hP hS (gF_le hS.1) (aC0 Y A S1) (show vwCl[9]? = some (RX9, TX9, 15) from rfl) rfl rfl hl.1 (Nat.le_of_ble_eq_true rfl) dX9_weight_9 ⟨Nat.zero_le _, Nat.zero_le _⟩ ?_
    intro r15 S14 H locs h hP hS
    exact hret _ _ _ _ _ _ dX9_weight_12 h hP hS

def qX9_gameRefusal (S : gS) (a0 : Int32) (a1 : Int32) (a2 : Int32) (Q : Int32 → gS → Prop) : Prop :=
  (a0 < 0 → (Q (-4 : Int32) S)) ∧ (¬ a0 < 0 → (((1 : Int32) ≤ a1 → (((6 : Int32) < a0 → (Q (-6 : Int32) S)) ∧ (¬ (6 : Int32) < a0 → ((a1 ≤ (99 : Int32) → (qX9_isPart S a2 (fun r6 S5 => (r6 = 0 → (Q (-2 : Int32) S5)) ∧ (¬ r6 = 0 → (Q (0 : Int32) S5))))) ∧ (¬ a1 ≤ (99 : Int32) → (Q (-6 : Int32) S)))))) ∧ (¬ (1 : Int32) ≤ a1 → (Q (-4 : Int32) S))))
abbrev rmX9_gameRefusal : Room := { frames := 1, cells := 0, slots := 0, locals := 20 }
set_option maxHeartbeats 4000000 in
set_option maxRecDepth 100000 in
theorem kX9_gameRefusal (l : Launch) (D : va_G) (Y : Nat → ClassId) (A : Nat → Nat) (hI : iC A) (sz : Nat) (S : gS) (a0 : Int32) (a1 : Int32) (a2 : Int32) (Q : Int32 → gS → Prop) (h : qX9_gameRefusal S a0 a1 a2 Q) : Met l yX9_gameRefusal wsX9_gameRefusal rmX9_gameRefusal (gPc [.int a0, .int a1, .int a2] sz D vwCl (tY Y) (wC Y A S)) (va_Qi Q (fun S' t => gH D vwCl (tY Y) (wC Y A S') t) (gF A 65 sz)) 0 0 (gF A 65 sz) := by
  refine gMet_i (cc := cX9_gameRefusal) (maxL := 3) (by decide +kernel) rfl (Nat.le_of_ble_eq_true rfl) (fun p e s m args below meth c Z H locs hx hb hml hts hown hK hP hS hret ls hl => ?_)
  have hown : s.vm.findClass RX9 = some m.cls := hown
  have hl : lv_has ls 3 [(0, .int a0), (1, .int a1), (2, .int a2)] := hl
  have hD : ∀ S0 : gS, va_D (gF A 65 s.heap.size) (wC Y A S0) := fun S0 => dC hI S0 (fun k hk => gF_in hk)
  refine lv_iload_n hx hb dX9_gameRefusal_0 rfl (lv_at hl 0 rfl) ?_
  refine lv_if_lt (tgt := 9) hx hb dX9_gameRefusal_1 (by decide) (fun c1 => ?_) (fun c1 => ?_)
  · have h := h.1 c1
    refine lv_bipush (v := (-4 : Int32)) hx hb dX9_gameRefusal_9 (by decide) ?_
    exact hret _ _ _ _ _ _ dX9_gameRefusal_11 h hP hS
  · have h := h.2 c1
    refine lv_iload_n hx hb dX9_gameRefusal_4 rfl (lv_at hl 1 rfl) ?_
    refine lv_iconst (v := (1 : Int32)) hx hb dX9_gameRefusal_5 (by decide) ?_
    refine lv_icmp_ge (tgt := 12) hx hb dX9_gameRefusal_6 (by decide) (fun c2 => ?_) (fun c2 => ?_)
    · have h := h.1 c2
      refine lv_iload_n hx hb dX9_gameRefusal_12 rfl (lv_at hl 0 rfl) ?_
      refine lv_bipush (v := (6 : Int32)) hx hb dX9_gameRefusal_13 (by decide) ?_
      refine lv_icmp_gt (tgt := 24) hx hb dX9_gameRefusal_15 (by decide) (fun c3 => ?_) (fun c3 => ?_)
      · have h := h.1 c3
        refine lv_bipush (v := (-6 : Int32)) hx hb dX9_gameRefusal_24 (by decide) ?_
        exact hret _ _ _ _ _ _ dX9_gameRefusal_26 h hP hS
      · have h := h.2 c3
        refine lv_iload_n hx hb dX9_gameRefusal_18 rfl (lv_at hl 1 rfl) ?_
        refine lv_bipush (v := (99 : Int32)) hx hb dX9_gameRefusal_19 (by decide) ?_
        refine lv_icmp_le (tgt := 27) hx hb dX9_gameRefusal_21 (by decide) (fun c4 => ?_) (fun c4 => ?_)
        · have h := h.1 c4
          refine lv_iload_n hx hb dX9_gameRefusal_27 rfl (lv_at hl 2 rfl) ?_
          refine gSi (As := [.int a2]) (rest := []) ⟨hx, hb, hml, hown, hts⟩ (kX9_isPart l D Y A hI H.size S a2 _ h) (va_cwS 1 hts gX9_gameRefusal_X9_isPart rfl rfl rfl (by decide +kernel) ⟨Nat.le_of_ble_eq_true rfl, Nat.le_of_ble_eq_true rfl⟩) hK hP hS (gF_le hS.1) rfl rfl hl.1 (Nat.le_of_ble_eq_true rfl) dX9_gameRefusal_28 ⟨Nat.zero_le _, Nat.zero_le _⟩ ?_
          intro r6 S5 H locs h hP hS
          refine lv_if_eq (tgt := 38) hx hb dX9_gameRefusal_31 (by decide) (fun c7 => ?_) (fun c7 => ?_)
          · have h := h.1 c7
            refine lv_bipush (v := (-2 : Int32)) hx hb dX9_gameRefusal_38 (by decide) ?_
            exact hret _ _ _ _ _ _ dX9_gameRefusal_40 h hP hS
          · have h := h.2 c7
            refine lv_iconst (v := (0 : Int32)) hx hb dX9_gameRefusal_34 (by decide) ?_
            refine lv_goto (tgt := 40) hx hb dX9_gameRefusal_35 (by decide) ?_
            exact hret _ _ _ _ _ _ dX9_gameRefusal_40 h hP hS
        · have h := h.2 c4
          refine lv_bipush (v := (-6 : Int32)) hx hb dX9_gameRefusal_24 (by decide) ?_
          exact hret _ _ _ _ _ _ dX9_gameRefusal_26 h hP hS
    · have h := h.2 c2
      refine lv_bipush (v := (-4 : Int32)) hx hb dX9_gameRefusal_9 (by decide) ?_
      exact hret _ _ _ _ _ _ dX9_gameRefusal_11 h hP hS

def qX9_value (S : gS) (a1 : Int32) (a2 : Int32) (a3 : Int32) (Q : Int64 → gS → Prop) : Prop :=
  qX9_gameRefusal S a1 a2 a3 (fun r2 S1 => (r2 = 0 → (qX2_solve S1 a1 a2 (fun S4 => qX9_lowest S4 (gl S4 0) (gl S4 1) a3 (fun r6 S5 => Q r6 S5)))) ∧ (¬ r2 = 0 → (qX9_refuse S1 r2 (fun r8 S7 => Q ((4000000000000000000 : Int64) - r8.toInt64) S7))))
abbrev rmX9_value : Room := { frames := 2, cells := 0, slots := 0, locals := 56 }
set_option maxHeartbeats 4000000 in
set_option maxRecDepth 100000 in
theorem kX9_value (l : Launch) (D : va_G) (Y : Nat → ClassId) (A : Nat → Nat) (hI : iC A) (sz : Nat) (S : gS) (a1 : Int32) (a2 : Int32) (a3 : Int32) (Q : Int64 → gS → Prop) (h : qX9_value S a1 a2 a3 Q) : Met l yX9_value wsX9_value rmX9_value (gPc [.ref (A 0), .int a1, .int a2, .int a3] sz D vwCl (tY Y) (wC Y A S)) (va_Ql Q (fun S' t => gH D vwCl (tY Y) (wC Y A S') t) (gF A 65 sz)) 0 0 (gF A 65 sz) := by
  refine gMet_l (cc := cX9_value) (maxL := 5) (by decide +kernel) rfl (Nat.le_of_ble_eq_true rfl) (fun p e s m args below meth c Z H locs hx hb hml hts hown hK hP hS hret ls hl => ?_)
  have hown : s.vm.findClass RX9 = some m.cls := hown
  have hl : lv_has ls 5 [(0, .ref (A 0)), (1, .int a1), (2, .int a2), (3, .int a3)] := hl
  have hD : ∀ S0 : gS, va_D (gF A 65 s.heap.size) (wC Y A S0) := fun S0 => dC hI S0 (fun k hk => gF_in hk)
  have k0 : ∀ w ∈ u_ws RX9 TX9 15, w ∈ wsX9_value := by decide +kernel
  have k1 := hts (.fieldLink RX9 88 "CoastWatch" "game" "LCoastWatch$Game;") (by decide +kernel)
  have k2 := hts (.fieldLink RX9 39 "CoastWatch" "coves" "LCoastWatch$Coves;") (by decide +kernel)
  have k3 : ∀ w ∈ u_ws RX1 TX1 7, w ∈ wsX9_value := by decide +kernel
  have k4 := hts (.fieldLink RX9 103 "CoastWatch$Coves" "worth" "[I") (by decide +kernel)
  have k5 : ∀ w ∈ u_ws RX2 TX2 3, w ∈ wsX9_value := by decide +kernel
  have k6 := hts (.fieldLink RX9 241 "CoastWatch$Game" "above" "J") (by decide +kernel)
  have k7 := hts (.fieldLink RX9 245 "CoastWatch$Game" "below" "J") (by decide +kernel)
  have k8 := hts (.constantLong RX9 235 4000000000000000000) (by decide +kernel)
  refine lv_iload_n hx hb dX9_value_0 rfl (lv_at hl 1 rfl) ?_
  refine lv_iload_n hx hb dX9_value_1 rfl (lv_at hl 2 rfl) ?_
  refine lv_iload_n hx hb dX9_value_2 rfl (lv_at hl 3 rfl) ?_
  refine gSi (As := [.int a1, .int a2, .int a3]) (rest := []) ⟨hx, hb, hml, hown, hts⟩ (kX9_gameRefusal l D Y A hI H.size S a1 a2 a3 _ h) (va_cwS 3 hts gX9_value_X9_gameRefusal rfl rfl rfl (by decide +kernel) ⟨Nat.le_of_ble_eq_true rfl, Nat.le_of_ble_eq_true rfl⟩) hK hP hS (gF_le hS.1) rfl rfl hl.1 (Nat.le_of_ble_eq_true rfl) dX9_value_3 ⟨Nat.zero_le _, Nat.zero_le _⟩ ?_
  intro r2 S1 H locs h hP hS
  refine lv_istore (lv' := [(4, .int r2), (0, .ref (A 0)), (1, .int a1), (2, .int a2), (3, .int a3)]) hx hb dX9_value_6 hl (by decide) rfl (fun ls hl => ?_)
  refine lv_iload hx hb dX9_value_8 (lv_at hl 0 rfl) ?_
  refine lv_if_eq (tgt := 25) hx hb dX9_value_10 (by decide) (fun c3 => ?_) (fun c3 => ?_)
  · have h := h.1 c3
    refine lv_aload_n hx hb dX9_value_25 rfl (lv_at hl 1 rfl) ?_
    refine va_get (ci := 9) (v := .ref (A 9)) (C := RX9) (T := TX9) (N := 15) hx hb hts k0 hown hK hP 0 (aC0 Y A S1) rfl 14 (by decide) k1 (fun _ h9 => h9) rfl dX9_value_26 ?_
    refine lv_aload_n hx hb dX9_value_29 rfl (lv_at hl 1 rfl) ?_
    refine va_get (ci := 9) (v := .ref (A 2)) (C := RX9) (T := TX9) (N := 15) hx hb hts k0 hown hK hP 0 (aC0 Y A S1) rfl 7 (by decide) k2 (fun _ h9 => h9) rfl dX9_value_30 ?_
    refine va_get (ci := 1) (v := .ref (A 19)) (C := RX1) (T := TX1) (N := 7) hx hb hts k3 hown hK hP 2 (aC2 Y A S1) rfl 1 (by decide) k4 (fun _ h9 => h9) rfl dX9_value_33 ?_
    refine lv_iload_n hx hb dX9_value_36 rfl (lv_at hl 2 rfl) ?_
    refine lv_iload_n hx hb dX9_value_37 rfl (lv_at hl 3 rfl) ?_
    refine gVv (As := [.ref (A 19), .int a1, .int a2]) (rest := []) ⟨hx, hb, hml, hown, hts⟩ (kX2_solve l D Y A hI H.size S1 a1 a2 _ h) (cwV 3 hts gX9_value_X2_solve rfl rfl rfl (by decide +kernel) ⟨Nat.le_of_ble_eq_true rfl, Nat.le_of_ble_eq_true rfl⟩) hK hP hS (gF_le hS.1) (aC9 Y A S1) (show vwCl[2]? = some (RX2, TX2, 3) from rfl) rfl rfl hl.1 (Nat.le_of_ble_eq_true rfl) dX9_value_38 ⟨Nat.zero_le _, Nat.zero_le _⟩ ?_
    intro S4 H locs h hP hS
    refine lv_aload_n hx hb dX9_value_41 rfl (lv_at hl 1 rfl) ?_
    refine va_get (ci := 9) (v := .ref (A 9)) (C := RX9) (T := TX9) (N := 15) hx hb hts k0 hown hK hP 0 (aC0 Y A S4) rfl 14 (by decide) k1 (fun _ h9 => h9) rfl dX9_value_42 ?_
    refine va_get (ci := 2) (v := .long (gl S4 0)) (C := RX2) (T := TX2) (N := 3) hx hb hts k5 hown hK hP 9 (aC9 Y A S4) rfl 1 (by decide) k6 (fun _ h9 => h9) rfl dX9_value_45 ?_
    refine lv_aload_n hx hb dX9_value_48 rfl (lv_at hl 1 rfl) ?_
    refine va_get (ci := 9) (v := .ref (A 9)) (C := RX9) (T := TX9) (N := 15) hx hb hts k0 hown hK hP 0 (aC0 Y A S4) rfl 14 (by decide) k1 (fun _ h9 => h9) rfl dX9_value_49 ?_
    refine va_get (ci := 2) (v := .long (gl S4 1)) (C := RX2) (T := TX2) (N := 3) hx hb hts k5 hown hK hP 9 (aC9 Y A S4) rfl 2 (by decide) k7 (fun _ h9 => h9) rfl dX9_value_52 ?_
    refine lv_iload_n hx hb dX9_value_55 rfl (lv_at hl 4 rfl) ?_
    refine gSl (As := [.long (gl S4 0), .long (gl S4 1), .int a3]) (rest := []) ⟨hx, hb, hml, hown, hts⟩ (kX9_lowest l D Y A hI H.size S4 (gl S4 0) (gl S4 1) a3 _ h) (va_cwS 3 hts gX9_value_X9_lowest rfl rfl rfl (by decide +kernel) ⟨Nat.le_of_ble_eq_true rfl, Nat.le_of_ble_eq_true rfl⟩) hK hP hS (gF_le hS.1) rfl rfl hl.1 (Nat.le_of_ble_eq_true rfl) dX9_value_56 ⟨Nat.zero_le _, Nat.zero_le _⟩ ?_
    intro r6 S5 H locs h hP hS
    exact hret _ _ _ _ _ _ dX9_value_59 h hP hS
  · have h := h.2 c3
    refine lv_ldc2 (v := (4000000000000000000 : Int64)) hx hb hown k8 dX9_value_13 ?_
    refine lv_aload_n hx hb dX9_value_16 rfl (lv_at hl 1 rfl) ?_
    refine lv_iload hx hb dX9_value_17 (lv_at hl 0 rfl) ?_
    refine gVi (As := [.int r2]) (rest := [.long (4000000000000000000 : Int64)]) ⟨hx, hb, hml, hown, hts⟩ (kX9_refuse l D Y A hI H.size S1 r2 _ h) (cwV 1 hts gX9_value_X9_refuse rfl rfl rfl (by decide +kernel) ⟨Nat.le_of_ble_eq_true rfl, Nat.le_of_ble_eq_true rfl⟩) hK hP hS (gF_le hS.1) (aC0 Y A S1) (show vwCl[9]? = some (RX9, TX9, 15) from rfl) rfl rfl hl.1 (Nat.le_of_ble_eq_true rfl) dX9_value_19 ⟨Nat.zero_le _, Nat.zero_le _⟩ ?_
    intro r8 S7 H locs h hP hS
    refine lv_i2l hx hb dX9_value_22 rfl ?_
    refine lv_lsub hx hb dX9_value_23 ?_
    exact hret _ _ _ _ _ _ dX9_value_24 h hP hS

def qX9_chance_J18 (a1 : Int32) (a2 : Int32) (a3 : Int32) (a4 : Int32) (Q : Int64 → gS → Prop) : Int32 × gS → Prop := fun ⟨s0, S⟩ =>
  (s0 = 0 → (qX2_solve S a2 a3 (fun S2 => vp_in a1 6 ∧ (∀ x4 : Int64, x4 = (((ga S2 8 a1.toNatClampNeg).toInt64 * (gl S2 1)) - (gl S2 0)) → (∀ x5 : Int64, x5 = (((ga S2 8 a1.toNatClampNeg) + a3).toInt64 * (gl S2 1)) → ((0 ≤ (lg_cmp x4 (0 : Int64)) → (qX9_lowest S2 x4 x5 a4 (fun r8 S7 => Q r8 S7))) ∧ (¬ 0 ≤ (lg_cmp x4 (0 : Int64)) → (qX9_lowest S2 (0 : Int64) x5 a4 (fun r10 S9 => Q r10 S9))))))))) ∧ (¬ s0 = 0 → (qX9_refuse S s0 (fun r12 S11 => Q ((4000000000000000000 : Int64) - r12.toInt64) S11)))
def qX9_chance (S : gS) (a1 : Int32) (a2 : Int32) (a3 : Int32) (a4 : Int32) (Q : Int64 → gS → Prop) : Prop :=
  qX9_isCove S a1 (fun r14 S13 => (r14 = 0 → (qX9_chance_J18 a1 a2 a3 a4 Q ((-1 : Int32), S13))) ∧ (¬ r14 = 0 → (qX9_gameRefusal S13 a2 a3 a4 (fun r17 S16 => qX9_chance_J18 a1 a2 a3 a4 Q (r17, S16)))))
abbrev rmX9_chance : Room := { frames := 2, cells := 0, slots := 0, locals := 56 }
set_option maxHeartbeats 4000000 in
set_option maxRecDepth 100000 in
theorem kX9_chance (l : Launch) (D : va_G) (Y : Nat → ClassId) (A : Nat → Nat) (hI : iC A) (sz : Nat) (S : gS) (a1 : Int32) (a2 : Int32) (a3 : Int32) (a4 : Int32) (Q : Int64 → gS → Prop) (h : qX9_chance S a1 a2 a3 a4 Q) : Met l yX9_chance wsX9_chance rmX9_chance (gPc [.ref (A 0), .int a1, .int a2, .int a3, .int a4] sz D vwCl (tY Y) (wC Y A S)) (va_Ql Q (fun S' t => gH D vwCl (tY Y) (wC Y A S') t) (gF A 65 sz)) 0 0 (gF A 65 sz) := by
  refine gMet_l (cc := cX9_chance) (maxL := 10) (by decide +kernel) rfl (Nat.le_of_ble_eq_true rfl) (fun p e s m args below meth c Z H locs hx hb hml hts hown hK hP hS hret ls hl => ?_)
  have hown : s.vm.findClass RX9 = some m.cls := hown
  have hl : lv_has ls 10 [(0, .ref (A 0)), (1, .int a1), (2, .int a2), (3, .int a3), (4, .int a4)] := hl
  have hD : ∀ S0 : gS, va_D (gF A 65 s.heap.size) (wC Y A S0) := fun S0 => dC hI S0 (fun k hk => gF_in hk)
  have k0 : ∀ w ∈ u_ws RX9 TX9 15, w ∈ wsX9_chance := by decide +kernel
  have k1 := hts (.fieldLink RX9 88 "CoastWatch" "game" "LCoastWatch$Game;") (by decide +kernel)
  have k2 := hts (.fieldLink RX9 39 "CoastWatch" "coves" "LCoastWatch$Coves;") (by decide +kernel)
  have k3 : ∀ w ∈ u_ws RX1 TX1 7, w ∈ wsX9_chance := by decide +kernel
  have k4 := hts (.fieldLink RX9 103 "CoastWatch$Coves" "worth" "[I") (by decide +kernel)
  have k5 : ∀ w ∈ u_ws RX2 TX2 3, w ∈ wsX9_chance := by decide +kernel
  have k6 := hts (.fieldLink RX9 245 "CoastWatch$Game" "below" "J") (by decide +kernel)
  have k7 := hts (.fieldLink RX9 241 "CoastWatch$Game" "above" "J") (by decide +kernel)
  have k8 := hts (.constantLong RX9 235 4000000000000000000) (by decide +kernel)
  have tJ18 : ∀ (s0 : Int32) (S : gS), qX9_chance_J18 a1 a2 a3 a4 Q (s0, S) → ∀ (H : Heap) (locs : List Loc) (ls : Array Slot), va_P D vwCl (wC Y A S) H → va_S (gF A 65 s.heap.size) s.heap H locs → lv_has ls 10 [(0, .ref (A 0)), (1, .int a1), (2, .int a2), (3, .int a3), (4, .int a4)] → W p l e rmX9_chance s m args below meth c H locs 0 0 Z (F0 m 18 ls [.int s0]) := by
    intro  s0 S h
    intro H locs ls hP hS hl
    refine lv_istore (lv' := [(5, .int s0), (0, .ref (A 0)), (1, .int a1), (2, .int a2), (3, .int a3), (4, .int a4)]) hx hb dX9_chance_18 hl (by decide) rfl (fun ls hl => ?_)
    refine lv_iload hx hb dX9_chance_20 (lv_at hl 0 rfl) ?_
    refine lv_if_eq (tgt := 37) hx hb dX9_chance_22 (by decide) (fun c1 => ?_) (fun c1 => ?_)
    · have h := h.1 c1
      refine lv_aload_n hx hb dX9_chance_37 rfl (lv_at hl 1 rfl) ?_
      refine va_get (ci := 9) (v := .ref (A 9)) (C := RX9) (T := TX9) (N := 15) hx hb hts k0 hown hK hP 0 (aC0 Y A S) rfl 14 (by decide) k1 (fun _ h9 => h9) rfl dX9_chance_38 ?_
      refine lv_aload_n hx hb dX9_chance_41 rfl (lv_at hl 1 rfl) ?_
      refine va_get (ci := 9) (v := .ref (A 2)) (C := RX9) (T := TX9) (N := 15) hx hb hts k0 hown hK hP 0 (aC0 Y A S) rfl 7 (by decide) k2 (fun _ h9 => h9) rfl dX9_chance_42 ?_
      refine va_get (ci := 1) (v := .ref (A 19)) (C := RX1) (T := TX1) (N := 7) hx hb hts k3 hown hK hP 2 (aC2 Y A S) rfl 1 (by decide) k4 (fun _ h9 => h9) rfl dX9_chance_45 ?_
      refine lv_iload_n hx hb dX9_chance_48 rfl (lv_at hl 3 rfl) ?_
      refine lv_iload_n hx hb dX9_chance_49 rfl (lv_at hl 4 rfl) ?_
      refine gVv (As := [.ref (A 19), .int a2, .int a3]) (rest := []) ⟨hx, hb, hml, hown, hts⟩ (kX2_solve l D Y A hI H.size S a2 a3 _ h) (cwV 3 hts gX9_chance_X2_solve rfl rfl rfl (by decide +kernel) ⟨Nat.le_of_ble_eq_true rfl, Nat.le_of_ble_eq_true rfl⟩) hK hP hS (gF_le hS.1) (aC9 Y A S) (show vwCl[2]? = some (RX2, TX2, 3) from rfl) rfl rfl hl.1 (Nat.le_of_ble_eq_true rfl) dX9_chance_50 ⟨Nat.zero_le _, Nat.zero_le _⟩ ?_
      intro S2 H locs h hP hS
      refine lv_aload_n hx hb dX9_chance_53 rfl (lv_at hl 1 rfl) ?_
      refine va_get (ci := 9) (v := .ref (A 2)) (C := RX9) (T := TX9) (N := 15) hx hb hts k0 hown hK hP 0 (aC0 Y A S2) rfl 7 (by decide) k2 (fun _ h9 => h9) rfl dX9_chance_54 ?_
      refine va_get (ci := 1) (v := .ref (A 19)) (C := RX1) (T := TX1) (N := 7) hx hb hts k3 hown hK hP 2 (aC2 Y A S2) rfl 1 (by decide) k4 (fun _ h9 => h9) rfl dX9_chance_57 ?_
      refine lv_iload_n hx hb dX9_chance_60 rfl (lv_at hl 2 rfl) ?_
      have v_3 := h.1
      have h := h.2
      refine va_iald hx hb hK hP 19 0 (aC19 Y A S2) rfl v_3 dX9_chance_61 ?_
      refine lv_i2l hx hb dX9_chance_62 rfl ?_
      refine lv_aload_n hx hb dX9_chance_63 rfl (lv_at hl 1 rfl) ?_
      refine va_get (ci := 9) (v := .ref (A 9)) (C := RX9) (T := TX9) (N := 15) hx hb hts k0 hown hK hP 0 (aC0 Y A S2) rfl 14 (by decide) k1 (fun _ h9 => h9) rfl dX9_chance_64 ?_
      refine va_get (ci := 2) (v := .long (gl S2 1)) (C := RX2) (T := TX2) (N := 3) hx hb hts k5 hown hK hP 9 (aC9 Y A S2) rfl 2 (by decide) k6 (fun _ h9 => h9) rfl dX9_chance_67 ?_
      refine lv_lmul hx hb dX9_chance_70 ?_
      refine lv_aload_n hx hb dX9_chance_71 rfl (lv_at hl 1 rfl) ?_
      refine va_get (ci := 9) (v := .ref (A 9)) (C := RX9) (T := TX9) (N := 15) hx hb hts k0 hown hK hP 0 (aC0 Y A S2) rfl 14 (by decide) k1 (fun _ h9 => h9) rfl dX9_chance_72 ?_
      refine va_get (ci := 2) (v := .long (gl S2 0)) (C := RX2) (T := TX2) (N := 3) hx hb hts k5 hown hK hP 9 (aC9 Y A S2) rfl 1 (by decide) k7 (fun _ h9 => h9) rfl dX9_chance_75 ?_
      refine lv_lsub hx hb dX9_chance_78 ?_
      refine lv_topl (fun x4 ex4 => ?_)
      have h := h x4 ex4
      refine lv_lstore (lv' := [(6, .long x4), (5, .int s0), (0, .ref (A 0)), (1, .int a1), (2, .int a2), (3, .int a3), (4, .int a4)]) hx hb dX9_chance_79 hl (by decide) rfl (fun ls hl => ?_)
      refine lv_aload_n hx hb dX9_chance_81 rfl (lv_at hl 2 rfl) ?_
      refine va_get (ci := 9) (v := .ref (A 2)) (C := RX9) (T := TX9) (N := 15) hx hb hts k0 hown hK hP 0 (aC0 Y A S2) rfl 7 (by decide) k2 (fun _ h9 => h9) rfl dX9_chance_82 ?_
      refine va_get (ci := 1) (v := .ref (A 19)) (C := RX1) (T := TX1) (N := 7) hx hb hts k3 hown hK hP 2 (aC2 Y A S2) rfl 1 (by decide) k4 (fun _ h9 => h9) rfl dX9_chance_85 ?_
      refine lv_iload_n hx hb dX9_chance_88 rfl (lv_at hl 3 rfl) ?_
      refine va_iald hx hb hK hP 19 0 (aC19 Y A S2) rfl v_3 dX9_chance_89 ?_
      refine lv_iload_n hx hb dX9_chance_90 rfl (lv_at hl 5 rfl) ?_
      refine lv_iadd hx hb dX9_chance_91 ?_
      refine lv_i2l hx hb dX9_chance_92 rfl ?_
      refine lv_aload_n hx hb dX9_chance_93 rfl (lv_at hl 2 rfl) ?_
      refine va_get (ci := 9) (v := .ref (A 9)) (C := RX9) (T := TX9) (N := 15) hx hb hts k0 hown hK hP 0 (aC0 Y A S2) rfl 14 (by decide) k1 (fun _ h9 => h9) rfl dX9_chance_94 ?_
      refine va_get (ci := 2) (v := .long (gl S2 1)) (C := RX2) (T := TX2) (N := 3) hx hb hts k5 hown hK hP 9 (aC9 Y A S2) rfl 2 (by decide) k6 (fun _ h9 => h9) rfl dX9_chance_97 ?_
      refine lv_lmul hx hb dX9_chance_100 ?_
      refine lv_topl (fun x5 ex5 => ?_)
      have h := h x5 ex5
      refine lv_lstore (lv' := [(8, .long x5), (6, .long x4), (5, .int s0), (0, .ref (A 0)), (1, .int a1), (2, .int a2), (3, .int a3), (4, .int a4)]) hx hb dX9_chance_101 hl (by decide) rfl (fun ls hl => ?_)
      refine lv_lload hx hb dX9_chance_103 (lv_at hl 1 rfl) ?_
      refine lv_lconst (v := (0 : Int64)) hx hb dX9_chance_105 (by decide) ?_
      refine W.lcmp hx hb dX9_chance_106 ?_
      refine lv_if_ge (tgt := 114) hx hb dX9_chance_107 (by decide) (fun c6 => ?_) (fun c6 => ?_)
      · have h := h.1 c6
        refine lv_lload hx hb dX9_chance_114 (lv_at hl 1 rfl) ?_
        refine lv_lload hx hb dX9_chance_116 (lv_at hl 0 rfl) ?_
        refine lv_iload hx hb dX9_chance_118 (lv_at hl 7 rfl) ?_
        refine gSl (As := [.long x4, .long x5, .int a4]) (rest := []) ⟨hx, hb, hml, hown, hts⟩ (kX9_lowest l D Y A hI H.size S2 x4 x5 a4 _ h) (va_cwS 3 hts gX9_chance_X9_lowest rfl rfl rfl (by decide +kernel) ⟨Nat.le_of_ble_eq_true rfl, Nat.le_of_ble_eq_true rfl⟩) hK hP hS (gF_le hS.1) rfl rfl hl.1 (Nat.le_of_ble_eq_true rfl) dX9_chance_120 ⟨Nat.zero_le _, Nat.zero_le _⟩ ?_
        intro r8 S7 H locs h hP hS
        exact hret _ _ _ _ _ _ dX9_chance_123 h hP hS
      · have h := h.2 c6
        refine lv_lconst (v := (0 : Int64)) hx hb dX9_chance_110 (by decide) ?_
        refine lv_goto (tgt := 116) hx hb dX9_chance_111 (by decide) ?_
        refine lv_lload hx hb dX9_chance_116 (lv_at hl 0 rfl) ?_
        refine lv_iload hx hb dX9_chance_118 (lv_at hl 7 rfl) ?_
        refine gSl (As := [.long (0 : Int64), .long x5, .int a4]) (rest := []) ⟨hx, hb, hml, hown, hts⟩ (kX9_lowest l D Y A hI H.size S2 (0 : Int64) x5 a4 _ h) (va_cwS 3 hts gX9_chance_X9_lowest rfl rfl rfl (by decide +kernel) ⟨Nat.le_of_ble_eq_true rfl, Nat.le_of_ble_eq_true rfl⟩) hK hP hS (gF_le hS.1) rfl rfl hl.1 (Nat.le_of_ble_eq_true rfl) dX9_chance_120 ⟨Nat.zero_le _, Nat.zero_le _⟩ ?_
        intro r10 S9 H locs h hP hS
        exact hret _ _ _ _ _ _ dX9_chance_123 h hP hS
    · have h := h.2 c1
      refine lv_ldc2 (v := (4000000000000000000 : Int64)) hx hb hown k8 dX9_chance_25 ?_
      refine lv_aload_n hx hb dX9_chance_28 rfl (lv_at hl 1 rfl) ?_
      refine lv_iload hx hb dX9_chance_29 (lv_at hl 0 rfl) ?_
      refine gVi (As := [.int s0]) (rest := [.long (4000000000000000000 : Int64)]) ⟨hx, hb, hml, hown, hts⟩ (kX9_refuse l D Y A hI H.size S s0 _ h) (cwV 1 hts gX9_chance_X9_refuse rfl rfl rfl (by decide +kernel) ⟨Nat.le_of_ble_eq_true rfl, Nat.le_of_ble_eq_true rfl⟩) hK hP hS (gF_le hS.1) (aC0 Y A S) (show vwCl[9]? = some (RX9, TX9, 15) from rfl) rfl rfl hl.1 (Nat.le_of_ble_eq_true rfl) dX9_chance_31 ⟨Nat.zero_le _, Nat.zero_le _⟩ ?_
      intro r12 S11 H locs h hP hS
      refine lv_i2l hx hb dX9_chance_34 rfl ?_
      refine lv_lsub hx hb dX9_chance_35 ?_
      exact hret _ _ _ _ _ _ dX9_chance_36 h hP hS
  refine lv_iload_n hx hb dX9_chance_0 rfl (lv_at hl 1 rfl) ?_
  refine gSi (As := [.int a1]) (rest := []) ⟨hx, hb, hml, hown, hts⟩ (kX9_isCove l D Y A hI H.size S a1 _ h) (va_cwS 1 hts gX9_chance_X9_isCove rfl rfl rfl (by decide +kernel) ⟨Nat.le_of_ble_eq_true rfl, Nat.le_of_ble_eq_true rfl⟩) hK hP hS (gF_le hS.1) rfl rfl hl.1 (Nat.le_of_ble_eq_true rfl) dX9_chance_1 ⟨Nat.zero_le _, Nat.zero_le _⟩ ?_
  intro r14 S13 H locs h hP hS
  refine lv_if_eq (tgt := 17) hx hb dX9_chance_4 (by decide) (fun c15 => ?_) (fun c15 => ?_)
  · have h := h.1 c15
    refine lv_iconst (v := (-1 : Int32)) hx hb dX9_chance_17 (by decide) ?_
    exact tJ18  (-1 : Int32) S13 h _ _ _ hP hS (lv_sub hl [0, 1, 2, 3, 4] rfl)
  · have h := h.2 c15
    refine lv_iload_n hx hb dX9_chance_7 rfl (lv_at hl 2 rfl) ?_
    refine lv_iload_n hx hb dX9_chance_8 rfl (lv_at hl 3 rfl) ?_
    refine lv_iload hx hb dX9_chance_9 (lv_at hl 4 rfl) ?_
    refine gSi (As := [.int a2, .int a3, .int a4]) (rest := []) ⟨hx, hb, hml, hown, hts⟩ (kX9_gameRefusal l D Y A hI H.size S13 a2 a3 a4 _ h) (va_cwS 3 hts gX9_chance_X9_gameRefusal rfl rfl rfl (by decide +kernel) ⟨Nat.le_of_ble_eq_true rfl, Nat.le_of_ble_eq_true rfl⟩) hK hP hS (gF_le hS.1) rfl rfl hl.1 (Nat.le_of_ble_eq_true rfl) dX9_chance_11 ⟨Nat.zero_le _, Nat.zero_le _⟩ ?_
    intro r17 S16 H locs h hP hS
    refine lv_goto (tgt := 18) hx hb dX9_chance_14 (by decide) ?_
    exact tJ18  r17 S16 h _ _ _ hP hS (lv_sub hl [0, 1, 2, 3, 4] rfl)

def qX9_isSeason (S : gS) (a0 : Int32) (Q : Int32 → gS → Prop) : Prop :=
  (a0 < 0 → (Q (0 : Int32) S)) ∧ (¬ a0 < 0 → (((34 : Int32) ≤ a0 → (Q (0 : Int32) S)) ∧ (¬ (34 : Int32) ≤ a0 → (Q (1 : Int32) S))))
abbrev rmX9_isSeason : Room := { frames := 0, cells := 0, slots := 0, locals := 0 }
set_option maxHeartbeats 4000000 in
set_option maxRecDepth 100000 in
theorem kX9_isSeason (l : Launch) (D : va_G) (Y : Nat → ClassId) (A : Nat → Nat) (hI : iC A) (sz : Nat) (S : gS) (a0 : Int32) (Q : Int32 → gS → Prop) (h : qX9_isSeason S a0 Q) : Met l yX9_isSeason wsX9_isSeason rmX9_isSeason (gPc [.int a0] sz D vwCl (tY Y) (wC Y A S)) (va_Qi Q (fun S' t => gH D vwCl (tY Y) (wC Y A S') t) (gF A 65 sz)) 0 0 (gF A 65 sz) := by
  refine gMet_z (cc := cX9_isSeason) (maxL := 1) (by decide +kernel) rfl (Nat.le_of_ble_eq_true rfl) (fun p e s m args below meth c Z H locs hx hb hml hts hown hK hP hS hret ls hl => ?_)
  have hown : s.vm.findClass RX9 = some m.cls := hown
  have hl : lv_has ls 1 [(0, .int a0)] := hl
  have hD : ∀ S0 : gS, va_D (gF A 65 s.heap.size) (wC Y A S0) := fun S0 => dC hI S0 (fun k hk => gF_in hk)
  refine lv_iload_n hx hb dX9_isSeason_0 rfl (lv_at hl 0 rfl) ?_
  refine lv_if_lt (tgt := 14) hx hb dX9_isSeason_1 (by decide) (fun c1 => ?_) (fun c1 => ?_)
  · have h := h.1 c1
    refine lv_iconst (v := (0 : Int32)) hx hb dX9_isSeason_14 (by decide) ?_
    exact hret _ _ _ _ _ _ dX9_isSeason_15 rfl h hP hS
  · have h := h.2 c1
    refine lv_iload_n hx hb dX9_isSeason_4 rfl (lv_at hl 0 rfl) ?_
    refine lv_bipush (v := (34 : Int32)) hx hb dX9_isSeason_5 (by decide) ?_
    refine lv_icmp_ge (tgt := 14) hx hb dX9_isSeason_7 (by decide) (fun c2 => ?_) (fun c2 => ?_)
    · have h := h.1 c2
      refine lv_iconst (v := (0 : Int32)) hx hb dX9_isSeason_14 (by decide) ?_
      exact hret _ _ _ _ _ _ dX9_isSeason_15 rfl h hP hS
    · have h := h.2 c2
      refine lv_iconst (v := (1 : Int32)) hx hb dX9_isSeason_10 (by decide) ?_
      refine lv_goto (tgt := 15) hx hb dX9_isSeason_11 (by decide) ?_
      exact hret _ _ _ _ _ _ dX9_isSeason_15 rfl h hP hS

def qX9_used (S : gS) (a1 : Int32) (a2 : Int32) (a3 : Int32) (a4 : Int32) (Q : Int32 → gS → Prop) : Prop :=
  qX9_isSeason S a1 (fun r2 S1 => (r2 = 0 → (qX9_refuse S1 (-1 : Int32) (fun r30 S29 => Q r30 S29))) ∧ (¬ r2 = 0 → ((a2 < 0 → (qX9_refuse S1 (-4 : Int32) (fun r6 S5 => Q r6 S5))) ∧ (¬ a2 < 0 → ((a3 < 0 → (qX9_refuse S1 (-4 : Int32) (fun r9 S8 => Q r9 S8))) ∧ (¬ a3 < 0 → ((0 ≤ a4 → (((100000 : Int32) < a2 → (qX9_refuse S1 (-6 : Int32) (fun r13 S12 => Q r13 S12))) ∧ (¬ (100000 : Int32) < a2 → (((100000 : Int32) < a3 → (qX9_refuse S1 (-6 : Int32) (fun r16 S15 => Q r16 S15))) ∧ (¬ (100000 : Int32) < a3 → ((a4 ≤ (100000 : Int32) → ((a2 ≤ a3 → (vp_in a1 34 ∧ (∀ S19 : gS, S19 = sA S1 48 (upd (ga S1 48) a1.toNatClampNeg a2) → (∀ S21 : gS, S21 = sA S19 49 (upd (ga S19 49) a1.toNatClampNeg a3) → (∀ S22 : gS, S22 = sA S21 50 (upd (ga S21 50) a1.toNatClampNeg a4) → (Q (1 : Int32) S22)))))) ∧ (¬ a2 ≤ a3 → (qX9_refuse S1 (-3 : Int32) (fun r24 S23 => Q r24 S23))))) ∧ (¬ a4 ≤ (100000 : Int32) → (qX9_refuse S1 (-6 : Int32) (fun r26 S25 => Q r26 S25))))))))) ∧ (¬ 0 ≤ a4 → (qX9_refuse S1 (-4 : Int32) (fun r28 S27 => Q r28 S27))))))))))
abbrev rmX9_used : Room := { frames := 1, cells := 0, slots := 0, locals := 22 }
set_option maxHeartbeats 4000000 in
set_option maxRecDepth 100000 in
theorem kX9_used (l : Launch) (D : va_G) (Y : Nat → ClassId) (A : Nat → Nat) (hI : iC A) (sz : Nat) (S : gS) (a1 : Int32) (a2 : Int32) (a3 : Int32) (a4 : Int32) (Q : Int32 → gS → Prop) (h : qX9_used S a1 a2 a3 a4 Q) : Met l yX9_used wsX9_used rmX9_used (gPc [.ref (A 0), .int a1, .int a2, .int a3, .int a4] sz D vwCl (tY Y) (wC Y A S)) (va_Qi Q (fun S' t => gH D vwCl (tY Y) (wC Y A S') t) (gF A 65 sz)) 0 0 (gF A 65 sz) := by
  refine gMet_i (cc := cX9_used) (maxL := 5) (by decide +kernel) rfl (Nat.le_of_ble_eq_true rfl) (fun p e s m args below meth c Z H locs hx hb hml hts hown hK hP hS hret ls hl => ?_)
  have hown : s.vm.findClass RX9 = some m.cls := hown
  have hl : lv_has ls 5 [(0, .ref (A 0)), (1, .int a1), (2, .int a2), (3, .int a3), (4, .int a4)] := hl
  have hD : ∀ S0 : gS, va_D (gF A 65 s.heap.size) (wC Y A S0) := fun S0 => dC hI S0 (fun k hk => gF_in hk)
  have k0 := hts (.constant RX9 251 100000) (by decide +kernel)
  have k1 : ∀ w ∈ u_ws RX9 TX9 15, w ∈ wsX9_used := by decide +kernel
  have k2 := hts (.fieldLink RX9 81 "CoastWatch" "seasons" "LCoastWatch$Seasons;") (by decide +kernel)
  have k3 : ∀ w ∈ u_ws RX6 TX6 3, w ∈ wsX9_used := by decide +kernel
  have k4 := hts (.fieldLink RX9 252 "CoastWatch$Seasons" "least" "[I") (by decide +kernel)
  have k5 := hts (.fieldLink RX9 255 "CoastWatch$Seasons" "most" "[I") (by decide +kernel)
  have k6 := hts (.fieldLink RX9 258 "CoastWatch$Seasons" "byLaw" "[I") (by decide +kernel)
  refine lv_iload_n hx hb dX9_used_0 rfl (lv_at hl 1 rfl) ?_
  refine gSi (As := [.int a1]) (rest := []) ⟨hx, hb, hml, hown, hts⟩ (kX9_isSeason l D Y A hI H.size S a1 _ h) (va_cwS 1 hts gX9_used_X9_isSeason rfl rfl rfl (by decide +kernel) ⟨Nat.le_of_ble_eq_true rfl, Nat.le_of_ble_eq_true rfl⟩) hK hP hS (gF_le hS.1) rfl rfl hl.1 (Nat.le_of_ble_eq_true rfl) dX9_used_1 ⟨Nat.zero_le _, Nat.zero_le _⟩ ?_
  intro r2 S1 H locs h hP hS
  refine lv_if_ne (tgt := 13) hx hb dX9_used_4 (by decide) (fun c3 => ?_) (fun c3 => ?_)
  · have h := h.2 c3
    refine lv_iload_n hx hb dX9_used_13 rfl (lv_at hl 2 rfl) ?_
    refine lv_if_lt (tgt := 26) hx hb dX9_used_14 (by decide) (fun c4 => ?_) (fun c4 => ?_)
    · have h := h.1 c4
      refine lv_aload_n hx hb dX9_used_26 rfl (lv_at hl 0 rfl) ?_
      refine lv_bipush (v := (-4 : Int32)) hx hb dX9_used_27 (by decide) ?_
      refine gVi (As := [.int (-4 : Int32)]) (rest := []) ⟨hx, hb, hml, hown, hts⟩ (kX9_refuse l D Y A hI H.size S1 (-4 : Int32) _ h) (cwV 1 hts gX9_used_X9_refuse rfl rfl rfl (by decide +kernel) ⟨Nat.le_of_ble_eq_true rfl, Nat.le_of_ble_eq_true rfl⟩) hK hP hS (gF_le hS.1) (aC0 Y A S1) (show vwCl[9]? = some (RX9, TX9, 15) from rfl) rfl rfl hl.1 (Nat.le_of_ble_eq_true rfl) dX9_used_29 ⟨Nat.zero_le _, Nat.zero_le _⟩ ?_
      intro r6 S5 H locs h hP hS
      exact hret _ _ _ _ _ _ dX9_used_32 h hP hS
    · have h := h.2 c4
      refine lv_iload_n hx hb dX9_used_17 rfl (lv_at hl 3 rfl) ?_
      refine lv_if_lt (tgt := 26) hx hb dX9_used_18 (by decide) (fun c7 => ?_) (fun c7 => ?_)
      · have h := h.1 c7
        refine lv_aload_n hx hb dX9_used_26 rfl (lv_at hl 0 rfl) ?_
        refine lv_bipush (v := (-4 : Int32)) hx hb dX9_used_27 (by decide) ?_
        refine gVi (As := [.int (-4 : Int32)]) (rest := []) ⟨hx, hb, hml, hown, hts⟩ (kX9_refuse l D Y A hI H.size S1 (-4 : Int32) _ h) (cwV 1 hts gX9_used_X9_refuse rfl rfl rfl (by decide +kernel) ⟨Nat.le_of_ble_eq_true rfl, Nat.le_of_ble_eq_true rfl⟩) hK hP hS (gF_le hS.1) (aC0 Y A S1) (show vwCl[9]? = some (RX9, TX9, 15) from rfl) rfl rfl hl.1 (Nat.le_of_ble_eq_true rfl) dX9_used_29 ⟨Nat.zero_le _, Nat.zero_le _⟩ ?_
        intro r9 S8 H locs h hP hS
        exact hret _ _ _ _ _ _ dX9_used_32 h hP hS
      · have h := h.2 c7
        refine lv_iload hx hb dX9_used_21 (lv_at hl 4 rfl) ?_
        refine lv_if_ge (tgt := 33) hx hb dX9_used_23 (by decide) (fun c10 => ?_) (fun c10 => ?_)
        · have h := h.1 c10
          refine lv_iload_n hx hb dX9_used_33 rfl (lv_at hl 2 rfl) ?_
          refine lv_ldc (v := (100000 : Int32)) hx hb hown k0 dX9_used_34 ?_
          refine lv_icmp_gt (tgt := 52) hx hb dX9_used_36 (by decide) (fun c11 => ?_) (fun c11 => ?_)
          · have h := h.1 c11
            refine lv_aload_n hx hb dX9_used_52 rfl (lv_at hl 0 rfl) ?_
            refine lv_bipush (v := (-6 : Int32)) hx hb dX9_used_53 (by decide) ?_
            refine gVi (As := [.int (-6 : Int32)]) (rest := []) ⟨hx, hb, hml, hown, hts⟩ (kX9_refuse l D Y A hI H.size S1 (-6 : Int32) _ h) (cwV 1 hts gX9_used_X9_refuse rfl rfl rfl (by decide +kernel) ⟨Nat.le_of_ble_eq_true rfl, Nat.le_of_ble_eq_true rfl⟩) hK hP hS (gF_le hS.1) (aC0 Y A S1) (show vwCl[9]? = some (RX9, TX9, 15) from rfl) rfl rfl hl.1 (Nat.le_of_ble_eq_true rfl) dX9_used_55 ⟨Nat.zero_le _, Nat.zero_le _⟩ ?_
            intro r13 S12 H locs h hP hS
            exact hret _ _ _ _ _ _ dX9_used_58 h hP hS
          · have h := h.2 c11
            refine lv_iload_n hx hb dX9_used_39 rfl (lv_at hl 3 rfl) ?_
            refine lv_ldc (v := (100000 : Int32)) hx hb hown k0 dX9_used_40 ?_
            refine lv_icmp_gt (tgt := 52) hx hb dX9_used_42 (by decide) (fun c14 => ?_) (fun c14 => ?_)
            · have h := h.1 c14
              refine lv_aload_n hx hb dX9_used_52 rfl (lv_at hl 0 rfl) ?_
              refine lv_bipush (v := (-6 : Int32)) hx hb dX9_used_53 (by decide) ?_
              refine gVi (As := [.int (-6 : Int32)]) (rest := []) ⟨hx, hb, hml, hown, hts⟩ (kX9_refuse l D Y A hI H.size S1 (-6 : Int32) _ h) (cwV 1 hts gX9_used_X9_refuse rfl rfl rfl (by decide +kernel) ⟨Nat.le_of_ble_eq_true rfl, Nat.le_of_ble_eq_true rfl⟩) hK hP hS (gF_le hS.1) (aC0 Y A S1) (show vwCl[9]? = some (RX9, TX9, 15) from rfl) rfl rfl hl.1 (Nat.le_of_ble_eq_true rfl) dX9_used_55 ⟨Nat.zero_le _, Nat.zero_le _⟩ ?_
              intro r16 S15 H locs h hP hS
              exact hret _ _ _ _ _ _ dX9_used_58 h hP hS
            · have h := h.2 c14
              refine lv_iload hx hb dX9_used_45 (lv_at hl 4 rfl) ?_
              refine lv_ldc (v := (100000 : Int32)) hx hb hown k0 dX9_used_47 ?_
              refine lv_icmp_le (tgt := 59) hx hb dX9_used_49 (by decide) (fun c17 => ?_) (fun c17 => ?_)
              · have h := h.1 c17
                refine lv_iload_n hx hb dX9_used_59 rfl (lv_at hl 2 rfl) ?_
                refine lv_iload_n hx hb dX9_used_60 rfl (lv_at hl 3 rfl) ?_
                refine lv_icmp_le (tgt := 71) hx hb dX9_used_61 (by decide) (fun c18 => ?_) (fun c18 => ?_)
                · have h := h.1 c18
                  refine lv_aload_n hx hb dX9_used_71 rfl (lv_at hl 0 rfl) ?_
                  refine va_get (ci := 9) (v := .ref (A 8)) (C := RX9) (T := TX9) (N := 15) hx hb hts k1 hown hK hP 0 (aC0 Y A S1) rfl 13 (by decide) k2 (fun _ h9 => h9) rfl dX9_used_72 ?_
                  refine va_get (ci := 6) (v := .ref (A 61)) (C := RX6) (T := TX6) (N := 3) hx hb hts k3 hown hK hP 8 (aC8 Y A S1) rfl 0 (by decide) k4 (fun _ h9 => h9) rfl dX9_used_75 ?_
                  refine lv_iload_n hx hb dX9_used_78 rfl (lv_at hl 1 rfl) ?_
                  refine lv_iload_n hx hb dX9_used_79 rfl (lv_at hl 2 rfl) ?_
                  have v_20 := h.1
                  have h := h.2
                  obtain ⟨S19, eS19⟩ : ∃ z : gS, z = sA S1 48 (upd (ga S1 48) a1.toNatClampNeg a2) := ⟨_, rfl⟩
                  refine va_iast hx hb hK hP (hD S1) hS 61 0 (aC61 Y A S1) rfl v_20 dX9_used_80 (fun H locs hP _ hS => ?_)
                  have hP := uC61 eS19 hP
                  have h := h S19 eS19
                  refine lv_aload_n hx hb dX9_used_81 rfl (lv_at hl 0 rfl) ?_
                  refine va_get (ci := 9) (v := .ref (A 8)) (C := RX9) (T := TX9) (N := 15) hx hb hts k1 hown hK hP 0 (aC0 Y A S19) rfl 13 (by decide) k2 (fun _ h9 => h9) rfl dX9_used_82 ?_
                  refine va_get (ci := 6) (v := .ref (A 62)) (C := RX6) (T := TX6) (N := 3) hx hb hts k3 hown hK hP 8 (aC8 Y A S19) rfl 1 (by decide) k5 (fun _ h9 => h9) rfl dX9_used_85 ?_
                  refine lv_iload_n hx hb dX9_used_88 rfl (lv_at hl 1 rfl) ?_
                  refine lv_iload_n hx hb dX9_used_89 rfl (lv_at hl 3 rfl) ?_
                  obtain ⟨S21, eS21⟩ : ∃ z : gS, z = sA S19 49 (upd (ga S19 49) a1.toNatClampNeg a3) := ⟨_, rfl⟩
                  refine va_iast hx hb hK hP (hD S19) hS 62 0 (aC62 Y A S19) rfl v_20 dX9_used_90 (fun H locs hP _ hS => ?_)
                  have hP := uC62 eS21 hP
                  have h := h S21 eS21
                  refine lv_aload_n hx hb dX9_used_91 rfl (lv_at hl 0 rfl) ?_
                  refine va_get (ci := 9) (v := .ref (A 8)) (C := RX9) (T := TX9) (N := 15) hx hb hts k1 hown hK hP 0 (aC0 Y A S21) rfl 13 (by decide) k2 (fun _ h9 => h9) rfl dX9_used_92 ?_
                  refine va_get (ci := 6) (v := .ref (A 63)) (C := RX6) (T := TX6) (N := 3) hx hb hts k3 hown hK hP 8 (aC8 Y A S21) rfl 2 (by decide) k6 (fun _ h9 => h9) rfl dX9_used_95 ?_
                  refine lv_iload_n hx hb dX9_used_98 rfl (lv_at hl 1 rfl) ?_
                  refine lv_iload hx hb dX9_used_99 (lv_at hl 4 rfl) ?_
                  obtain ⟨S22, eS22⟩ : ∃ z : gS, z = sA S21 50 (upd (ga S21 50) a1.toNatClampNeg a4) := ⟨_, rfl⟩
                  refine va_iast hx hb hK hP (hD S21) hS 63 0 (aC63 Y A S21) rfl v_20 dX9_used_101 (fun H locs hP _ hS => ?_)
                  have hP := uC63 eS22 hP
                  have h := h S22 eS22
                  refine lv_iconst (v := (1 : Int32)) hx hb dX9_used_102 (by decide) ?_
                  exact hret _ _ _ _ _ _ dX9_used_103 h hP hS
                · have h := h.2 c18
                  refine lv_aload_n hx hb dX9_used_64 rfl (lv_at hl 0 rfl) ?_
                  refine lv_bipush (v := (-3 : Int32)) hx hb dX9_used_65 (by decide) ?_
                  refine gVi (As := [.int (-3 : Int32)]) (rest := []) ⟨hx, hb, hml, hown, hts⟩ (kX9_refuse l D Y A hI H.size S1 (-3 : Int32) _ h) (cwV 1 hts gX9_used_X9_refuse rfl rfl rfl (by decide +kernel) ⟨Nat.le_of_ble_eq_true rfl, Nat.le_of_ble_eq_true rfl⟩) hK hP hS (gF_le hS.1) (aC0 Y A S1) (show vwCl[9]? = some (RX9, TX9, 15) from rfl) rfl rfl hl.1 (Nat.le_of_ble_eq_true rfl) dX9_used_67 ⟨Nat.zero_le _, Nat.zero_le _⟩ ?_
                  intro r24 S23 H locs h hP hS
                  exact hret _ _ _ _ _ _ dX9_used_70 h hP hS
              · have h := h.2 c17
                refine lv_aload_n hx hb dX9_used_52 rfl (lv_at hl 0 rfl) ?_
                refine lv_bipush (v := (-6 : Int32)) hx hb dX9_used_53 (by decide) ?_
                refine gVi (As := [.int (-6 : Int32)]) (rest := []) ⟨hx, hb, hml, hown, hts⟩ (kX9_refuse l D Y A hI H.size S1 (-6 : Int32) _ h) (cwV 1 hts gX9_used_X9_refuse rfl rfl rfl (by decide +kernel) ⟨Nat.le_of_ble_eq_true rfl, Nat.le_of_ble_eq_true rfl⟩) hK hP hS (gF_le hS.1) (aC0 Y A S1) (show vwCl[9]? = some (RX9, TX9, 15) from rfl) rfl rfl hl.1 (Nat.le_of_ble_eq_true rfl) dX9_used_55 ⟨Nat.zero_le _, Nat.zero_le _⟩ ?_
                intro r26 S25 H locs h hP hS
                exact hret _ _ _ _ _ _ dX9_used_58 h hP hS
        · have h := h.2 c10
          refine lv_aload_n hx hb dX9_used_26 rfl (lv_at hl 0 rfl) ?_
          refine lv_bipush (v := (-4 : Int32)) hx hb dX9_used_27 (by decide) ?_
          refine gVi (As := [.int (-4 : Int32)]) (rest := []) ⟨hx, hb, hml, hown, hts⟩ (kX9_refuse l D Y A hI H.size S1 (-4 : Int32) _ h) (cwV 1 hts gX9_used_X9_refuse rfl rfl rfl (by decide +kernel) ⟨Nat.le_of_ble_eq_true rfl, Nat.le_of_ble_eq_true rfl⟩) hK hP hS (gF_le hS.1) (aC0 Y A S1) (show vwCl[9]? = some (RX9, TX9, 15) from rfl) rfl rfl hl.1 (Nat.le_of_ble_eq_true rfl) dX9_used_29 ⟨Nat.zero_le _, Nat.zero_le _⟩ ?_
          intro r28 S27 H locs h hP hS
          exact hret _ _ _ _ _ _ dX9_used_32 h hP hS
  · have h := h.1 c3
    refine lv_aload_n hx hb dX9_used_7 rfl (lv_at hl 0 rfl) ?_
    refine lv_iconst (v := (-1 : Int32)) hx hb dX9_used_8 (by decide) ?_
    refine gVi (As := [.int (-1 : Int32)]) (rest := []) ⟨hx, hb, hml, hown, hts⟩ (kX9_refuse l D Y A hI H.size S1 (-1 : Int32) _ h) (cwV 1 hts gX9_used_X9_refuse rfl rfl rfl (by decide +kernel) ⟨Nat.le_of_ble_eq_true rfl, Nat.le_of_ble_eq_true rfl⟩) hK hP hS (gF_le hS.1) (aC0 Y A S1) (show vwCl[9]? = some (RX9, TX9, 15) from rfl) rfl rfl hl.1 (Nat.le_of_ble_eq_true rfl) dX9_used_9 ⟨Nat.zero_le _, Nat.zero_le _⟩ ?_
    intro r30 S29 H locs h hP hS
    exact hret _ _ _ _ _ _ dX9_used_12 h hP hS

def qX9_landed (S : gS) (a1 : Int32) (a2 : Int32) (Q : Int32 → gS → Prop) : Prop :=
  qX9_isSeason S a1 (fun r2 S1 => (r2 = 0 → (qX9_refuse S1 (-1 : Int32) (fun r25 S24 => Q r25 S24))) ∧ (¬ r2 = 0 → ((a2 = (0 : Int32) → (vp_in a1 34 ∧ (qX5_seizedIn S1 a1 (fun r7 S6 => qX6_landedOf S6 a1 (ga S1 48 a1.toNatClampNeg) r7 (fun r9 S8 => Q r9 S8))))) ∧ (¬ a2 = (0 : Int32) → ((a2 = (1 : Int32) → (vp_in a1 34 ∧ (qX5_seizedIn S1 a1 (fun r13 S12 => qX6_landedOf S12 a1 (ga S1 49 a1.toNatClampNeg) r13 (fun r15 S14 => Q r15 S14))))) ∧ (¬ a2 = (1 : Int32) → ((a2 = (2 : Int32) → (qX5_heldIn S1 a1 (fun r18 S17 => Q r18 S17))) ∧ (¬ a2 = (2 : Int32) → ((a2 = (3 : Int32) → (qX5_seizedIn S1 a1 (fun r21 S20 => Q r21 S20))) ∧ (¬ a2 = (3 : Int32) → (qX9_refuse S1 (-2 : Int32) (fun r23 S22 => Q r23 S22))))))))))))
abbrev rmX9_landed : Room := { frames := 2, cells := 0, slots := 0, locals := 38 }
set_option maxHeartbeats 4000000 in
set_option maxRecDepth 100000 in
theorem kX9_landed (l : Launch) (D : va_G) (Y : Nat → ClassId) (A : Nat → Nat) (hI : iC A) (sz : Nat) (S : gS) (a1 : Int32) (a2 : Int32) (Q : Int32 → gS → Prop) (h : qX9_landed S a1 a2 Q) : Met l yX9_landed wsX9_landed rmX9_landed (gPc [.ref (A 0), .int a1, .int a2] sz D vwCl (tY Y) (wC Y A S)) (va_Qi Q (fun S' t => gH D vwCl (tY Y) (wC Y A S') t) (gF A 65 sz)) 0 0 (gF A 65 sz) := by
  refine gMet_i (cc := cX9_landed) (maxL := 3) (by decide +kernel) rfl (Nat.le_of_ble_eq_true rfl) (fun p e s m args below meth c Z H locs hx hb hml hts hown hK hP hS hret ls hl => ?_)
  have hown : s.vm.findClass RX9 = some m.cls := hown
  have hl : lv_has ls 3 [(0, .ref (A 0)), (1, .int a1), (2, .int a2)] := hl
  have hD : ∀ S0 : gS, va_D (gF A 65 s.heap.size) (wC Y A S0) := fun S0 => dC hI S0 (fun k hk => gF_in hk)
  have k0 : ∀ w ∈ u_ws RX9 TX9 15, w ∈ wsX9_landed := by decide +kernel
  have k1 := hts (.fieldLink RX9 81 "CoastWatch" "seasons" "LCoastWatch$Seasons;") (by decide +kernel)
  have k2 : ∀ w ∈ u_ws RX6 TX6 3, w ∈ wsX9_landed := by decide +kernel
  have k3 := hts (.fieldLink RX9 252 "CoastWatch$Seasons" "least" "[I") (by decide +kernel)
  have k4 := hts (.fieldLink RX9 60 "CoastWatch" "lots" "LCoastWatch$Lots;") (by decide +kernel)
  have k5 := hts (.fieldLink RX9 255 "CoastWatch$Seasons" "most" "[I") (by decide +kernel)
  refine lv_iload_n hx hb dX9_landed_0 rfl (lv_at hl 1 rfl) ?_
  refine gSi (As := [.int a1]) (rest := []) ⟨hx, hb, hml, hown, hts⟩ (kX9_isSeason l D Y A hI H.size S a1 _ h) (va_cwS 1 hts gX9_landed_X9_isSeason rfl rfl rfl (by decide +kernel) ⟨Nat.le_of_ble_eq_true rfl, Nat.le_of_ble_eq_true rfl⟩) hK hP hS (gF_le hS.1) rfl rfl hl.1 (Nat.le_of_ble_eq_true rfl) dX9_landed_1 ⟨Nat.zero_le _, Nat.zero_le _⟩ ?_
  intro r2 S1 H locs h hP hS
  refine lv_if_ne (tgt := 13) hx hb dX9_landed_4 (by decide) (fun c3 => ?_) (fun c3 => ?_)
  · have h := h.2 c3
    refine lv_iload_n hx hb dX9_landed_13 rfl (lv_at hl 2 rfl) ?_
    by_cases c4 : a2 = (0 : Int32)
    · have h := h.1 c4
      refine lv_tableIn (tgt := 44) hx hb dX9_landed_14 (by rw [c4]; decide) (by rw [c4]; decide) (by rw [c4]; rfl) (by decide) ?_
      refine lv_aload_n hx hb dX9_landed_44 rfl (lv_at hl 0 rfl) ?_
      refine va_get (ci := 9) (v := .ref (A 8)) (C := RX9) (T := TX9) (N := 15) hx hb hts k0 hown hK hP 0 (aC0 Y A S1) rfl 13 (by decide) k1 (fun _ h9 => h9) rfl dX9_landed_45 ?_
      refine lv_iload_n hx hb dX9_landed_48 rfl (lv_at hl 1 rfl) ?_
      refine lv_aload_n hx hb dX9_landed_49 rfl (lv_at hl 0 rfl) ?_
      refine va_get (ci := 9) (v := .ref (A 8)) (C := RX9) (T := TX9) (N := 15) hx hb hts k0 hown hK hP 0 (aC0 Y A S1) rfl 13 (by decide) k1 (fun _ h9 => h9) rfl dX9_landed_50 ?_
      refine va_get (ci := 6) (v := .ref (A 61)) (C := RX6) (T := TX6) (N := 3) hx hb hts k2 hown hK hP 8 (aC8 Y A S1) rfl 0 (by decide) k3 (fun _ h9 => h9) rfl dX9_landed_53 ?_
      refine lv_iload_n hx hb dX9_landed_56 rfl (lv_at hl 1 rfl) ?_
      have v_5 := h.1
      have h := h.2
      refine va_iald hx hb hK hP 61 0 (aC61 Y A S1) rfl v_5 dX9_landed_57 ?_
      refine lv_aload_n hx hb dX9_landed_58 rfl (lv_at hl 0 rfl) ?_
      refine va_get (ci := 9) (v := .ref (A 5)) (C := RX9) (T := TX9) (N := 15) hx hb hts k0 hown hK hP 0 (aC0 Y A S1) rfl 10 (by decide) k4 (fun _ h9 => h9) rfl dX9_landed_59 ?_
      refine lv_iload_n hx hb dX9_landed_62 rfl (lv_at hl 1 rfl) ?_
      refine gVi (As := [.int a1]) (rest := [.int (ga S1 48 a1.toNatClampNeg), .int a1, .ref (A 8)]) ⟨hx, hb, hml, hown, hts⟩ (kX5_seizedIn l D Y A hI H.size S1 a1 _ h) (cwV 1 hts gX9_landed_X5_seizedIn rfl rfl rfl (by decide +kernel) ⟨Nat.le_of_ble_eq_true rfl, Nat.le_of_ble_eq_true rfl⟩) hK hP hS (gF_le hS.1) (aC5 Y A S1) (show vwCl[5]? = some (RX5, TX5, 7) from rfl) rfl rfl hl.1 (Nat.le_of_ble_eq_true rfl) dX9_landed_63 ⟨Nat.zero_le _, Nat.zero_le _⟩ ?_
      intro r7 S6 H locs h hP hS
      refine gVi (As := [.int a1, .int (ga S1 48 a1.toNatClampNeg), .int r7]) (rest := []) ⟨hx, hb, hml, hown, hts⟩ (kX6_landedOf l D Y A hI H.size S6 a1 (ga S1 48 a1.toNatClampNeg) r7 _ h) (cwV 3 hts gX9_landed_X6_landedOf rfl rfl rfl (by decide +kernel) ⟨Nat.le_of_ble_eq_true rfl, Nat.le_of_ble_eq_true rfl⟩) hK hP hS (gF_le hS.1) (aC8 Y A S6) (show vwCl[6]? = some (RX6, TX6, 3) from rfl) rfl rfl hl.1 (Nat.le_of_ble_eq_true rfl) dX9_landed_66 ⟨Nat.zero_le _, Nat.zero_le _⟩ ?_
      intro r9 S8 H locs h hP hS
      exact hret _ _ _ _ _ _ dX9_landed_69 h hP hS
    have h := h.2 c4
    by_cases c10 : a2 = (1 : Int32)
    · have h := h.1 c10
      refine lv_tableIn (tgt := 70) hx hb dX9_landed_14 (by rw [c10]; decide) (by rw [c10]; decide) (by rw [c10]; rfl) (by decide) ?_
      refine lv_aload_n hx hb dX9_landed_70 rfl (lv_at hl 0 rfl) ?_
      refine va_get (ci := 9) (v := .ref (A 8)) (C := RX9) (T := TX9) (N := 15) hx hb hts k0 hown hK hP 0 (aC0 Y A S1) rfl 13 (by decide) k1 (fun _ h9 => h9) rfl dX9_landed_71 ?_
      refine lv_iload_n hx hb dX9_landed_74 rfl (lv_at hl 1 rfl) ?_
      refine lv_aload_n hx hb dX9_landed_75 rfl (lv_at hl 0 rfl) ?_
      refine va_get (ci := 9) (v := .ref (A 8)) (C := RX9) (T := TX9) (N := 15) hx hb hts k0 hown hK hP 0 (aC0 Y A S1) rfl 13 (by decide) k1 (fun _ h9 => h9) rfl dX9_landed_76 ?_
      refine va_get (ci := 6) (v := .ref (A 62)) (C := RX6) (T := TX6) (N := 3) hx hb hts k2 hown hK hP 8 (aC8 Y A S1) rfl 1 (by decide) k5 (fun _ h9 => h9) rfl dX9_landed_79 ?_
      refine lv_iload_n hx hb dX9_landed_82 rfl (lv_at hl 1 rfl) ?_
      have v_11 := h.1
      have h := h.2
      refine va_iald hx hb hK hP 62 0 (aC62 Y A S1) rfl v_11 dX9_landed_83 ?_
      refine lv_aload_n hx hb dX9_landed_84 rfl (lv_at hl 0 rfl) ?_
      refine va_get (ci := 9) (v := .ref (A 5)) (C := RX9) (T := TX9) (N := 15) hx hb hts k0 hown hK hP 0 (aC0 Y A S1) rfl 10 (by decide) k4 (fun _ h9 => h9) rfl dX9_landed_85 ?_
      refine lv_iload_n hx hb dX9_landed_88 rfl (lv_at hl 1 rfl) ?_
      refine gVi (As := [.int a1]) (rest := [.int (ga S1 49 a1.toNatClampNeg), .int a1, .ref (A 8)]) ⟨hx, hb, hml, hown, hts⟩ (kX5_seizedIn l D Y A hI H.size S1 a1 _ h) (cwV 1 hts gX9_landed_X5_seizedIn rfl rfl rfl (by decide +kernel) ⟨Nat.le_of_ble_eq_true rfl, Nat.le_of_ble_eq_true rfl⟩) hK hP hS (gF_le hS.1) (aC5 Y A S1) (show vwCl[5]? = some (RX5, TX5, 7) from rfl) rfl rfl hl.1 (Nat.le_of_ble_eq_true rfl) dX9_landed_89 ⟨Nat.zero_le _, Nat.zero_le _⟩ ?_
      intro r13 S12 H locs h hP hS
      refine gVi (As := [.int a1, .int (ga S1 49 a1.toNatClampNeg), .int r13]) (rest := []) ⟨hx, hb, hml, hown, hts⟩ (kX6_landedOf l D Y A hI H.size S12 a1 (ga S1 49 a1.toNatClampNeg) r13 _ h) (cwV 3 hts gX9_landed_X6_landedOf rfl rfl rfl (by decide +kernel) ⟨Nat.le_of_ble_eq_true rfl, Nat.le_of_ble_eq_true rfl⟩) hK hP hS (gF_le hS.1) (aC8 Y A S12) (show vwCl[6]? = some (RX6, TX6, 3) from rfl) rfl rfl hl.1 (Nat.le_of_ble_eq_true rfl) dX9_landed_92 ⟨Nat.zero_le _, Nat.zero_le _⟩ ?_
      intro r15 S14 H locs h hP hS
      exact hret _ _ _ _ _ _ dX9_landed_95 h hP hS
    have h := h.2 c10
    by_cases c16 : a2 = (2 : Int32)
    · have h := h.1 c16
      refine lv_tableIn (tgt := 96) hx hb dX9_landed_14 (by rw [c16]; decide) (by rw [c16]; decide) (by rw [c16]; rfl) (by decide) ?_
      refine lv_aload_n hx hb dX9_landed_96 rfl (lv_at hl 0 rfl) ?_
      refine va_get (ci := 9) (v := .ref (A 5)) (C := RX9) (T := TX9) (N := 15) hx hb hts k0 hown hK hP 0 (aC0 Y A S1) rfl 10 (by decide) k4 (fun _ h9 => h9) rfl dX9_landed_97 ?_
      refine lv_iload_n hx hb dX9_landed_100 rfl (lv_at hl 1 rfl) ?_
      refine gVi (As := [.int a1]) (rest := []) ⟨hx, hb, hml, hown, hts⟩ (kX5_heldIn l D Y A hI H.size S1 a1 _ h) (cwV 1 hts gX9_landed_X5_heldIn rfl rfl rfl (by decide +kernel) ⟨Nat.le_of_ble_eq_true rfl, Nat.le_of_ble_eq_true rfl⟩) hK hP hS (gF_le hS.1) (aC5 Y A S1) (show vwCl[5]? = some (RX5, TX5, 7) from rfl) rfl rfl hl.1 (Nat.le_of_ble_eq_true rfl) dX9_landed_101 ⟨Nat.zero_le _, Nat.zero_le _⟩ ?_
      intro r18 S17 H locs h hP hS
      exact hret _ _ _ _ _ _ dX9_landed_104 h hP hS
    have h := h.2 c16
    by_cases c19 : a2 = (3 : Int32)
    · have h := h.1 c19
      refine lv_tableIn (tgt := 105) hx hb dX9_landed_14 (by rw [c19]; decide) (by rw [c19]; decide) (by rw [c19]; rfl) (by decide) ?_
      refine lv_aload_n hx hb dX9_landed_105 rfl (lv_at hl 0 rfl) ?_
      refine va_get (ci := 9) (v := .ref (A 5)) (C := RX9) (T := TX9) (N := 15) hx hb hts k0 hown hK hP 0 (aC0 Y A S1) rfl 10 (by decide) k4 (fun _ h9 => h9) rfl dX9_landed_106 ?_
      refine lv_iload_n hx hb dX9_landed_109 rfl (lv_at hl 1 rfl) ?_
      refine gVi (As := [.int a1]) (rest := []) ⟨hx, hb, hml, hown, hts⟩ (kX5_seizedIn l D Y A hI H.size S1 a1 _ h) (cwV 1 hts gX9_landed_X5_seizedIn rfl rfl rfl (by decide +kernel) ⟨Nat.le_of_ble_eq_true rfl, Nat.le_of_ble_eq_true rfl⟩) hK hP hS (gF_le hS.1) (aC5 Y A S1) (show vwCl[5]? = some (RX5, TX5, 7) from rfl) rfl rfl hl.1 (Nat.le_of_ble_eq_true rfl) dX9_landed_110 ⟨Nat.zero_le _, Nat.zero_le _⟩ ?_
      intro r21 S20 H locs h hP hS
      exact hret _ _ _ _ _ _ dX9_landed_113 h hP hS
    have h := h.2 c19
    refine lv_tableOut (tgt := 114) hx hb dX9_landed_14 (by
      have := ne_toInt (z := 0) c4 (by decide)
      have := ne_toInt (z := 1) c10 (by decide)
      have := ne_toInt (z := 2) c16 (by decide)
      have := ne_toInt (z := 3) c19 (by decide)
      omega) (by decide) ?_
    refine lv_aload_n hx hb dX9_landed_114 rfl (lv_at hl 0 rfl) ?_
    refine lv_bipush (v := (-2 : Int32)) hx hb dX9_landed_115 (by decide) ?_
    refine gVi (As := [.int (-2 : Int32)]) (rest := []) ⟨hx, hb, hml, hown, hts⟩ (kX9_refuse l D Y A hI H.size S1 (-2 : Int32) _ h) (cwV 1 hts gX9_landed_X9_refuse rfl rfl rfl (by decide +kernel) ⟨Nat.le_of_ble_eq_true rfl, Nat.le_of_ble_eq_true rfl⟩) hK hP hS (gF_le hS.1) (aC0 Y A S1) (show vwCl[9]? = some (RX9, TX9, 15) from rfl) rfl rfl hl.1 (Nat.le_of_ble_eq_true rfl) dX9_landed_117 ⟨Nat.zero_le _, Nat.zero_le _⟩ ?_
    intro r23 S22 H locs h hP hS
    exact hret _ _ _ _ _ _ dX9_landed_120 h hP hS
  · have h := h.1 c3
    refine lv_aload_n hx hb dX9_landed_7 rfl (lv_at hl 0 rfl) ?_
    refine lv_iconst (v := (-1 : Int32)) hx hb dX9_landed_8 (by decide) ?_
    refine gVi (As := [.int (-1 : Int32)]) (rest := []) ⟨hx, hb, hml, hown, hts⟩ (kX9_refuse l D Y A hI H.size S1 (-1 : Int32) _ h) (cwV 1 hts gX9_landed_X9_refuse rfl rfl rfl (by decide +kernel) ⟨Nat.le_of_ble_eq_true rfl, Nat.le_of_ble_eq_true rfl⟩) hK hP hS (gF_le hS.1) (aC0 Y A S1) (show vwCl[9]? = some (RX9, TX9, 15) from rfl) rfl rfl hl.1 (Nat.le_of_ble_eq_true rfl) dX9_landed_9 ⟨Nat.zero_le _, Nat.zero_le _⟩ ?_
    intro r25 S24 H locs h hP hS
    exact hret _ _ _ _ _ _ dX9_landed_12 h hP hS

def qX9_lotOf (S : gS) (a1 : Int32) (a2 : Int32) (Q : Int32 → gS → Prop) : Prop :=
  (a1 < 0 → (qX9_refuse S (-1 : Int32) (fun r3 S2 => Q r3 S2))) ∧ (¬ a1 < 0 → ((a1 < (gi S 6) → ((a2 = (0 : Int32) → (vp_in a1 100 ∧ (Q (ga S 34 a1.toNatClampNeg) S))) ∧ (¬ a2 = (0 : Int32) → ((a2 = (1 : Int32) → (vp_in a1 100 ∧ (Q (ga S 35 a1.toNatClampNeg) S))) ∧ (¬ a2 = (1 : Int32) → ((a2 = (2 : Int32) → (vp_in a1 100 ∧ (Q (ga S 36 a1.toNatClampNeg) S))) ∧ (¬ a2 = (2 : Int32) → ((a2 = (3 : Int32) → (vp_in a1 100 ∧ (Q (ga S 37 a1.toNatClampNeg) S))) ∧ (¬ a2 = (3 : Int32) → ((a2 = (4 : Int32) → (vp_in a1 100 ∧ (Q (ga S 38 a1.toNatClampNeg) S))) ∧ (¬ a2 = (4 : Int32) → ((a2 = (5 : Int32) → (vp_in a1 100 ∧ (((ga S 38 a1.toNatClampNeg) = (1 : Int32) → (Q (-9 : Int32) S)) ∧ (¬ (ga S 38 a1.toNatClampNeg) = (1 : Int32) → (Q (ga S 39 a1.toNatClampNeg) S))))) ∧ (¬ a2 = (5 : Int32) → (qX9_refuse S (-2 : Int32) (fun r19 S18 => Q r19 S18))))))))))))))) ∧ (¬ a1 < (gi S 6) → (qX9_refuse S (-1 : Int32) (fun r21 S20 => Q r21 S20)))))
abbrev rmX9_lotOf : Room := { frames := 1, cells := 0, slots := 0, locals := 22 }
set_option maxHeartbeats 4000000 in
set_option maxRecDepth 100000 in
theorem kX9_lotOf (l : Launch) (D : va_G) (Y : Nat → ClassId) (A : Nat → Nat) (hI : iC A) (sz : Nat) (S : gS) (a1 : Int32) (a2 : Int32) (Q : Int32 → gS → Prop) (h : qX9_lotOf S a1 a2 Q) : Met l yX9_lotOf wsX9_lotOf rmX9_lotOf (gPc [.ref (A 0), .int a1, .int a2] sz D vwCl (tY Y) (wC Y A S)) (va_Qi Q (fun S' t => gH D vwCl (tY Y) (wC Y A S') t) (gF A 65 sz)) 0 0 (gF A 65 sz) := by
  refine gMet_i (cc := cX9_lotOf) (maxL := 3) (by decide +kernel) rfl (Nat.le_of_ble_eq_true rfl) (fun p e s m args below meth c Z H locs hx hb hml hts hown hK hP hS hret ls hl => ?_)
  have hown : s.vm.findClass RX9 = some m.cls := hown
  have hl : lv_has ls 3 [(0, .ref (A 0)), (1, .int a1), (2, .int a2)] := hl
  have hD : ∀ S0 : gS, va_D (gF A 65 s.heap.size) (wC Y A S0) := fun S0 => dC hI S0 (fun k hk => gF_in hk)
  have k0 : ∀ w ∈ u_ws RX9 TX9 15, w ∈ wsX9_lotOf := by decide +kernel
  have k1 := hts (.fieldLink RX9 60 "CoastWatch" "lots" "LCoastWatch$Lots;") (by decide +kernel)
  have k2 : ∀ w ∈ u_ws RX5 TX5 7, w ∈ wsX9_lotOf := by decide +kernel
  have k3 := hts (.fieldLink RX9 185 "CoastWatch$Lots" "size" "I") (by decide +kernel)
  have k4 := hts (.fieldLink RX9 270 "CoastWatch$Lots" "boat" "[I") (by decide +kernel)
  have k5 := hts (.fieldLink RX9 199 "CoastWatch$Lots" "casks" "[I") (by decide +kernel)
  have k6 := hts (.fieldLink RX9 273 "CoastWatch$Lots" "night" "[I") (by decide +kernel)
  have k7 := hts (.fieldLink RX9 275 "CoastWatch$Lots" "cove" "[I") (by decide +kernel)
  have k8 := hts (.fieldLink RX9 196 "CoastWatch$Lots" "place" "[I") (by decide +kernel)
  have k9 := hts (.fieldLink RX9 278 "CoastWatch$Lots" "hide" "[I") (by decide +kernel)
  refine lv_iload_n hx hb dX9_lotOf_0 rfl (lv_at hl 1 rfl) ?_
  refine lv_if_lt (tgt := 15) hx hb dX9_lotOf_1 (by decide) (fun c1 => ?_) (fun c1 => ?_)
  · have h := h.1 c1
    refine lv_aload_n hx hb dX9_lotOf_15 rfl (lv_at hl 0 rfl) ?_
    refine lv_iconst (v := (-1 : Int32)) hx hb dX9_lotOf_16 (by decide) ?_
    refine gVi (As := [.int (-1 : Int32)]) (rest := []) ⟨hx, hb, hml, hown, hts⟩ (kX9_refuse l D Y A hI H.size S (-1 : Int32) _ h) (cwV 1 hts gX9_lotOf_X9_refuse rfl rfl rfl (by decide +kernel) ⟨Nat.le_of_ble_eq_true rfl, Nat.le_of_ble_eq_true rfl⟩) hK hP hS (gF_le hS.1) (aC0 Y A S) (show vwCl[9]? = some (RX9, TX9, 15) from rfl) rfl rfl hl.1 (Nat.le_of_ble_eq_true rfl) dX9_lotOf_17 ⟨Nat.zero_le _, Nat.zero_le _⟩ ?_
    intro r3 S2 H locs h hP hS
    exact hret _ _ _ _ _ _ dX9_lotOf_20 h hP hS
  · have h := h.2 c1
    refine lv_iload_n hx hb dX9_lotOf_4 rfl (lv_at hl 1 rfl) ?_
    refine lv_aload_n hx hb dX9_lotOf_5 rfl (lv_at hl 0 rfl) ?_
    refine va_get (ci := 9) (v := .ref (A 5)) (C := RX9) (T := TX9) (N := 15) hx hb hts k0 hown hK hP 0 (aC0 Y A S) rfl 10 (by decide) k1 (fun _ h9 => h9) rfl dX9_lotOf_6 ?_
    refine va_get (ci := 5) (v := .int (gi S 6)) (C := RX5) (T := TX5) (N := 7) hx hb hts k2 hown hK hP 5 (aC5 Y A S) rfl 0 (by decide) k3 (fun _ h9 => h9) rfl dX9_lotOf_9 ?_
    refine lv_icmp_lt (tgt := 21) hx hb dX9_lotOf_12 (by decide) (fun c4 => ?_) (fun c4 => ?_)
    · have h := h.1 c4
      refine lv_iload_n hx hb dX9_lotOf_21 rfl (lv_at hl 2 rfl) ?_
      by_cases c5 : a2 = (0 : Int32)
      · have h := h.1 c5
        refine lv_tableIn (tgt := 60) hx hb dX9_lotOf_22 (by rw [c5]; decide) (by rw [c5]; decide) (by rw [c5]; rfl) (by decide) ?_
        refine lv_aload_n hx hb dX9_lotOf_60 rfl (lv_at hl 0 rfl) ?_
        refine va_get (ci := 9) (v := .ref (A 5)) (C := RX9) (T := TX9) (N := 15) hx hb hts k0 hown hK hP 0 (aC0 Y A S) rfl 10 (by decide) k1 (fun _ h9 => h9) rfl dX9_lotOf_61 ?_
        refine va_get (ci := 5) (v := .ref (A 47)) (C := RX5) (T := TX5) (N := 7) hx hb hts k2 hown hK hP 5 (aC5 Y A S) rfl 1 (by decide) k4 (fun _ h9 => h9) rfl dX9_lotOf_64 ?_
        refine lv_iload_n hx hb dX9_lotOf_67 rfl (lv_at hl 1 rfl) ?_
        have v_6 := h.1
        have h := h.2
        refine va_iald hx hb hK hP 47 0 (aC47 Y A S) rfl v_6 dX9_lotOf_68 ?_
        exact hret _ _ _ _ _ _ dX9_lotOf_69 h hP hS
      have h := h.2 c5
      by_cases c7 : a2 = (1 : Int32)
      · have h := h.1 c7
        refine lv_tableIn (tgt := 70) hx hb dX9_lotOf_22 (by rw [c7]; decide) (by rw [c7]; decide) (by rw [c7]; rfl) (by decide) ?_
        refine lv_aload_n hx hb dX9_lotOf_70 rfl (lv_at hl 0 rfl) ?_
        refine va_get (ci := 9) (v := .ref (A 5)) (C := RX9) (T := TX9) (N := 15) hx hb hts k0 hown hK hP 0 (aC0 Y A S) rfl 10 (by decide) k1 (fun _ h9 => h9) rfl dX9_lotOf_71 ?_
        refine va_get (ci := 5) (v := .ref (A 48)) (C := RX5) (T := TX5) (N := 7) hx hb hts k2 hown hK hP 5 (aC5 Y A S) rfl 2 (by decide) k5 (fun _ h9 => h9) rfl dX9_lotOf_74 ?_
        refine lv_iload_n hx hb dX9_lotOf_77 rfl (lv_at hl 1 rfl) ?_
        have v_8 := h.1
        have h := h.2
        refine va_iald hx hb hK hP 48 0 (aC48 Y A S) rfl v_8 dX9_lotOf_78 ?_
        exact hret _ _ _ _ _ _ dX9_lotOf_79 h hP hS
      have h := h.2 c7
      by_cases c9 : a2 = (2 : Int32)
      · have h := h.1 c9
        refine lv_tableIn (tgt := 80) hx hb dX9_lotOf_22 (by rw [c9]; decide) (by rw [c9]; decide) (by rw [c9]; rfl) (by decide) ?_
        refine lv_aload_n hx hb dX9_lotOf_80 rfl (lv_at hl 0 rfl) ?_
        refine va_get (ci := 9) (v := .ref (A 5)) (C := RX9) (T := TX9) (N := 15) hx hb hts k0 hown hK hP 0 (aC0 Y A S) rfl 10 (by decide) k1 (fun _ h9 => h9) rfl dX9_lotOf_81 ?_
        refine va_get (ci := 5) (v := .ref (A 49)) (C := RX5) (T := TX5) (N := 7) hx hb hts k2 hown hK hP 5 (aC5 Y A S) rfl 3 (by decide) k6 (fun _ h9 => h9) rfl dX9_lotOf_84 ?_
        refine lv_iload_n hx hb dX9_lotOf_87 rfl (lv_at hl 1 rfl) ?_
        have v_10 := h.1
        have h := h.2
        refine va_iald hx hb hK hP 49 0 (aC49 Y A S) rfl v_10 dX9_lotOf_88 ?_
        exact hret _ _ _ _ _ _ dX9_lotOf_89 h hP hS
      have h := h.2 c9
      by_cases c11 : a2 = (3 : Int32)
      · have h := h.1 c11
        refine lv_tableIn (tgt := 90) hx hb dX9_lotOf_22 (by rw [c11]; decide) (by rw [c11]; decide) (by rw [c11]; rfl) (by decide) ?_
        refine lv_aload_n hx hb dX9_lotOf_90 rfl (lv_at hl 0 rfl) ?_
        refine va_get (ci := 9) (v := .ref (A 5)) (C := RX9) (T := TX9) (N := 15) hx hb hts k0 hown hK hP 0 (aC0 Y A S) rfl 10 (by decide) k1 (fun _ h9 => h9) rfl dX9_lotOf_91 ?_
        refine va_get (ci := 5) (v := .ref (A 50)) (C := RX5) (T := TX5) (N := 7) hx hb hts k2 hown hK hP 5 (aC5 Y A S) rfl 4 (by decide) k7 (fun _ h9 => h9) rfl dX9_lotOf_94 ?_
        refine lv_iload_n hx hb dX9_lotOf_97 rfl (lv_at hl 1 rfl) ?_
        have v_12 := h.1
        have h := h.2
        refine va_iald hx hb hK hP 50 0 (aC50 Y A S) rfl v_12 dX9_lotOf_98 ?_
        exact hret _ _ _ _ _ _ dX9_lotOf_99 h hP hS
      have h := h.2 c11
      by_cases c13 : a2 = (4 : Int32)
      · have h := h.1 c13
        refine lv_tableIn (tgt := 100) hx hb dX9_lotOf_22 (by rw [c13]; decide) (by rw [c13]; decide) (by rw [c13]; rfl) (by decide) ?_
        refine lv_aload_n hx hb dX9_lotOf_100 rfl (lv_at hl 0 rfl) ?_
        refine va_get (ci := 9) (v := .ref (A 5)) (C := RX9) (T := TX9) (N := 15) hx hb hts k0 hown hK hP 0 (aC0 Y A S) rfl 10 (by decide) k1 (fun _ h9 => h9) rfl dX9_lotOf_101 ?_
        refine va_get (ci := 5) (v := .ref (A 51)) (C := RX5) (T := TX5) (N := 7) hx hb hts k2 hown hK hP 5 (aC5 Y A S) rfl 5 (by decide) k8 (fun _ h9 => h9) rfl dX9_lotOf_104 ?_
        refine lv_iload_n hx hb dX9_lotOf_107 rfl (lv_at hl 1 rfl) ?_
        have v_14 := h.1
        have h := h.2
        refine va_iald hx hb hK hP 51 0 (aC51 Y A S) rfl v_14 dX9_lotOf_108 ?_
        exact hret _ _ _ _ _ _ dX9_lotOf_109 h hP hS
      have h := h.2 c13
      by_cases c15 : a2 = (5 : Int32)
      · have h := h.1 c15
        refine lv_tableIn (tgt := 110) hx hb dX9_lotOf_22 (by rw [c15]; decide) (by rw [c15]; decide) (by rw [c15]; rfl) (by decide) ?_
        refine lv_aload_n hx hb dX9_lotOf_110 rfl (lv_at hl 0 rfl) ?_
        refine va_get (ci := 9) (v := .ref (A 5)) (C := RX9) (T := TX9) (N := 15) hx hb hts k0 hown hK hP 0 (aC0 Y A S) rfl 10 (by decide) k1 (fun _ h9 => h9) rfl dX9_lotOf_111 ?_
        refine va_get (ci := 5) (v := .ref (A 51)) (C := RX5) (T := TX5) (N := 7) hx hb hts k2 hown hK hP 5 (aC5 Y A S) rfl 5 (by decide) k8 (fun _ h9 => h9) rfl dX9_lotOf_114 ?_
        refine lv_iload_n hx hb dX9_lotOf_117 rfl (lv_at hl 1 rfl) ?_
        have v_16 := h.1
        have h := h.2
        refine va_iald hx hb hK hP 51 0 (aC51 Y A S) rfl v_16 dX9_lotOf_118 ?_
        refine lv_iconst (v := (1 : Int32)) hx hb dX9_lotOf_119 (by decide) ?_
        refine lv_icmp_ne (tgt := 128) hx hb dX9_lotOf_120 (by decide) (fun c17 => ?_) (fun c17 => ?_)
        · have h := h.2 c17
          refine lv_aload_n hx hb dX9_lotOf_128 rfl (lv_at hl 0 rfl) ?_
          refine va_get (ci := 9) (v := .ref (A 5)) (C := RX9) (T := TX9) (N := 15) hx hb hts k0 hown hK hP 0 (aC0 Y A S) rfl 10 (by decide) k1 (fun _ h9 => h9) rfl dX9_lotOf_129 ?_
          refine va_get (ci := 5) (v := .ref (A 52)) (C := RX5) (T := TX5) (N := 7) hx hb hts k2 hown hK hP 5 (aC5 Y A S) rfl 6 (by decide) k9 (fun _ h9 => h9) rfl dX9_lotOf_132 ?_
          refine lv_iload_n hx hb dX9_lotOf_135 rfl (lv_at hl 1 rfl) ?_
          refine va_iald hx hb hK hP 52 0 (aC52 Y A S) rfl v_16 dX9_lotOf_136 ?_
          exact hret _ _ _ _ _ _ dX9_lotOf_137 h hP hS
        · have h := h.1 c17
          refine lv_bipush (v := (-9 : Int32)) hx hb dX9_lotOf_123 (by decide) ?_
          refine lv_goto (tgt := 137) hx hb dX9_lotOf_125 (by decide) ?_
          exact hret _ _ _ _ _ _ dX9_lotOf_137 h hP hS
      have h := h.2 c15
      refine lv_tableOut (tgt := 138) hx hb dX9_lotOf_22 (by
        have := ne_toInt (z := 0) c5 (by decide)
        have := ne_toInt (z := 1) c7 (by decide)
        have := ne_toInt (z := 2) c9 (by decide)
        have := ne_toInt (z := 3) c11 (by decide)
        have := ne_toInt (z := 4) c13 (by decide)
        have := ne_toInt (z := 5) c15 (by decide)
        omega) (by decide) ?_
      refine lv_aload_n hx hb dX9_lotOf_138 rfl (lv_at hl 0 rfl) ?_
      refine lv_bipush (v := (-2 : Int32)) hx hb dX9_lotOf_139 (by decide) ?_
      refine gVi (As := [.int (-2 : Int32)]) (rest := []) ⟨hx, hb, hml, hown, hts⟩ (kX9_refuse l D Y A hI H.size S (-2 : Int32) _ h) (cwV 1 hts gX9_lotOf_X9_refuse rfl rfl rfl (by decide +kernel) ⟨Nat.le_of_ble_eq_true rfl, Nat.le_of_ble_eq_true rfl⟩) hK hP hS (gF_le hS.1) (aC0 Y A S) (show vwCl[9]? = some (RX9, TX9, 15) from rfl) rfl rfl hl.1 (Nat.le_of_ble_eq_true rfl) dX9_lotOf_141 ⟨Nat.zero_le _, Nat.zero_le _⟩ ?_
      intro r19 S18 H locs h hP hS
      exact hret _ _ _ _ _ _ dX9_lotOf_144 h hP hS
    · have h := h.2 c4
      refine lv_aload_n hx hb dX9_lotOf_15 rfl (lv_at hl 0 rfl) ?_
      refine lv_iconst (v := (-1 : Int32)) hx hb dX9_lotOf_16 (by decide) ?_
      refine gVi (As := [.int (-1 : Int32)]) (rest := []) ⟨hx, hb, hml, hown, hts⟩ (kX9_refuse l D Y A hI H.size S (-1 : Int32) _ h) (cwV 1 hts gX9_lotOf_X9_refuse rfl rfl rfl (by decide +kernel) ⟨Nat.le_of_ble_eq_true rfl, Nat.le_of_ble_eq_true rfl⟩) hK hP hS (gF_le hS.1) (aC0 Y A S) (show vwCl[9]? = some (RX9, TX9, 15) from rfl) rfl rfl hl.1 (Nat.le_of_ble_eq_true rfl) dX9_lotOf_17 ⟨Nat.zero_le _, Nat.zero_le _⟩ ?_
      intro r21 S20 H locs h hP hS
      exact hret _ _ _ _ _ _ dX9_lotOf_20 h hP hS

def qX9_boatOf_J39 (a1 : Int32) (a2 : Int32) (Q : Int32 → gS → Prop) : gS → Prop := fun S =>
  (a2 = (0 : Int32) → (vp_in a1 8 ∧ (Q (ga S 18 a1.toNatClampNeg) S))) ∧ (¬ a2 = (0 : Int32) → ((a2 = (1 : Int32) → (vp_in a1 8 ∧ (Q (ga S 19 a1.toNatClampNeg) S))) ∧ (¬ a2 = (1 : Int32) → ((a2 = (2 : Int32) → (vp_in a1 8 ∧ (Q (ga S 20 a1.toNatClampNeg) S))) ∧ (¬ a2 = (2 : Int32) → (qX9_refuse S (-2 : Int32) (fun r8 S7 => Q r8 S7)))))))
def qX9_boatOf (S : gS) (a1 : Int32) (a2 : Int32) (Q : Int32 → gS → Prop) : Prop :=
  qX9_isBoat S a1 (fun r10 S9 => (r10 = 0 → (qX9_refuse S9 (-1 : Int32) (fun r17 S16 => Q r17 S16))) ∧ (¬ r10 = 0 → ((a2 < (3 : Int32) → (qX9_boatOf_J39 a1 a2 Q S9)) ∧ (¬ a2 < (3 : Int32) → (((9 : Int32) ≤ a2 → (qX9_boatOf_J39 a1 a2 Q S9)) ∧ (¬ (9 : Int32) ≤ a2 → (vp_in a1 8 ∧ (vp_in (a2 - (3 : Int32)) 6 ∧ (Q (ga S9 (21 + a1.toNatClampNeg) (a2 - (3 : Int32)).toNatClampNeg) S9)))))))))
abbrev rmX9_boatOf : Room := { frames := 1, cells := 0, slots := 0, locals := 22 }
set_option maxHeartbeats 4000000 in
set_option maxRecDepth 100000 in
theorem kX9_boatOf (l : Launch) (D : va_G) (Y : Nat → ClassId) (A : Nat → Nat) (hI : iC A) (sz : Nat) (S : gS) (a1 : Int32) (a2 : Int32) (Q : Int32 → gS → Prop) (h : qX9_boatOf S a1 a2 Q) : Met l yX9_boatOf wsX9_boatOf rmX9_boatOf (gPc [.ref (A 0), .int a1, .int a2] sz D vwCl (tY Y) (wC Y A S)) (va_Qi Q (fun S' t => gH D vwCl (tY Y) (wC Y A S') t) (gF A 65 sz)) 0 0 (gF A 65 sz) := by
  refine gMet_i (cc := cX9_boatOf) (maxL := 3) (by decide +kernel) rfl (Nat.le_of_ble_eq_true rfl) (fun p e s m args below meth c Z H locs hx hb hml hts hown hK hP hS hret ls hl => ?_)
  have hown : s.vm.findClass RX9 = some m.cls := hown
  have hl : lv_has ls 3 [(0, .ref (A 0)), (1, .int a1), (2, .int a2)] := hl
  have hD : ∀ S0 : gS, va_D (gF A 65 s.heap.size) (wC Y A S0) := fun S0 => dC hI S0 (fun k hk => gF_in hk)
  have k0 : ∀ w ∈ u_ws RX9 TX9 15, w ∈ wsX9_boatOf := by decide +kernel
  have k1 := hts (.fieldLink RX9 46 "CoastWatch" "boats" "LCoastWatch$Boats;") (by decide +kernel)
  have k2 : ∀ w ∈ u_ws RX0 TX0 9, w ∈ wsX9_boatOf := by decide +kernel
  have k3 := hts (.fieldLink RX9 158 "CoastWatch$Boats" "casks" "[I") (by decide +kernel)
  have k4 := hts (.fieldLink RX9 284 "CoastWatch$Boats" "escapes" "[I") (by decide +kernel)
  have k5 := hts (.fieldLink RX9 287 "CoastWatch$Boats" "returns" "[I") (by decide +kernel)
  have k6 := hts (.fieldLink RX9 281 "CoastWatch$Boats" "fear" "[[I") (by decide +kernel)
  have tJ39 : ∀ (S : gS), qX9_boatOf_J39 a1 a2 Q S → ∀ (H : Heap) (locs : List Loc) (ls : Array Slot), va_P D vwCl (wC Y A S) H → va_S (gF A 65 s.heap.size) s.heap H locs → lv_has ls 3 [(0, .ref (A 0)), (1, .int a1), (2, .int a2)] → W p l e rmX9_boatOf s m args below meth c H locs 0 0 Z (F0 m 39 ls []) := by
    intro  S h
    intro H locs ls hP hS hl
    refine lv_iload_n hx hb dX9_boatOf_39 rfl (lv_at hl 2 rfl) ?_
    by_cases c1 : a2 = (0 : Int32)
    · have h := h.1 c1
      refine lv_tableIn (tgt := 68) hx hb dX9_boatOf_40 (by rw [c1]; decide) (by rw [c1]; decide) (by rw [c1]; rfl) (by decide) ?_
      refine lv_aload_n hx hb dX9_boatOf_68 rfl (lv_at hl 0 rfl) ?_
      refine va_get (ci := 9) (v := .ref (A 3)) (C := RX9) (T := TX9) (N := 15) hx hb hts k0 hown hK hP 0 (aC0 Y A S) rfl 8 (by decide) k1 (fun _ h9 => h9) rfl dX9_boatOf_69 ?_
      refine va_get (ci := 0) (v := .ref (A 29)) (C := RX0) (T := TX0) (N := 9) hx hb hts k2 hown hK hP 3 (aC3 Y A S) rfl 5 (by decide) k3 (fun _ h9 => h9) rfl dX9_boatOf_72 ?_
      refine lv_iload_n hx hb dX9_boatOf_75 rfl (lv_at hl 1 rfl) ?_
      have v_2 := h.1
      have h := h.2
      refine va_iald hx hb hK hP 29 0 (aC29 Y A S) rfl v_2 dX9_boatOf_76 ?_
      exact hret _ _ _ _ _ _ dX9_boatOf_77 h hP hS
    have h := h.2 c1
    by_cases c3 : a2 = (1 : Int32)
    · have h := h.1 c3
      refine lv_tableIn (tgt := 78) hx hb dX9_boatOf_40 (by rw [c3]; decide) (by rw [c3]; decide) (by rw [c3]; rfl) (by decide) ?_
      refine lv_aload_n hx hb dX9_boatOf_78 rfl (lv_at hl 0 rfl) ?_
      refine va_get (ci := 9) (v := .ref (A 3)) (C := RX9) (T := TX9) (N := 15) hx hb hts k0 hown hK hP 0 (aC0 Y A S) rfl 8 (by decide) k1 (fun _ h9 => h9) rfl dX9_boatOf_79 ?_
      refine va_get (ci := 0) (v := .ref (A 30)) (C := RX0) (T := TX0) (N := 9) hx hb hts k2 hown hK hP 3 (aC3 Y A S) rfl 6 (by decide) k4 (fun _ h9 => h9) rfl dX9_boatOf_82 ?_
      refine lv_iload_n hx hb dX9_boatOf_85 rfl (lv_at hl 1 rfl) ?_
      have v_4 := h.1
      have h := h.2
      refine va_iald hx hb hK hP 30 0 (aC30 Y A S) rfl v_4 dX9_boatOf_86 ?_
      exact hret _ _ _ _ _ _ dX9_boatOf_87 h hP hS
    have h := h.2 c3
    by_cases c5 : a2 = (2 : Int32)
    · have h := h.1 c5
      refine lv_tableIn (tgt := 88) hx hb dX9_boatOf_40 (by rw [c5]; decide) (by rw [c5]; decide) (by rw [c5]; rfl) (by decide) ?_
      refine lv_aload_n hx hb dX9_boatOf_88 rfl (lv_at hl 0 rfl) ?_
      refine va_get (ci := 9) (v := .ref (A 3)) (C := RX9) (T := TX9) (N := 15) hx hb hts k0 hown hK hP 0 (aC0 Y A S) rfl 8 (by decide) k1 (fun _ h9 => h9) rfl dX9_boatOf_89 ?_
      refine va_get (ci := 0) (v := .ref (A 31)) (C := RX0) (T := TX0) (N := 9) hx hb hts k2 hown hK hP 3 (aC3 Y A S) rfl 7 (by decide) k5 (fun _ h9 => h9) rfl dX9_boatOf_92 ?_
      refine lv_iload_n hx hb dX9_boatOf_95 rfl (lv_at hl 1 rfl) ?_
      have v_6 := h.1
      have h := h.2
      refine va_iald hx hb hK hP 31 0 (aC31 Y A S) rfl v_6 dX9_boatOf_96 ?_
      exact hret _ _ _ _ _ _ dX9_boatOf_97 h hP hS
    have h := h.2 c5
    refine lv_tableOut (tgt := 98) hx hb dX9_boatOf_40 (by
      have := ne_toInt (z := 0) c1 (by decide)
      have := ne_toInt (z := 1) c3 (by decide)
      have := ne_toInt (z := 2) c5 (by decide)
      omega) (by decide) ?_
    refine lv_aload_n hx hb dX9_boatOf_98 rfl (lv_at hl 0 rfl) ?_
    refine lv_bipush (v := (-2 : Int32)) hx hb dX9_boatOf_99 (by decide) ?_
    refine gVi (As := [.int (-2 : Int32)]) (rest := []) ⟨hx, hb, hml, hown, hts⟩ (kX9_refuse l D Y A hI H.size S (-2 : Int32) _ h) (cwV 1 hts gX9_boatOf_X9_refuse rfl rfl rfl (by decide +kernel) ⟨Nat.le_of_ble_eq_true rfl, Nat.le_of_ble_eq_true rfl⟩) hK hP hS (gF_le hS.1) (aC0 Y A S) (show vwCl[9]? = some (RX9, TX9, 15) from rfl) rfl rfl hl.1 (Nat.le_of_ble_eq_true rfl) dX9_boatOf_101 ⟨Nat.zero_le _, Nat.zero_le _⟩ ?_
    intro r8 S7 H locs h hP hS
    exact hret _ _ _ _ _ _ dX9_boatOf_104 h hP hS
  refine lv_aload_n hx hb dX9_boatOf_0 rfl (lv_at hl 0 rfl) ?_
  refine lv_iload_n hx hb dX9_boatOf_1 rfl (lv_at hl 1 rfl) ?_
  refine gVi (As := [.int a1]) (rest := []) ⟨hx, hb, hml, hown, hts⟩ (kX9_isBoat l D Y A hI H.size S a1 _ h) (cwV 1 hts gX9_boatOf_X9_isBoat rfl rfl rfl (by decide +kernel) ⟨Nat.le_of_ble_eq_true rfl, Nat.le_of_ble_eq_true rfl⟩) hK hP hS (gF_le hS.1) (aC0 Y A S) (show vwCl[9]? = some (RX9, TX9, 15) from rfl) rfl rfl hl.1 (Nat.le_of_ble_eq_true rfl) dX9_boatOf_2 ⟨Nat.zero_le _, Nat.zero_le _⟩ ?_
  intro r10 S9 H locs h hP hS
  refine lv_if_ne (tgt := 14) hx hb dX9_boatOf_5 (by decide) (fun c11 => ?_) (fun c11 => ?_)
  · have h := h.2 c11
    refine lv_iload_n hx hb dX9_boatOf_14 rfl (lv_at hl 2 rfl) ?_
    refine lv_iconst (v := (3 : Int32)) hx hb dX9_boatOf_15 (by decide) ?_
    refine lv_icmp_lt (tgt := 39) hx hb dX9_boatOf_16 (by decide) (fun c12 => ?_) (fun c12 => ?_)
    · have h := h.1 c12
      exact tJ39  S9 h _ _ _ hP hS (lv_sub hl [0, 1, 2] rfl)
    · have h := h.2 c12
      refine lv_iload_n hx hb dX9_boatOf_19 rfl (lv_at hl 2 rfl) ?_
      refine lv_bipush (v := (9 : Int32)) hx hb dX9_boatOf_20 (by decide) ?_
      refine lv_icmp_ge (tgt := 39) hx hb dX9_boatOf_22 (by decide) (fun c13 => ?_) (fun c13 => ?_)
      · have h := h.1 c13
        exact tJ39  S9 h _ _ _ hP hS (lv_sub hl [0, 1, 2] rfl)
      · have h := h.2 c13
        refine lv_aload_n hx hb dX9_boatOf_25 rfl (lv_at hl 0 rfl) ?_
        refine va_get (ci := 9) (v := .ref (A 3)) (C := RX9) (T := TX9) (N := 15) hx hb hts k0 hown hK hP 0 (aC0 Y A S9) rfl 8 (by decide) k1 (fun _ h9 => h9) rfl dX9_boatOf_26 ?_
        refine va_get (ci := 0) (v := .ref (A 32)) (C := RX0) (T := TX0) (N := 9) hx hb hts k2 hown hK hP 3 (aC3 Y A S9) rfl 8 (by decide) k6 (fun _ h9 => h9) rfl dX9_boatOf_29 ?_
        refine lv_iload_n hx hb dX9_boatOf_32 rfl (lv_at hl 1 rfl) ?_
        have v_14 := h.1
        have h := h.2
        refine gAald (g := fun j => A (33 + j)) hx hb hK hP 32 3 (aC32 Y A S9) rfl (fun j hj => if_pos hj) v_14 dX9_boatOf_33 ?_
        refine lv_iload_n hx hb dX9_boatOf_34 rfl (lv_at hl 2 rfl) ?_
        refine lv_iconst (v := (3 : Int32)) hx hb dX9_boatOf_35 (by decide) ?_
        refine lv_isub hx hb dX9_boatOf_36 ?_
        have v_15 := h.1
        have h := h.2
        refine va_iald hx hb hK hP (33 + a1.toNatClampNeg) 0 (arC32 Y A S9 (vp_lt v_14)) rfl v_15 dX9_boatOf_37 ?_
        exact hret _ _ _ _ _ _ dX9_boatOf_38 h hP hS
  · have h := h.1 c11
    refine lv_aload_n hx hb dX9_boatOf_8 rfl (lv_at hl 0 rfl) ?_
    refine lv_iconst (v := (-1 : Int32)) hx hb dX9_boatOf_9 (by decide) ?_
    refine gVi (As := [.int (-1 : Int32)]) (rest := []) ⟨hx, hb, hml, hown, hts⟩ (kX9_refuse l D Y A hI H.size S9 (-1 : Int32) _ h) (cwV 1 hts gX9_boatOf_X9_refuse rfl rfl rfl (by decide +kernel) ⟨Nat.le_of_ble_eq_true rfl, Nat.le_of_ble_eq_true rfl⟩) hK hP hS (gF_le hS.1) (aC0 Y A S9) (show vwCl[9]? = some (RX9, TX9, 15) from rfl) rfl rfl hl.1 (Nat.le_of_ble_eq_true rfl) dX9_boatOf_10 ⟨Nat.zero_le _, Nat.zero_le _⟩ ?_
    intro r17 S16 H locs h hP hS
    exact hret _ _ _ _ _ _ dX9_boatOf_13 h hP hS

def qX9_hideOf (S : gS) (a1 : Int32) (a2 : Int32) (Q : Int32 → gS → Prop) : Prop :=
  qX9_isHide S a1 (fun r2 S1 => (r2 = 0 → (qX9_refuse S1 (-1 : Int32) (fun r13 S12 => Q r13 S12))) ∧ (¬ r2 = 0 → ((a2 = (0 : Int32) → (vp_in a1 12 ∧ (Q (ga S1 33 a1.toNatClampNeg) S1))) ∧ (¬ a2 = (0 : Int32) → ((a2 = (1 : Int32) → (vp_in a1 12 ∧ (Q (ga S1 32 a1.toNatClampNeg) S1))) ∧ (¬ a2 = (1 : Int32) → ((a2 = (2 : Int32) → (vp_in a1 12 ∧ (Q (ga S1 29 a1.toNatClampNeg) S1))) ∧ (¬ a2 = (2 : Int32) → (qX9_refuse S1 (-2 : Int32) (fun r11 S10 => Q r11 S10))))))))))
abbrev rmX9_hideOf : Room := { frames := 1, cells := 0, slots := 0, locals := 22 }
set_option maxHeartbeats 4000000 in
set_option maxRecDepth 100000 in
theorem kX9_hideOf (l : Launch) (D : va_G) (Y : Nat → ClassId) (A : Nat → Nat) (hI : iC A) (sz : Nat) (S : gS) (a1 : Int32) (a2 : Int32) (Q : Int32 → gS → Prop) (h : qX9_hideOf S a1 a2 Q) : Met l yX9_hideOf wsX9_hideOf rmX9_hideOf (gPc [.ref (A 0), .int a1, .int a2] sz D vwCl (tY Y) (wC Y A S)) (va_Qi Q (fun S' t => gH D vwCl (tY Y) (wC Y A S') t) (gF A 65 sz)) 0 0 (gF A 65 sz) := by
  refine gMet_i (cc := cX9_hideOf) (maxL := 3) (by decide +kernel) rfl (Nat.le_of_ble_eq_true rfl) (fun p e s m args below meth c Z H locs hx hb hml hts hown hK hP hS hret ls hl => ?_)
  have hown : s.vm.findClass RX9 = some m.cls := hown
  have hl : lv_has ls 3 [(0, .ref (A 0)), (1, .int a1), (2, .int a2)] := hl
  have hD : ∀ S0 : gS, va_D (gF A 65 s.heap.size) (wC Y A S0) := fun S0 => dC hI S0 (fun k hk => gF_in hk)
  have k0 : ∀ w ∈ u_ws RX9 TX9 15, w ∈ wsX9_hideOf := by decide +kernel
  have k1 := hts (.fieldLink RX9 53 "CoastWatch" "hides" "LCoastWatch$Hides;") (by decide +kernel)
  have k2 : ∀ w ∈ u_ws RX3 TX3 7, w ∈ wsX9_hideOf := by decide +kernel
  have k3 := hts (.fieldLink RX9 203 "CoastWatch$Hides" "lying" "[I") (by decide +kernel)
  have k4 := hts (.fieldLink RX9 206 "CoastWatch$Hides" "guess" "[I") (by decide +kernel)
  have k5 := hts (.fieldLink RX9 290 "CoastWatch$Hides" "cove" "[I") (by decide +kernel)
  refine lv_aload_n hx hb dX9_hideOf_0 rfl (lv_at hl 0 rfl) ?_
  refine lv_iload_n hx hb dX9_hideOf_1 rfl (lv_at hl 1 rfl) ?_
  refine gVi (As := [.int a1]) (rest := []) ⟨hx, hb, hml, hown, hts⟩ (kX9_isHide l D Y A hI H.size S a1 _ h) (cwV 1 hts gX9_hideOf_X9_isHide rfl rfl rfl (by decide +kernel) ⟨Nat.le_of_ble_eq_true rfl, Nat.le_of_ble_eq_true rfl⟩) hK hP hS (gF_le hS.1) (aC0 Y A S) (show vwCl[9]? = some (RX9, TX9, 15) from rfl) rfl rfl hl.1 (Nat.le_of_ble_eq_true rfl) dX9_hideOf_2 ⟨Nat.zero_le _, Nat.zero_le _⟩ ?_
  intro r2 S1 H locs h hP hS
  refine lv_if_ne (tgt := 14) hx hb dX9_hideOf_5 (by decide) (fun c3 => ?_) (fun c3 => ?_)
  · have h := h.2 c3
    refine lv_iload_n hx hb dX9_hideOf_14 rfl (lv_at hl 2 rfl) ?_
    by_cases c4 : a2 = (0 : Int32)
    · have h := h.1 c4
      refine lv_tableIn (tgt := 40) hx hb dX9_hideOf_15 (by rw [c4]; decide) (by rw [c4]; decide) (by rw [c4]; rfl) (by decide) ?_
      refine lv_aload_n hx hb dX9_hideOf_40 rfl (lv_at hl 0 rfl) ?_
      refine va_get (ci := 9) (v := .ref (A 4)) (C := RX9) (T := TX9) (N := 15) hx hb hts k0 hown hK hP 0 (aC0 Y A S1) rfl 9 (by decide) k1 (fun _ h9 => h9) rfl dX9_hideOf_41 ?_
      refine va_get (ci := 3) (v := .ref (A 45)) (C := RX3) (T := TX3) (N := 7) hx hb hts k2 hown hK hP 4 (aC4 Y A S1) rfl 5 (by decide) k3 (fun _ h9 => h9) rfl dX9_hideOf_44 ?_
      refine lv_iload_n hx hb dX9_hideOf_47 rfl (lv_at hl 1 rfl) ?_
      have v_5 := h.1
      have h := h.2
      refine va_iald hx hb hK hP 45 0 (aC45 Y A S1) rfl v_5 dX9_hideOf_48 ?_
      exact hret _ _ _ _ _ _ dX9_hideOf_49 h hP hS
    have h := h.2 c4
    by_cases c6 : a2 = (1 : Int32)
    · have h := h.1 c6
      refine lv_tableIn (tgt := 50) hx hb dX9_hideOf_15 (by rw [c6]; decide) (by rw [c6]; decide) (by rw [c6]; rfl) (by decide) ?_
      refine lv_aload_n hx hb dX9_hideOf_50 rfl (lv_at hl 0 rfl) ?_
      refine va_get (ci := 9) (v := .ref (A 4)) (C := RX9) (T := TX9) (N := 15) hx hb hts k0 hown hK hP 0 (aC0 Y A S1) rfl 9 (by decide) k1 (fun _ h9 => h9) rfl dX9_hideOf_51 ?_
      refine va_get (ci := 3) (v := .ref (A 44)) (C := RX3) (T := TX3) (N := 7) hx hb hts k2 hown hK hP 4 (aC4 Y A S1) rfl 4 (by decide) k4 (fun _ h9 => h9) rfl dX9_hideOf_54 ?_
      refine lv_iload_n hx hb dX9_hideOf_57 rfl (lv_at hl 1 rfl) ?_
      have v_7 := h.1
      have h := h.2
      refine va_iald hx hb hK hP 44 0 (aC44 Y A S1) rfl v_7 dX9_hideOf_58 ?_
      exact hret _ _ _ _ _ _ dX9_hideOf_59 h hP hS
    have h := h.2 c6
    by_cases c8 : a2 = (2 : Int32)
    · have h := h.1 c8
      refine lv_tableIn (tgt := 60) hx hb dX9_hideOf_15 (by rw [c8]; decide) (by rw [c8]; decide) (by rw [c8]; rfl) (by decide) ?_
      refine lv_aload_n hx hb dX9_hideOf_60 rfl (lv_at hl 0 rfl) ?_
      refine va_get (ci := 9) (v := .ref (A 4)) (C := RX9) (T := TX9) (N := 15) hx hb hts k0 hown hK hP 0 (aC0 Y A S1) rfl 9 (by decide) k1 (fun _ h9 => h9) rfl dX9_hideOf_61 ?_
      refine va_get (ci := 3) (v := .ref (A 41)) (C := RX3) (T := TX3) (N := 7) hx hb hts k2 hown hK hP 4 (aC4 Y A S1) rfl 1 (by decide) k5 (fun _ h9 => h9) rfl dX9_hideOf_64 ?_
      refine lv_iload_n hx hb dX9_hideOf_67 rfl (lv_at hl 1 rfl) ?_
      have v_9 := h.1
      have h := h.2
      refine va_iald hx hb hK hP 41 0 (aC41 Y A S1) rfl v_9 dX9_hideOf_68 ?_
      exact hret _ _ _ _ _ _ dX9_hideOf_69 h hP hS
    have h := h.2 c8
    refine lv_tableOut (tgt := 70) hx hb dX9_hideOf_15 (by
      have := ne_toInt (z := 0) c4 (by decide)
      have := ne_toInt (z := 1) c6 (by decide)
      have := ne_toInt (z := 2) c8 (by decide)
      omega) (by decide) ?_
    refine lv_aload_n hx hb dX9_hideOf_70 rfl (lv_at hl 0 rfl) ?_
    refine lv_bipush (v := (-2 : Int32)) hx hb dX9_hideOf_71 (by decide) ?_
    refine gVi (As := [.int (-2 : Int32)]) (rest := []) ⟨hx, hb, hml, hown, hts⟩ (kX9_refuse l D Y A hI H.size S1 (-2 : Int32) _ h) (cwV 1 hts gX9_hideOf_X9_refuse rfl rfl rfl (by decide +kernel) ⟨Nat.le_of_ble_eq_true rfl, Nat.le_of_ble_eq_true rfl⟩) hK hP hS (gF_le hS.1) (aC0 Y A S1) (show vwCl[9]? = some (RX9, TX9, 15) from rfl) rfl rfl hl.1 (Nat.le_of_ble_eq_true rfl) dX9_hideOf_73 ⟨Nat.zero_le _, Nat.zero_le _⟩ ?_
    intro r11 S10 H locs h hP hS
    exact hret _ _ _ _ _ _ dX9_hideOf_76 h hP hS
  · have h := h.1 c3
    refine lv_aload_n hx hb dX9_hideOf_8 rfl (lv_at hl 0 rfl) ?_
    refine lv_iconst (v := (-1 : Int32)) hx hb dX9_hideOf_9 (by decide) ?_
    refine gVi (As := [.int (-1 : Int32)]) (rest := []) ⟨hx, hb, hml, hown, hts⟩ (kX9_refuse l D Y A hI H.size S1 (-1 : Int32) _ h) (cwV 1 hts gX9_hideOf_X9_refuse rfl rfl rfl (by decide +kernel) ⟨Nat.le_of_ble_eq_true rfl, Nat.le_of_ble_eq_true rfl⟩) hK hP hS (gF_le hS.1) (aC0 Y A S1) (show vwCl[9]? = some (RX9, TX9, 15) from rfl) rfl rfl hl.1 (Nat.le_of_ble_eq_true rfl) dX9_hideOf_10 ⟨Nat.zero_le _, Nat.zero_le _⟩ ?_
    intro r13 S12 H locs h hP hS
    exact hret _ _ _ _ _ _ dX9_hideOf_13 h hP hS

def qX9_watched (S : gS) (a1 : Int32) (Q : Int32 → gS → Prop) : Prop :=
  qX9_isCove S a1 (fun r2 S1 => (r2 = 0 → (qX9_refuse S1 (-1 : Int32) (fun r5 S4 => Q r5 S4))) ∧ (¬ r2 = 0 → (vp_in a1 6 ∧ (Q (ga S1 13 a1.toNatClampNeg) S1))))
abbrev rmX9_watched : Room := { frames := 1, cells := 0, slots := 0, locals := 22 }
set_option maxHeartbeats 4000000 in
set_option maxRecDepth 100000 in
theorem kX9_watched (l : Launch) (D : va_G) (Y : Nat → ClassId) (A : Nat → Nat) (hI : iC A) (sz : Nat) (S : gS) (a1 : Int32) (Q : Int32 → gS → Prop) (h : qX9_watched S a1 Q) : Met l yX9_watched wsX9_watched rmX9_watched (gPc [.ref (A 0), .int a1] sz D vwCl (tY Y) (wC Y A S)) (va_Qi Q (fun S' t => gH D vwCl (tY Y) (wC Y A S') t) (gF A 65 sz)) 0 0 (gF A 65 sz) := by
  refine gMet_i (cc := cX9_watched) (maxL := 2) (by decide +kernel) rfl (Nat.le_of_ble_eq_true rfl) (fun p e s m args below meth c Z H locs hx hb hml hts hown hK hP hS hret ls hl => ?_)
  have hown : s.vm.findClass RX9 = some m.cls := hown
  have hl : lv_has ls 2 [(0, .ref (A 0)), (1, .int a1)] := hl
  have hD : ∀ S0 : gS, va_D (gF A 65 s.heap.size) (wC Y A S0) := fun S0 => dC hI S0 (fun k hk => gF_in hk)
  have k0 : ∀ w ∈ u_ws RX9 TX9 15, w ∈ wsX9_watched := by decide +kernel
  have k1 := hts (.fieldLink RX9 39 "CoastWatch" "coves" "LCoastWatch$Coves;") (by decide +kernel)
  have k2 : ∀ w ∈ u_ws RX1 TX1 7, w ∈ wsX9_watched := by decide +kernel
  have k3 := hts (.fieldLink RX9 291 "CoastWatch$Coves" "watchers" "[I") (by decide +kernel)
  refine lv_iload_n hx hb dX9_watched_0 rfl (lv_at hl 1 rfl) ?_
  refine gSi (As := [.int a1]) (rest := []) ⟨hx, hb, hml, hown, hts⟩ (kX9_isCove l D Y A hI H.size S a1 _ h) (va_cwS 1 hts gX9_watched_X9_isCove rfl rfl rfl (by decide +kernel) ⟨Nat.le_of_ble_eq_true rfl, Nat.le_of_ble_eq_true rfl⟩) hK hP hS (gF_le hS.1) rfl rfl hl.1 (Nat.le_of_ble_eq_true rfl) dX9_watched_1 ⟨Nat.zero_le _, Nat.zero_le _⟩ ?_
  intro r2 S1 H locs h hP hS
  refine lv_if_eq (tgt := 19) hx hb dX9_watched_4 (by decide) (fun c3 => ?_) (fun c3 => ?_)
  · have h := h.1 c3
    refine lv_aload_n hx hb dX9_watched_19 rfl (lv_at hl 0 rfl) ?_
    refine lv_iconst (v := (-1 : Int32)) hx hb dX9_watched_20 (by decide) ?_
    refine gVi (As := [.int (-1 : Int32)]) (rest := []) ⟨hx, hb, hml, hown, hts⟩ (kX9_refuse l D Y A hI H.size S1 (-1 : Int32) _ h) (cwV 1 hts gX9_watched_X9_refuse rfl rfl rfl (by decide +kernel) ⟨Nat.le_of_ble_eq_true rfl, Nat.le_of_ble_eq_true rfl⟩) hK hP hS (gF_le hS.1) (aC0 Y A S1) (show vwCl[9]? = some (RX9, TX9, 15) from rfl) rfl rfl hl.1 (Nat.le_of_ble_eq_true rfl) dX9_watched_21 ⟨Nat.zero_le _, Nat.zero_le _⟩ ?_
    intro r5 S4 H locs h hP hS
    exact hret _ _ _ _ _ _ dX9_watched_24 h hP hS
  · have h := h.2 c3
    refine lv_aload_n hx hb dX9_watched_7 rfl (lv_at hl 0 rfl) ?_
    refine va_get (ci := 9) (v := .ref (A 2)) (C := RX9) (T := TX9) (N := 15) hx hb hts k0 hown hK hP 0 (aC0 Y A S1) rfl 7 (by decide) k1 (fun _ h9 => h9) rfl dX9_watched_8 ?_
    refine va_get (ci := 1) (v := .ref (A 24)) (C := RX1) (T := TX1) (N := 7) hx hb hts k2 hown hK hP 2 (aC2 Y A S1) rfl 6 (by decide) k3 (fun _ h9 => h9) rfl dX9_watched_11 ?_
    refine lv_iload_n hx hb dX9_watched_14 rfl (lv_at hl 1 rfl) ?_
    have v_6 := h.1
    have h := h.2
    refine va_iald hx hb hK hP 24 0 (aC24 Y A S1) rfl v_6 dX9_watched_15 ?_
    refine lv_goto (tgt := 24) hx hb dX9_watched_16 (by decide) ?_
    exact hret _ _ _ _ _ _ dX9_watched_24 h hP hS

def qX9_coins (S : gS) (a1 : Int32) (Q : Int32 → gS → Prop) : Prop :=
  (a1 < 0 → (qX9_refuse S (-2 : Int32) (fun r3 S2 => Q r3 S2))) ∧ (¬ a1 < 0 → (((8 : Int32) ≤ a1 → (qX9_refuse S (-2 : Int32) (fun r6 S5 => Q r6 S5))) ∧ (¬ (8 : Int32) ≤ a1 → (vp_in a1 8 ∧ (Q (ga S 1 a1.toNatClampNeg) S)))))
abbrev rmX9_coins : Room := { frames := 1, cells := 0, slots := 0, locals := 22 }
set_option maxHeartbeats 4000000 in
set_option maxRecDepth 100000 in
theorem kX9_coins (l : Launch) (D : va_G) (Y : Nat → ClassId) (A : Nat → Nat) (hI : iC A) (sz : Nat) (S : gS) (a1 : Int32) (Q : Int32 → gS → Prop) (h : qX9_coins S a1 Q) : Met l yX9_coins wsX9_coins rmX9_coins (gPc [.ref (A 0), .int a1] sz D vwCl (tY Y) (wC Y A S)) (va_Qi Q (fun S' t => gH D vwCl (tY Y) (wC Y A S') t) (gF A 65 sz)) 0 0 (gF A 65 sz) := by
  refine gMet_i (cc := cX9_coins) (maxL := 2) (by decide +kernel) rfl (Nat.le_of_ble_eq_true rfl) (fun p e s m args below meth c Z H locs hx hb hml hts hown hK hP hS hret ls hl => ?_)
  have hown : s.vm.findClass RX9 = some m.cls := hown
  have hl : lv_has ls 2 [(0, .ref (A 0)), (1, .int a1)] := hl
  have hD : ∀ S0 : gS, va_D (gF A 65 s.heap.size) (wC Y A S0) := fun S0 => dC hI S0 (fun k hk => gF_in hk)
  have k0 : ∀ w ∈ u_ws RX9 TX9 15, w ∈ wsX9_coins := by decide +kernel
  have k1 := hts (.fieldLink RX9 26 "CoastWatch" "purses" "[I") (by decide +kernel)
  refine lv_iload_n hx hb dX9_coins_0 rfl (lv_at hl 1 rfl) ?_
  refine lv_if_lt (tgt := 22) hx hb dX9_coins_1 (by decide) (fun c1 => ?_) (fun c1 => ?_)
  · have h := h.1 c1
    refine lv_aload_n hx hb dX9_coins_22 rfl (lv_at hl 0 rfl) ?_
    refine lv_bipush (v := (-2 : Int32)) hx hb dX9_coins_23 (by decide) ?_
    refine gVi (As := [.int (-2 : Int32)]) (rest := []) ⟨hx, hb, hml, hown, hts⟩ (kX9_refuse l D Y A hI H.size S (-2 : Int32) _ h) (cwV 1 hts gX9_coins_X9_refuse rfl rfl rfl (by decide +kernel) ⟨Nat.le_of_ble_eq_true rfl, Nat.le_of_ble_eq_true rfl⟩) hK hP hS (gF_le hS.1) (aC0 Y A S) (show vwCl[9]? = some (RX9, TX9, 15) from rfl) rfl rfl hl.1 (Nat.le_of_ble_eq_true rfl) dX9_coins_25 ⟨Nat.zero_le _, Nat.zero_le _⟩ ?_
    intro r3 S2 H locs h hP hS
    exact hret _ _ _ _ _ _ dX9_coins_28 h hP hS
  · have h := h.2 c1
    refine lv_iload_n hx hb dX9_coins_4 rfl (lv_at hl 1 rfl) ?_
    refine lv_aload_n hx hb dX9_coins_5 rfl (lv_at hl 0 rfl) ?_
    refine va_get (ci := 9) (v := .ref (A 11)) (C := RX9) (T := TX9) (N := 15) hx hb hts k0 hown hK hP 0 (aC0 Y A S) rfl 5 (by decide) k1 (fun _ h9 => h9) rfl dX9_coins_6 ?_
    refine va_alen (v := (8 : Int32)) hx hb hK hP 11 0 (aC11 Y A S) rfl rfl dX9_coins_9 ?_
    refine lv_icmp_ge (tgt := 22) hx hb dX9_coins_10 (by decide) (fun c4 => ?_) (fun c4 => ?_)
    · have h := h.1 c4
      refine lv_aload_n hx hb dX9_coins_22 rfl (lv_at hl 0 rfl) ?_
      refine lv_bipush (v := (-2 : Int32)) hx hb dX9_coins_23 (by decide) ?_
      refine gVi (As := [.int (-2 : Int32)]) (rest := []) ⟨hx, hb, hml, hown, hts⟩ (kX9_refuse l D Y A hI H.size S (-2 : Int32) _ h) (cwV 1 hts gX9_coins_X9_refuse rfl rfl rfl (by decide +kernel) ⟨Nat.le_of_ble_eq_true rfl, Nat.le_of_ble_eq_true rfl⟩) hK hP hS (gF_le hS.1) (aC0 Y A S) (show vwCl[9]? = some (RX9, TX9, 15) from rfl) rfl rfl hl.1 (Nat.le_of_ble_eq_true rfl) dX9_coins_25 ⟨Nat.zero_le _, Nat.zero_le _⟩ ?_
      intro r6 S5 H locs h hP hS
      exact hret _ _ _ _ _ _ dX9_coins_28 h hP hS
    · have h := h.2 c4
      refine lv_aload_n hx hb dX9_coins_13 rfl (lv_at hl 0 rfl) ?_
      refine va_get (ci := 9) (v := .ref (A 11)) (C := RX9) (T := TX9) (N := 15) hx hb hts k0 hown hK hP 0 (aC0 Y A S) rfl 5 (by decide) k1 (fun _ h9 => h9) rfl dX9_coins_14 ?_
      refine lv_iload_n hx hb dX9_coins_17 rfl (lv_at hl 1 rfl) ?_
      have v_7 := h.1
      have h := h.2
      refine va_iald hx hb hK hP 11 0 (aC11 Y A S) rfl v_7 dX9_coins_18 ?_
      refine lv_goto (tgt := 28) hx hb dX9_coins_19 (by decide) ?_
      exact hret _ _ _ _ _ _ dX9_coins_28 h hP hS

def qX9_count (S : gS) (a1 : Int32) (Q : Int32 → gS → Prop) : Prop :=
  (a1 = (0 : Int32) → (Q (gi S 0) S)) ∧ (¬ a1 = (0 : Int32) → ((a1 = (1 : Int32) → (Q (gi S 4) S)) ∧ (¬ a1 = (1 : Int32) → ((a1 = (2 : Int32) → (Q (gi S 5) S)) ∧ (¬ a1 = (2 : Int32) → ((a1 = (3 : Int32) → (Q (gi S 6) S)) ∧ (¬ a1 = (3 : Int32) → ((a1 = (4 : Int32) → (Q (gi S 8) S)) ∧ (¬ a1 = (4 : Int32) → ((a1 = (5 : Int32) → (qX8_rightOnes S (fun r8 S7 => Q r8 S7))) ∧ (¬ a1 = (5 : Int32) → ((a1 = (6 : Int32) → (qX8_wrongOnes S (fun r11 S10 => Q r11 S10))) ∧ (¬ a1 = (6 : Int32) → ((a1 = (7 : Int32) → (Q (gi S 7) S)) ∧ (¬ a1 = (7 : Int32) → ((a1 = (8 : Int32) → (qX9_light S (fun r15 S14 => Q r15 S14))) ∧ (¬ a1 = (8 : Int32) → ((a1 = (9 : Int32) → (Q ((gi S 1) &&& (65535 : Int32)) S)) ∧ (¬ a1 = (9 : Int32) → ((a1 < (11 : Int32) → (Q (-9 : Int32) S)) ∧ (¬ a1 < (11 : Int32) → (((17 : Int32) < a1 → (Q (-9 : Int32) S)) ∧ (¬ (17 : Int32) < a1 → (vp_in (a1 - (10 : Int32)) 8 ∧ (Q (ga S 0 (a1 - (10 : Int32)).toNatClampNeg) S)))))))))))))))))))))))))
abbrev rmX9_count : Room := { frames := 1, cells := 0, slots := 0, locals := 22 }
set_option maxHeartbeats 4000000 in
set_option maxRecDepth 100000 in
theorem kX9_count (l : Launch) (D : va_G) (Y : Nat → ClassId) (A : Nat → Nat) (hI : iC A) (sz : Nat) (S : gS) (a1 : Int32) (Q : Int32 → gS → Prop) (h : qX9_count S a1 Q) : Met l yX9_count wsX9_count rmX9_count (gPc [.ref (A 0), .int a1] sz D vwCl (tY Y) (wC Y A S)) (va_Qi Q (fun S' t => gH D vwCl (tY Y) (wC Y A S') t) (gF A 65 sz)) 0 0 (gF A 65 sz) := by
  refine gMet_i (cc := cX9_count) (maxL := 2) (by decide +kernel) rfl (Nat.le_of_ble_eq_true rfl) (fun p e s m args below meth c Z H locs hx hb hml hts hown hK hP hS hret ls hl => ?_)
  have hown : s.vm.findClass RX9 = some m.cls := hown
  have hl : lv_has ls 2 [(0, .ref (A 0)), (1, .int a1)] := hl
  have hD : ∀ S0 : gS, va_D (gF A 65 s.heap.size) (wC Y A S0) := fun S0 => dC hI S0 (fun k hk => gF_in hk)
  have k0 : ∀ w ∈ u_ws RX9 TX9 15, w ∈ wsX9_count := by decide +kernel
  have k1 := hts (.fieldLink RX9 7 "CoastWatch" "night" "I") (by decide +kernel)
  have k2 := hts (.fieldLink RX9 46 "CoastWatch" "boats" "LCoastWatch$Boats;") (by decide +kernel)
  have k3 : ∀ w ∈ u_ws RX0 TX0 9, w ∈ wsX9_count := by decide +kernel
  have k4 := hts (.fieldLink RX9 145 "CoastWatch$Boats" "size" "I") (by decide +kernel)
  have k5 := hts (.fieldLink RX9 53 "CoastWatch" "hides" "LCoastWatch$Hides;") (by decide +kernel)
  have k6 : ∀ w ∈ u_ws RX3 TX3 7, w ∈ wsX9_count := by decide +kernel
  have k7 := hts (.fieldLink RX9 161 "CoastWatch$Hides" "size" "I") (by decide +kernel)
  have k8 := hts (.fieldLink RX9 60 "CoastWatch" "lots" "LCoastWatch$Lots;") (by decide +kernel)
  have k9 : ∀ w ∈ u_ws RX5 TX5 7, w ∈ wsX9_count := by decide +kernel
  have k10 := hts (.fieldLink RX9 185 "CoastWatch$Lots" "size" "I") (by decide +kernel)
  have k11 := hts (.fieldLink RX9 74 "CoastWatch" "words" "LCoastWatch$Words;") (by decide +kernel)
  have k12 : ∀ w ∈ u_ws RX8 TX8 6, w ∈ wsX9_count := by decide +kernel
  have k13 := hts (.fieldLink RX9 180 "CoastWatch$Words" "size" "I") (by decide +kernel)
  have k14 := hts (.fieldLink RX9 67 "CoastWatch" "laws" "LCoastWatch$Laws;") (by decide +kernel)
  have k15 : ∀ w ∈ u_ws RX4 TX4 4, w ∈ wsX9_count := by decide +kernel
  have k16 := hts (.fieldLink RX9 175 "CoastWatch$Laws" "size" "I") (by decide +kernel)
  have k17 := hts (.fieldLink RX9 13 "CoastWatch" "seed" "I") (by decide +kernel)
  have k18 := hts (.constant RX9 304 65535) (by decide +kernel)
  have k19 := hts (.fieldLink RX9 22 "CoastWatch" "refusals" "[I") (by decide +kernel)
  refine lv_iload_n hx hb dX9_count_0 rfl (lv_at hl 1 rfl) ?_
  by_cases c1 : a1 = (0 : Int32)
  · have h := h.1 c1
    refine lv_tableIn (tgt := 56) hx hb dX9_count_1 (by rw [c1]; decide) (by rw [c1]; decide) (by rw [c1]; rfl) (by decide) ?_
    refine lv_aload_n hx hb dX9_count_56 rfl (lv_at hl 0 rfl) ?_
    refine va_get (ci := 9) (v := .int (gi S 0)) (C := RX9) (T := TX9) (N := 15) hx hb hts k0 hown hK hP 0 (aC0 Y A S) rfl 0 (by decide) k1 (fun _ h9 => h9) rfl dX9_count_57 ?_
    exact hret _ _ _ _ _ _ dX9_count_60 h hP hS
  have h := h.2 c1
  by_cases c2 : a1 = (1 : Int32)
  · have h := h.1 c2
    refine lv_tableIn (tgt := 61) hx hb dX9_count_1 (by rw [c2]; decide) (by rw [c2]; decide) (by rw [c2]; rfl) (by decide) ?_
    refine lv_aload_n hx hb dX9_count_61 rfl (lv_at hl 0 rfl) ?_
    refine va_get (ci := 9) (v := .ref (A 3)) (C := RX9) (T := TX9) (N := 15) hx hb hts k0 hown hK hP 0 (aC0 Y A S) rfl 8 (by decide) k2 (fun _ h9 => h9) rfl dX9_count_62 ?_
    refine va_get (ci := 0) (v := .int (gi S 4)) (C := RX0) (T := TX0) (N := 9) hx hb hts k3 hown hK hP 3 (aC3 Y A S) rfl 0 (by decide) k4 (fun _ h9 => h9) rfl dX9_count_65 ?_
    exact hret _ _ _ _ _ _ dX9_count_68 h hP hS
  have h := h.2 c2
  by_cases c3 : a1 = (2 : Int32)
  · have h := h.1 c3
    refine lv_tableIn (tgt := 69) hx hb dX9_count_1 (by rw [c3]; decide) (by rw [c3]; decide) (by rw [c3]; rfl) (by decide) ?_
    refine lv_aload_n hx hb dX9_count_69 rfl (lv_at hl 0 rfl) ?_
    refine va_get (ci := 9) (v := .ref (A 4)) (C := RX9) (T := TX9) (N := 15) hx hb hts k0 hown hK hP 0 (aC0 Y A S) rfl 9 (by decide) k5 (fun _ h9 => h9) rfl dX9_count_70 ?_
    refine va_get (ci := 3) (v := .int (gi S 5)) (C := RX3) (T := TX3) (N := 7) hx hb hts k6 hown hK hP 4 (aC4 Y A S) rfl 0 (by decide) k7 (fun _ h9 => h9) rfl dX9_count_73 ?_
    exact hret _ _ _ _ _ _ dX9_count_76 h hP hS
  have h := h.2 c3
  by_cases c4 : a1 = (3 : Int32)
  · have h := h.1 c4
    refine lv_tableIn (tgt := 77) hx hb dX9_count_1 (by rw [c4]; decide) (by rw [c4]; decide) (by rw [c4]; rfl) (by decide) ?_
    refine lv_aload_n hx hb dX9_count_77 rfl (lv_at hl 0 rfl) ?_
    refine va_get (ci := 9) (v := .ref (A 5)) (C := RX9) (T := TX9) (N := 15) hx hb hts k0 hown hK hP 0 (aC0 Y A S) rfl 10 (by decide) k8 (fun _ h9 => h9) rfl dX9_count_78 ?_
    refine va_get (ci := 5) (v := .int (gi S 6)) (C := RX5) (T := TX5) (N := 7) hx hb hts k9 hown hK hP 5 (aC5 Y A S) rfl 0 (by decide) k10 (fun _ h9 => h9) rfl dX9_count_81 ?_
    exact hret _ _ _ _ _ _ dX9_count_84 h hP hS
  have h := h.2 c4
  by_cases c5 : a1 = (4 : Int32)
  · have h := h.1 c5
    refine lv_tableIn (tgt := 85) hx hb dX9_count_1 (by rw [c5]; decide) (by rw [c5]; decide) (by rw [c5]; rfl) (by decide) ?_
    refine lv_aload_n hx hb dX9_count_85 rfl (lv_at hl 0 rfl) ?_
    refine va_get (ci := 9) (v := .ref (A 7)) (C := RX9) (T := TX9) (N := 15) hx hb hts k0 hown hK hP 0 (aC0 Y A S) rfl 12 (by decide) k11 (fun _ h9 => h9) rfl dX9_count_86 ?_
    refine va_get (ci := 8) (v := .int (gi S 8)) (C := RX8) (T := TX8) (N := 6) hx hb hts k12 hown hK hP 7 (aC7 Y A S) rfl 0 (by decide) k13 (fun _ h9 => h9) rfl dX9_count_89 ?_
    exact hret _ _ _ _ _ _ dX9_count_92 h hP hS
  have h := h.2 c5
  by_cases c6 : a1 = (5 : Int32)
  · have h := h.1 c6
    refine lv_tableIn (tgt := 93) hx hb dX9_count_1 (by rw [c6]; decide) (by rw [c6]; decide) (by rw [c6]; rfl) (by decide) ?_
    refine lv_aload_n hx hb dX9_count_93 rfl (lv_at hl 0 rfl) ?_
    refine va_get (ci := 9) (v := .ref (A 7)) (C := RX9) (T := TX9) (N := 15) hx hb hts k0 hown hK hP 0 (aC0 Y A S) rfl 12 (by decide) k11 (fun _ h9 => h9) rfl dX9_count_94 ?_
    refine gVi (As := []) (rest := []) ⟨hx, hb, hml, hown, hts⟩ (kX8_rightOnes l D Y A hI H.size S  _ h) (cwV 0 hts gX9_count_X8_rightOnes rfl rfl rfl (by decide +kernel) ⟨Nat.le_of_ble_eq_true rfl, Nat.le_of_ble_eq_true rfl⟩) hK hP hS (gF_le hS.1) (aC7 Y A S) (show vwCl[8]? = some (RX8, TX8, 6) from rfl) rfl rfl hl.1 (Nat.le_of_ble_eq_true rfl) dX9_count_97 ⟨Nat.zero_le _, Nat.zero_le _⟩ ?_
    intro r8 S7 H locs h hP hS
    exact hret _ _ _ _ _ _ dX9_count_100 h hP hS
  have h := h.2 c6
  by_cases c9 : a1 = (6 : Int32)
  · have h := h.1 c9
    refine lv_tableIn (tgt := 101) hx hb dX9_count_1 (by rw [c9]; decide) (by rw [c9]; decide) (by rw [c9]; rfl) (by decide) ?_
    refine lv_aload_n hx hb dX9_count_101 rfl (lv_at hl 0 rfl) ?_
    refine va_get (ci := 9) (v := .ref (A 7)) (C := RX9) (T := TX9) (N := 15) hx hb hts k0 hown hK hP 0 (aC0 Y A S) rfl 12 (by decide) k11 (fun _ h9 => h9) rfl dX9_count_102 ?_
    refine gVi (As := []) (rest := []) ⟨hx, hb, hml, hown, hts⟩ (kX8_wrongOnes l D Y A hI H.size S  _ h) (cwV 0 hts gX9_count_X8_wrongOnes rfl rfl rfl (by decide +kernel) ⟨Nat.le_of_ble_eq_true rfl, Nat.le_of_ble_eq_true rfl⟩) hK hP hS (gF_le hS.1) (aC7 Y A S) (show vwCl[8]? = some (RX8, TX8, 6) from rfl) rfl rfl hl.1 (Nat.le_of_ble_eq_true rfl) dX9_count_105 ⟨Nat.zero_le _, Nat.zero_le _⟩ ?_
    intro r11 S10 H locs h hP hS
    exact hret _ _ _ _ _ _ dX9_count_108 h hP hS
  have h := h.2 c9
  by_cases c12 : a1 = (7 : Int32)
  · have h := h.1 c12
    refine lv_tableIn (tgt := 109) hx hb dX9_count_1 (by rw [c12]; decide) (by rw [c12]; decide) (by rw [c12]; rfl) (by decide) ?_
    refine lv_aload_n hx hb dX9_count_109 rfl (lv_at hl 0 rfl) ?_
    refine va_get (ci := 9) (v := .ref (A 6)) (C := RX9) (T := TX9) (N := 15) hx hb hts k0 hown hK hP 0 (aC0 Y A S) rfl 11 (by decide) k14 (fun _ h9 => h9) rfl dX9_count_110 ?_
    refine va_get (ci := 4) (v := .int (gi S 7)) (C := RX4) (T := TX4) (N := 4) hx hb hts k15 hown hK hP 6 (aC6 Y A S) rfl 0 (by decide) k16 (fun _ h9 => h9) rfl dX9_count_113 ?_
    exact hret _ _ _ _ _ _ dX9_count_116 h hP hS
  have h := h.2 c12
  by_cases c13 : a1 = (8 : Int32)
  · have h := h.1 c13
    refine lv_tableIn (tgt := 117) hx hb dX9_count_1 (by rw [c13]; decide) (by rw [c13]; decide) (by rw [c13]; rfl) (by decide) ?_
    refine lv_aload_n hx hb dX9_count_117 rfl (lv_at hl 0 rfl) ?_
    refine gVi (As := []) (rest := []) ⟨hx, hb, hml, hown, hts⟩ (kX9_light l D Y A hI H.size S  _ h) (cwV 0 hts gX9_count_X9_light rfl rfl rfl (by decide +kernel) ⟨Nat.le_of_ble_eq_true rfl, Nat.le_of_ble_eq_true rfl⟩) hK hP hS (gF_le hS.1) (aC0 Y A S) (show vwCl[9]? = some (RX9, TX9, 15) from rfl) rfl rfl hl.1 (Nat.le_of_ble_eq_true rfl) dX9_count_118 ⟨Nat.zero_le _, Nat.zero_le _⟩ ?_
    intro r15 S14 H locs h hP hS
    exact hret _ _ _ _ _ _ dX9_count_121 h hP hS
  have h := h.2 c13
  by_cases c16 : a1 = (9 : Int32)
  · have h := h.1 c16
    refine lv_tableIn (tgt := 122) hx hb dX9_count_1 (by rw [c16]; decide) (by rw [c16]; decide) (by rw [c16]; rfl) (by decide) ?_
    refine lv_aload_n hx hb dX9_count_122 rfl (lv_at hl 0 rfl) ?_
    refine va_get (ci := 9) (v := .int (gi S 1)) (C := RX9) (T := TX9) (N := 15) hx hb hts k0 hown hK hP 0 (aC0 Y A S) rfl 1 (by decide) k17 (fun _ h9 => h9) rfl dX9_count_123 ?_
    refine lv_ldcw (v := (65535 : Int32)) hx hb hown k18 dX9_count_126 ?_
    refine lv_iand hx hb dX9_count_129 ?_
    exact hret _ _ _ _ _ _ dX9_count_130 h hP hS
  have h := h.2 c16
  refine lv_tableOut (tgt := 131) hx hb dX9_count_1 (by
    have := ne_toInt (z := 0) c1 (by decide)
    have := ne_toInt (z := 1) c2 (by decide)
    have := ne_toInt (z := 2) c3 (by decide)
    have := ne_toInt (z := 3) c4 (by decide)
    have := ne_toInt (z := 4) c5 (by decide)
    have := ne_toInt (z := 5) c6 (by decide)
    have := ne_toInt (z := 6) c9 (by decide)
    have := ne_toInt (z := 7) c12 (by decide)
    have := ne_toInt (z := 8) c13 (by decide)
    have := ne_toInt (z := 9) c16 (by decide)
    omega) (by decide) ?_
  refine lv_iload_n hx hb dX9_count_131 rfl (lv_at hl 1 rfl) ?_
  refine lv_bipush (v := (11 : Int32)) hx hb dX9_count_132 (by decide) ?_
  refine lv_icmp_lt (tgt := 155) hx hb dX9_count_134 (by decide) (fun c17 => ?_) (fun c17 => ?_)
  · have h := h.1 c17
    refine lv_bipush (v := (-9 : Int32)) hx hb dX9_count_155 (by decide) ?_
    exact hret _ _ _ _ _ _ dX9_count_157 h hP hS
  · have h := h.2 c17
    refine lv_iload_n hx hb dX9_count_137 rfl (lv_at hl 1 rfl) ?_
    refine lv_bipush (v := (17 : Int32)) hx hb dX9_count_138 (by decide) ?_
    refine lv_icmp_gt (tgt := 155) hx hb dX9_count_140 (by decide) (fun c18 => ?_) (fun c18 => ?_)
    · have h := h.1 c18
      refine lv_bipush (v := (-9 : Int32)) hx hb dX9_count_155 (by decide) ?_
      exact hret _ _ _ _ _ _ dX9_count_157 h hP hS
    · have h := h.2 c18
      refine lv_aload_n hx hb dX9_count_143 rfl (lv_at hl 0 rfl) ?_
      refine va_get (ci := 9) (v := .ref (A 10)) (C := RX9) (T := TX9) (N := 15) hx hb hts k0 hown hK hP 0 (aC0 Y A S) rfl 4 (by decide) k19 (fun _ h9 => h9) rfl dX9_count_144 ?_
      refine lv_iload_n hx hb dX9_count_147 rfl (lv_at hl 1 rfl) ?_
      refine lv_bipush (v := (10 : Int32)) hx hb dX9_count_148 (by decide) ?_
      refine lv_isub hx hb dX9_count_150 ?_
      have v_19 := h.1
      have h := h.2
      refine va_iald hx hb hK hP 10 0 (aC10 Y A S) rfl v_19 dX9_count_151 ?_
      refine lv_goto (tgt := 157) hx hb dX9_count_152 (by decide) ?_
      exact hret _ _ _ _ _ _ dX9_count_157 h hP hS
