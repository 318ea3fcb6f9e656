/-! a night: one word proved, and all of them -/
theorem RS_46 {S M : gS} (h : RS S M) {i : Nat} {v : Int32} (hW : RW (sA S 46 (upd (ga S 46) i v))) : RS (sA S 46 (upd (ga S 46) i v)) (sA M 34 (upd (ga M 34) i v)) := by
  obtain ⟨h1, h2, h3, h4, h5, h6, h7, h8, h9, h10, h11⟩ := h
  exact ⟨h1, RA_up h2 (by decide) (congrArg (fun f => upd f i v) (h2 (46, 34) (by decide))), h3, BA_no h4 (by decide), RF_nr (RF_no h5 (by decide)) (by decide), RT_nr (RT_no h6 (by decide)) (by decide), RLo_nr (RLo_no h7 (by decide) (by decide)) (by decide), RY_no h8 (by decide) (by decide) (by decide) (by decide), RB_no h9 (by decide), RU_no h10 (by decide), hW⟩
theorem RS_47 {S M : gS} (h : RS S M) {i : Nat} {v : Int32} (hW : RW (sA S 47 (upd (ga S 47) i v))) : RS (sA S 47 (upd (ga S 47) i v)) (sA M 35 (upd (ga M 35) i v)) := by
  obtain ⟨h1, h2, h3, h4, h5, h6, h7, h8, h9, h10, h11⟩ := h
  exact ⟨h1, RA_up h2 (by decide) (congrArg (fun f => upd f i v) (h2 (47, 35) (by decide))), h3, BA_no h4 (by decide), RF_nr (RF_no h5 (by decide)) (by decide), RT_nr (RT_no h6 (by decide)) (by decide), RLo_nr (RLo_no h7 (by decide) (by decide)) (by decide), RY_no h8 (by decide) (by decide) (by decide) (by decide), RB_no h9 (by decide), RU_no h10 (by decide), hW⟩
def RP (k : Nat) (S M : gS) : Prop := RS S M ∧ CM S M ∧ RWk k S
theorem RWk_same {k : Nat} {S : gS} (h : RWk k S) : RWk (k + 1) S := by
  intro i hi
  have := h i hi
  have := cntE_le (I := ga S 43) (N := ga S 44) (i := nI i) (t := gi S 0) (k := k) (n := k + 1) (by omega)
  omega
theorem RWk_r {k : Nat} {S : gS} (h : RWk k S) (hk : k < 60) (h8 : (gi S 8).toNatClampNeg ≤ 60) (hI : 0 ≤ (ga S 43 k).toInt ∧ (ga S 43 k).toInt ≤ 5) (hN : ga S 44 k = gi S 0) : RWk (k + 1) (sA S 46 (upd (ga S 46) (ga S 43 k).toNatClampNeg (ga S 46 (ga S 43 k).toNatClampNeg + 1))) ∧ RWk (k + 1) (sA S 47 (upd (ga S 47) (ga S 43 k).toNatClampNeg (ga S 47 (ga S 43 k).toNatClampNeg + 1))) := by
  have cl := cl_lt hI.1 (n := 6) (by omega)
  have l1 : (1 : Int32).toInt = 1 := by decide
  have step : ∀ i, i < 6 → (cntE (ga S 43) (ga S 44) (nI i) (gi S 0) (k + 1) : Int) = cntE (ga S 43) (ga S 44) (nI i) (gi S 0) k + (if i = (ga S 43 k).toNatClampNeg then 1 else 0) := by
    intro i hi
    show ((cntE (ga S 43) (ga S 44) (nI i) (gi S 0) k + (if ga S 43 k = nI i ∧ ga S 44 k = gi S 0 then 1 else 0) : Nat) : Int) = _
    by_cases q : i = (ga S 43 k).toNatClampNeg
    · subst q
      rw [if_pos ⟨cl.2.2, hN⟩, if_pos rfl]
      push_cast
      rfl
    · have : ¬ ga S 43 k = nI i := fun z => q (by rw [z, tN_nI (by omega)])
      rw [if_neg (fun z => this z.1), if_neg q]
      push_cast
      rfl
  have up : ∀ i, i < 6 → cntE (ga S 43) (ga S 44) (nI i) (gi S 0) k ≤ 60 ∧ cntL (ga S 43) (ga S 44) (nI i) (gi S 0) (gi S 8).toNatClampNeg ≤ 60 := by
    intro i hi
    have e1 : ∀ n, cntE (ga S 43) (ga S 44) (nI i) (gi S 0) n ≤ n := by
      intro n
      induction n with
      | zero => exact Nat.le_refl _
      | succ n ih => unfold cntE; split <;> omega
    have e2 : ∀ n, cntL (ga S 43) (ga S 44) (nI i) (gi S 0) n ≤ n := by
      intro n
      induction n with
      | zero => exact Nat.le_refl _
      | succ n ih => unfold cntL; split <;> omega
    have := e1 k
    have := e2 (gi S 8).toNatClampNeg
    omega
  refine ⟨fun i hi => ?_, fun i hi => ?_⟩
  · have old := h i hi
    have s := step i hi
    have u := up i hi
    show 0 ≤ (upd (ga S 46) (ga S 43 k).toNatClampNeg (ga S 46 (ga S 43 k).toNatClampNeg + 1) i).toInt ∧ 0 ≤ (ga S 47 i).toInt ∧ (upd (ga S 46) (ga S 43 k).toNatClampNeg (ga S 46 (ga S 43 k).toNatClampNeg + 1) i).toInt + (ga S 47 i).toInt ≤ ((cntL (ga S 43) (ga S 44) (nI i) (gi S 0) (gi S 8).toNatClampNeg + cntE (ga S 43) (ga S 44) (nI i) (gi S 0) (k + 1) : Nat) : Int)
    push_cast at old ⊢
    by_cases q : i = (ga S 43 k).toNatClampNeg
    · rw [if_pos q] at s
      rw [← q, upd_at]
      have e : (ga S 46 i + 1).toInt = (ga S 46 i).toInt + 1 := by rw [ti_add] <;> omega
      omega
    · rw [if_neg q] at s
      rw [upd_ne q]
      omega
  · have old := h i hi
    have s := step i hi
    have u := up i hi
    show 0 ≤ (ga S 46 i).toInt ∧ 0 ≤ (upd (ga S 47) (ga S 43 k).toNatClampNeg (ga S 47 (ga S 43 k).toNatClampNeg + 1) i).toInt ∧ (ga S 46 i).toInt + (upd (ga S 47) (ga S 43 k).toNatClampNeg (ga S 47 (ga S 43 k).toNatClampNeg + 1) i).toInt ≤ ((cntL (ga S 43) (ga S 44) (nI i) (gi S 0) (gi S 8).toNatClampNeg + cntE (ga S 43) (ga S 44) (nI i) (gi S 0) (k + 1) : Nat) : Int)
    push_cast at old ⊢
    by_cases q : i = (ga S 43 k).toNatClampNeg
    · rw [if_pos q] at s
      rw [← q, upd_at]
      have e : (ga S 47 i + 1).toInt = (ga S 47 i).toInt + 1 := by rw [ti_add] <;> omega
      omega
    · rw [if_neg q] at s
      rw [upd_ne q]
      omega
theorem sim_word {k : Nat} {S M : gS} (hP : RP k S M) (hk : k < (gi S 8).toNatClampNeg) {QC : gS → Prop} {KC : Int32 × gS → Prop}
    (h : ∀ S2 M2 : gS, RP (k + 1) S2 M2 → (gi S2 8 = gi S 8 ∧ gi S2 0 = gi S 0) → (∀ (Q : gS → Prop) (K : Int32 × gS → Prop), K (nI (k + 1), M2) → qX10_prove_L2 Q K (nI k, M)) → KC (nI (k + 1), S2)) : qX9_proveWords_L2 QC KC (nI k, S) := by
  obtain ⟨hR, hC, hW⟩ := hP
  have b8 := RS_bi hR (i := 8) (lo := 0) (hi := 60) (by decide)
  have t8 := tn_ti b8.1
  have b6 := RS_bi hR (i := 6) (lo := 0) (hi := 100) (by decide)
  have b5 := RS_bi hR (i := 5) (lo := 0) (hi := 12) (by decide)
  have i8 := RS_i hR (i := 8) (j := 8) (by decide)
  have i0 := RS_i hR (i := 0) (j := 1) (by decide)
  have i5 := RS_i hR (i := 5) (j := 3) (by decide)
  have e43 := RS_a hR (i := 43) (j := 31) (by decide)
  have e44 := RS_a hR (i := 44) (j := 32) (by decide)
  have e45 := RS_a hR (i := 45) (j := 33) (by decide)
  have e46 := RS_a hR (i := 46) (j := 34) (by decide)
  have e47 := RS_a hR (i := 47) (j := 35) (by decide)
  have e32 := RS_a hR (i := 32) (j := 16) (by decide)
  have e29 := RS_a hR (i := 29) (j := 13) (by decide)
  have ek : (nI k).toInt = k := nI_ti (by omega)
  have hI := RS_ba hR (i := 43) (n := 60) (lo := 0) (hi := 5) (by decide) (k := k) (by omega)
  have hc := RS_ba hR (i := 45) (n := 60) (lo := 0) (hi := 5) (by decide) (k := k) (by omega)
  have cl := cl_lt hc.1 (n := 6) (by omega)
  have hcm := hC _ cl.1
  rw [← cl.2.2] at hcm
  -- the reference's turn
  have mt : ∀ M2 : gS, (∀ (Q : gS → Prop) (K : Int32 × gS → Prop), K (nI (k + 1), M2) → (ga S 44 k = gi S 0 → (ga M 27 (ga S 45 k).toNatClampNeg = 0 → qX10_prove_J59 Q K (nI k, ga S 45 k, 0, ga M 34 (ga S 43 k).toNatClampNeg, ga S 43 k, M)) ∧ (¬ ga M 27 (ga S 45 k).toNatClampNeg = 0 → qX10_prove_J59 Q K (nI k, ga S 45 k, 1, ga M 34 (ga S 43 k).toNatClampNeg, ga S 43 k, M))) ∧ (¬ ga S 44 k = gi S 0 → K (nI (k + 1), M))) → ∀ (Q : gS → Prop) (K : Int32 × gS → Prop), K (nI (k + 1), M2) → qX10_prove_L2 Q K (nI k, M) := by
    intro M2 hh Q K hK
    have hh := hh Q K hK
    refine br_le (fun q => ?_) (fun q => ⟨in_of (by omega) (by omega), ?_⟩)
    · rw [← i8] at q; omega
    · rw [tN_nI (by omega), ← e44, ← i0]
      refine ⟨fun z => ?_, fun z => ?_⟩
      · rw [← e45]
        rintro x rfl
        rw [← e43]
        exact ⟨in_of hI.1 (by omega), in_of hc.1 (by omega), hh.1 z⟩
      · rintro x rfl
        rw [nI_1]
        exact hh.2 z
  refine br_le (fun q => by omega) (fun q => ⟨in_of (by omega) (by omega), ?_⟩)
  rw [tN_nI (by omega)]
  refine ⟨fun q2 => ?_, fun q2 => ?_⟩
  · rintro x rfl
    refine rX5_cameTo b6 ?_
    have rw2 := RWk_r hW (by omega) (by omega) hI q2
    by_cases cm : cmB (ga S 37) (ga S 36) (ga S 45 k) (gi S 0) (gi S 6).toNatClampNeg = true
    · rw [if_pos cm] at hcm ⊢
      refine ⟨fun z => absurd z (by decide), fun _ => ⟨in_of (by omega) (by omega), ?_⟩⟩
      rw [tN_nI (by omega)]
      refine ⟨in_of hI.1 (by omega), ?_⟩
      rintro S7 rfl
      refine ⟨fun z => absurd z (by decide), fun _ => rX3_suspect b5 ?_⟩
      rintro y rfl
      rw [nI_1]
      have hR2 := RS_46 hR (RWk_RW rw2.1 (by show k + 1 ≤ (gi S 8).toNatClampNeg; omega))
      have hR3 := RS_arr hR2 (i := 32) (j := 16) (f := gsF (ga S 32) (ga S 29) (ga S 45 k) (gi S 5).toNatClampNeg) (g := gsF (ga M 16) (ga M 13) (ga S 45 k) (gi M 3).toNatClampNeg) (by decide) (by decide) (by decide) (lA_at (n := 12) (lo := 0) (hi := 999) (by decide) (fun j hj => by
        have bg := RS_ba hR (i := 32) (n := 12) (lo := 0) (hi := 999) (by decide) hj
        have l10 : (10 : Int32).toInt = 10 := by decide
        have l999 : (999 : Int32).toInt = 999 := by decide
        have ea : (ga S 32 j + 10).toInt = (ga S 32 j).toInt + 10 := by rw [ti_add] <;> omega
        unfold gsF
        split
        · split
          · rename_i z
            have z := Int32.lt_iff_toInt_lt.mp z
            exact ⟨by omega, by omega⟩
          · exact ⟨by decide, by decide⟩
        · exact bg)) (by rw [e32, e29, i5])
      refine h _ _ ⟨hR3, hC, rw2.1⟩ ⟨rfl, rfl⟩ (mt _ (fun Q K hK => ⟨fun _ => ⟨fun z => absurd z (by rw [hcm]; decide), fun _ => ?_⟩, fun z => absurd q2 z⟩))
      refine ⟨in_of hI.1 (by omega), ?_⟩
      rintro S15 rfl
      refine ⟨in_of (by omega) (by omega), ?_⟩
      rw [tN_nI (by omega), ga_ne (by decide), ← e43]
      refine ⟨in_of hI.1 (by omega), in_of hc.1 (by omega), ?_⟩
      rw [ga_ne (by decide), ga_ne (by decide)]
      refine ⟨fun z => absurd z (by rw [hcm]; decide), fun _ => ?_⟩
      rintro S22 rfl
      rw [upd_eq (Int32.add_zero _), show sA (sA M 34 (upd (ga M 34) (ga S 43 k).toNatClampNeg (ga M 34 (ga S 43 k).toNatClampNeg + 1))) 35 (ga M 35) = sA M 34 (upd (ga M 34) (ga S 43 k).toNatClampNeg (ga M 34 (ga S 43 k).toNatClampNeg + 1)) from sA_self (S := sA M 34 (upd (ga M 34) (ga S 43 k).toNatClampNeg (ga M 34 (ga S 43 k).toNatClampNeg + 1))) (k := 35), ← e46]
      refine rX10_guess (M := sA M 34 (upd (ga S 46) (ga S 43 k).toNatClampNeg (ga S 46 (ga S 43 k).toNatClampNeg + 1))) (by show 0 ≤ (gi M 3).toInt ∧ (gi M 3).toInt ≤ 12; rw [← i5]; exact b5) (fun j hj => by show (ga M 16 j).toInt ≤ 999; rw [← e32]; exact (RS_ba hR (i := 32) (n := 12) (lo := 0) (hi := 999) (by decide) hj).2) hc (by show ¬ ga M 27 _ = 0; rw [hcm]; decide) ?_
      rw [nI_1]
      rw [← e46] at hK
      exact hK
    · rw [if_neg cm] at hcm ⊢
      refine ⟨fun _ => ⟨in_of (by omega) (by omega), ?_⟩, fun z => absurd rfl z⟩
      rw [tN_nI (by omega)]
      refine ⟨in_of hI.1 (by omega), ?_⟩
      rintro S4 rfl
      refine ⟨fun _ => ?_, fun z => absurd rfl z⟩
      rintro y rfl
      rw [nI_1]
      have hR2 := RS_47 hR (RWk_RW rw2.2 (by show k + 1 ≤ (gi S 8).toNatClampNeg; omega))
      refine h _ _ ⟨hR2, hC, rw2.2⟩ ⟨rfl, rfl⟩ (mt _ (fun Q K hK => ⟨fun _ => ⟨fun _ => ?_, fun z => absurd hcm z⟩, fun z => absurd q2 z⟩))
      refine ⟨in_of hI.1 (by omega), ?_⟩
      rintro S15 rfl
      rw [upd_eq (Int32.add_zero _), sA_self]
      refine ⟨in_of (by omega) (by omega), ?_⟩
      rw [tN_nI (by omega), ← e43]
      refine ⟨in_of hI.1 (by omega), in_of hc.1 (by omega), fun _ => ?_, fun z => absurd hcm z⟩
      rintro S21 rfl
      refine rX10_noguess (by show 0 ≤ (gi M 3).toInt; rw [← i5]; exact b5.1) hc (by show ga M 27 _ = 0; exact hcm) ?_
      rw [nI_1, ← e47]
      rw [← e47] at hK
      exact hK
  · rintro x rfl
    rw [nI_1]
    exact h S M ⟨hR, hC, RWk_same hW⟩ ⟨rfl, rfl⟩ (mt M (fun Q K hK => ⟨fun z => absurd z q2, fun _ => hK⟩))
theorem sim_prove {S M : gS} (hN : RN S M) {QC : gS → Prop} (h : ∀ S2 M2 : gS, RS S2 M2 → gi S2 0 = gi S 0 → (∀ Q : gS → Prop, Q M2 → qX10_prove M Q) → QC S2) : qX9_proveWords S QC := by
  have b8 := RS_bi hN.1 (i := 8) (lo := 0) (hi := 60) (by decide)
  have t8 := tn_ti b8.1
  refine lp_up (gi S 8).toNatClampNeg (fun k a => ∃ X Y : gS, a = (nI k, X) ∧ RP k X Y ∧ (gi X 8 = gi S 8 ∧ gi X 0 = gi S 0) ∧ ∀ Q : gS → Prop, lp (qX10_prove_L2 Q) (nI k, Y) → lp (qX10_prove_L2 Q) (0, M)) ?_ _ ⟨S, M, rfl, ⟨hN.1, hN.2.1, fun i hi => hN.2.2 i hi⟩, ⟨rfl, rfl⟩, fun _ z => z⟩
  rintro K k _ hk ⟨X, Y, rfl, hP, e8, tr⟩ hK
  rcases Nat.lt_or_ge k (gi S 8).toNatClampNeg with q | q
  · refine sim_word hP (by rw [e8.1]; exact q) (fun S2 M2 hP2 e2 t2 => ?_)
    exact hK _ q ⟨S2, M2, rfl, hP2, ⟨by rw [e2.1, e8.1], by rw [e2.2, e8.2]⟩, fun Q z => tr Q (lp_step (fun K2 z2 => t2 Q K2 z2) z)⟩
  · have ek : (nI k).toInt = k := nI_ti (by omega)
    refine br_le (fun _ => ?_) (fun z => by rw [e8.1] at z; omega)
    refine h X Y hP.1 e8.2 (fun Q hQ => tr Q ?_)
    refine lp_up 1 (fun j a => j = 0 ∧ a = (nI k, Y)) ?_ _ ⟨rfl, rfl⟩
    rintro K2 j _ hj ⟨rfl, rfl⟩ hK2
    refine br_le (fun _ => hQ) (fun z => ?_)
    rw [← RS_i hP.1 (i := 8) (j := 8) (by decide), e8.1] at z
    omega
