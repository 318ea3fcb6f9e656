/-! a night: ashore, and a boat's way whole -/
theorem sim_shore {S M : gS} (hN : RN S M) {b c : Int32} (hb : 0 ≤ b.toInt ∧ b.toInt < 8) (hb4 : b.toInt < (gi S 4).toInt) (hc : 0 ≤ c.toInt ∧ c.toInt ≤ 5) (hs : (gi S 6).toInt < 100) {Q : gS → Prop}
    (h : ∀ S2 M2 : gS, RN S2 M2 → (gi S2 4 = gi S 4 ∧ gi S2 0 = gi S 0) → (∀ R : gS → Prop, R M2 → qX10_hideFor M c (ga M 9 b.toNatClampNeg) (fun r15 S14 => (r15 < 0 → ∀ S17 : gS, S17 = sA S14 11 (upd (ga S14 11) b.toNatClampNeg (ga S14 11 b.toNatClampNeg + 1)) → R S17) ∧ (¬ r15 < 0 → qX10_lot S14 b c 0 r15 (fun S18 => R S18)))) → Q S2) : qX9_bringAshore S b c Q := by
  have hbl := (cl_lt hb.1 (n := 8) (by omega)).1
  have hR := hN.1
  have l0 : (0 : Int32).toInt = 0 := by decide
  have e18 := RS_a hR (i := 18) (j := 9) (by decide)
  have e20 := RS_a hR (i := 20) (j := 11) (by decide)
  have b18 := RS_ba hR (i := 18) (n := 8) (lo := 0) (hi := 60) (by decide) hbl
  have b5 := RS_bi hR (i := 5) (lo := 0) (hi := 12) (by decide)
  have b6 := RS_bi hR (i := 6) (lo := 0) (hi := 100) (by decide)
  have i5 := RS_i hR (i := 5) (j := 3) (by decide)
  have i6 := RS_i hR (i := 6) (j := 4) (by decide)
  have t5 := tn_ti b5.1
  refine ⟨in_of hb.1 (by omega), ?_⟩
  rintro x rfl
  refine rX3_firstWithRoom b5 ?_
  have hM := RS_hide hR (c := c) b18
  have hin := fhF_in (p := fun k => ga S 29 k = c ∧ ¬ ga S 30 k - ga S 33 k < ga S 18 b.toNatClampNeg) (gi S 5).toNatClampNeg 0
  generalize hr : fhF (fun k => ga S 29 k = c ∧ ¬ ga S 30 k - ga S 33 k < ga S 18 b.toNatClampNeg) (gi S 5).toNatClampNeg 0 = r at hM hin
  have mk : ∀ P : Int32 → gS → Prop, P r M → qX10_hideFor M c (ga M 9 b.toNatClampNeg) P := by
    intro P hP
    rw [← e18]
    exact rX10_hideFor (by rw [← i5]; exact b5) (by rw [← i6]; exact b6) (by rw [hM]; exact hP)
  refine ⟨fun q => ?_, fun q => ?_⟩
  · rintro S10 rfl
    have hN2 : RN (sA S 20 (upd (ga S 20) b.toNatClampNeg (ga S 20 b.toNatClampNeg + 1))) (sA M 11 (upd (ga M 11) b.toNatClampNeg (ga M 11 b.toNatClampNeg + 1))) := ⟨RS_put2N hR rfl (by rw [e20]) (by decide) (by decide) (by decide) (by decide) (by decide), hN.2.1, hN.2.2⟩
    refine h _ _ hN2 ⟨rfl, rfl⟩ (fun R hR2 => mk _ ⟨fun _ => ?_, fun z => absurd (by rw [q]; decide) z⟩)
    rintro S17 rfl
    exact hR2
  · rcases hin with z | ⟨j, j1, j2, -⟩
    · exact absurd z q
    · subst j2
      have ej : (nI j).toInt = j := nI_ti (by omega)
      refine rX5_add ⟨b6.1, hs⟩ ⟨in_of (by omega) (by omega), ?_⟩
      rw [tN_nI (by omega)]
      rintro S8 rfl S9 rfl
      have hN2 := RN_lot hN (pl := 0) (hC := nI j) (hM := nI j) hs hb hc (ga S 1) (upd (ga S 33) j (ga S 33 j + ga S 18 b.toNatClampNeg)) (Or.inr ⟨rfl, rfl, j, by omega, rfl, rfl⟩)
      have e1 : sA (ltC S b (ga S 18 b.toNatClampNeg) c 0 (nI j)) 1 (ga S 1) = ltC S b (ga S 18 b.toNatClampNeg) c 0 (nI j) := sA_self (S := ltC S b (ga S 18 b.toNatClampNeg) c 0 (nI j)) (k := 1)
      rw [e1] at hN2
      refine h _ _ hN2 ⟨rfl, rfl⟩ (fun R hR2 => mk _ ⟨fun z => ?_, fun _ => ?_⟩)
      · have := Int32.lt_iff_toInt_lt.mp z
        omega
      · rw [RS_a hR (i := 1) (j := 39) (by decide), sA_self] at hR2
        exact rX10_lot (by rw [← i6]; exact ⟨b6.1, hs⟩) hb hc hR2
/-- one turn of the reference's loop over boats -/
def itM (M : gS) (b : Int32) (M2 : gS) : Prop := ∀ (Q : gS → Prop) (K : Int32 × gS → Prop), K (b + 1, M2) → qX10_pass_L37 Q K (b, M)
theorem sim_send {S M : gS} (hN : RN S M) {b : Int32} (hb : 0 ≤ b.toInt ∧ b.toInt < 8) (hb4 : b.toInt < (gi S 4).toInt) {Q : gS → Prop} (h : ∀ S2 M2 : gS, RN S2 M2 → (gi S2 4 = gi S 4 ∧ gi S2 0 = gi S 0) → itM M b M2 → Q S2) : qX9_sendOut S b Q := by
  have hbl := (cl_lt hb.1 (n := 8) (by omega)).1
  have hR := hN.1
  have l0 : (0 : Int32).toInt = 0 := by decide
  have lm : (-1 : Int32).toInt = -1 := by decide
  have l100 : (100 : Int32).toInt = 100 := by decide
  have i4 := RS_i hR (i := 4) (j := 2) (by decide)
  have i6 := RS_i hR (i := 6) (j := 4) (by decide)
  have b6 := RS_bi hR (i := 6) (lo := 0) (hi := 100) (by decide)
  have b0 := RS_bi hR (i := 0) (lo := 0) (hi := 1000) (by decide)
  have e18 := RS_a hR (i := 18) (j := 9) (by decide)
  have e12 := RS_a hR (i := 12) (j := 25) (by decide)
  have e13 := RS_a hR (i := 13) (j := 26) (by decide)
  have b18 := RS_ba hR (i := 18) (n := 8) (lo := 0) (hi := 60) (by decide) hbl
  -- the reference's turn, out of what its loop asks for
  have it0 : ∀ M2 : gS, ((∀ (Q : gS → Prop) (K : Int32 × gS → Prop), K (b + 1, M2) → (ga M 9 b.toNatClampNeg ≤ 0 → qX10_pass_J71 Q K (b, M)) ∧ (¬ ga M 9 b.toNatClampNeg ≤ 0 → ((100 : Int32) ≤ gi M 4 → qX10_pass_J71 Q K (b, M)) ∧ (¬ (100 : Int32) ≤ gi M 4 → qX10_choice M b (fun r18 S17 => qX10_pass_J72 Q K (b, r18, S17))))) → itM M b M2) := by
    intro M2 hh Q K hK
    refine ⟨fun z => ?_, fun _ => ⟨in_of hb.1 (by omega), hh Q K hK⟩⟩
    have z := Int32.le_iff_toInt_le.mp z
    rw [← i4] at z
    omega
  have stay : ∀ (Q : gS → Prop) (K : Int32 × gS → Prop), K (b + 1, M) → qX10_pass_J71 Q K (b, M) := by
    intro Q K hK
    refine ⟨fun _ => ?_, fun z => absurd (by decide) z⟩
    rintro x rfl
    exact hK
  refine ⟨in_of hb.1 (by omega), fun q => ?_, fun q => br_le (fun q2 => ?_) (fun q2 => ?_)⟩
  · refine h S M hN ⟨rfl, rfl⟩ (it0 M (fun Q K hK => ⟨fun _ => stay Q K hK, fun z => absurd ?_ z⟩))
    rw [← e18, q]; decide
  · refine h S M hN ⟨rfl, rfl⟩ (it0 M (fun Q K hK => ⟨fun _ => stay Q K hK, fun _ => ⟨fun _ => stay Q K hK, fun z => absurd (Int32.le_iff_toInt_le.mpr ?_) z⟩⟩))
    rw [← i6]; omega
  · have c0 : ¬ ga M 9 b.toNatClampNeg ≤ 0 := by
      rw [← e18]
      intro z
      have z := Int32.le_iff_toInt_le.mp z
      exact q (Int32.toInt_inj.mp (by omega))
    have c1 : ¬ (100 : Int32) ≤ gi M 4 := by
      rw [← i6]
      intro z
      have z := Int32.le_iff_toInt_le.mp z
      omega
    have it1 : ∀ M2 : gS, (∀ (Q : gS → Prop) (K : Int32 × gS → Prop), K (b + 1, M2) → qX10_choice M b (fun r18 S17 => qX10_pass_J72 Q K (b, r18, S17))) → itM M b M2 := fun M2 hh => it0 M2 (fun Q K hK => ⟨fun z => absurd z c0, fun _ => ⟨fun z => absurd z c1, fun _ => hh Q K hK⟩⟩)
    refine rX9_light b0.1 (fun r hr => br_le (fun q3 => ?_) (fun q3 => ?_))
    · have q3 : litI (gi S 0).toInt ≤ (ga S 17 b.toNatClampNeg).toInt := by rw [← hr]; exact q3
      refine rX9_chosenCove hR.2.2.2.1 b0.1 hb ?_
      have cb := chF_bd (o := opn S b) (fr := ga S (21 + b.toNatClampNeg)) (wo := ga S 8) (n := 6) (Nat.le_refl _)
      have it2 : ∀ M2 : gS, (∀ (Q : gS → Prop) (K : Int32 × gS → Prop), K (b + 1, M2) → qX10_pass_J72 Q K (b, chF (opn S b) (ga S (21 + b.toNatClampNeg)) (ga S 8) 6, M)) → itM M b M2 := fun M2 hh => it1 M2 (fun Q K hK => rX10_choice hR hb (fun _ => hh Q K hK) (fun z => by omega))
      generalize hcv : chF (opn S b) (ga S (21 + b.toNatClampNeg)) (ga S 8) 6 = c at cb it2
      refine ⟨fun q4 => ?_, fun q4 => ?_⟩
      · refine h S M hN ⟨rfl, rfl⟩ (it2 M (fun Q K hK => ⟨fun _ => ?_, fun z => absurd (by rw [q4]; decide) z⟩))
        rintro x rfl
        exact hK
      · have hc : 0 ≤ c.toInt ∧ c.toInt ≤ 5 := ⟨cb.2.2 q4, by omega⟩
        have it3 : ∀ M2 : gS, (∀ R : gS → Prop, R M2 → qX10_goes M b c R) → itM M b M2 := by
          intro M2 hh
          refine it2 M2 (fun Q K hK => ⟨fun z => ?_, fun _ => hh _ ?_⟩)
          · have z := Int32.lt_iff_toInt_lt.mp z
            omega
          · rintro x rfl
            exact hK
        refine rX1_countingAt hc ?_
        have it4 : ∀ M2 : gS, (∀ R : gS → Prop, R M2 → (cntV (ga S 12 c.toNatClampNeg) (ga S 13 c.toNatClampNeg) ≤ 0 → vp_in b 8 ∧ qX10_hideFor M c (ga M 9 b.toNatClampNeg) (fun r15 S14 => (r15 < 0 → ∀ S17 : gS, S17 = sA S14 11 (upd (ga S14 11) b.toNatClampNeg (ga S14 11 b.toNatClampNeg + 1)) → qX10_goes_J111 b c R S17) ∧ (¬ r15 < 0 → qX10_lot S14 b c 0 r15 (fun S18 => qX10_goes_J111 b c R S18)))) ∧ (¬ cntV (ga S 12 c.toNatClampNeg) (ga S 13 c.toNatClampNeg) ≤ 0 → vp_in b 8 ∧ (10 * cntV (ga S 12 c.toNatClampNeg) (ga S 13 c.toNatClampNeg) ≤ ga M 7 b.toNatClampNeg → ∀ S21 : gS, S21 = sA M 10 (upd (ga M 10) b.toNatClampNeg (ga M 10 b.toNatClampNeg + 1)) → qX10_goes_J60 b c R S21) ∧ (¬ 10 * cntV (ga S 12 c.toNatClampNeg) (ga S 13 c.toNatClampNeg) ≤ ga M 7 b.toNatClampNeg → qX10_teller M c (fun r23 S22 => qX10_partCasks S22 (ga M 9 b.toNatClampNeg) r23 (fun S24 => qX10_lot S24 b c 1 (-9) (fun S25 => qX10_goes_J60 b c R S25)))))) → itM M b M2 := by
          intro M2 hh
          refine it3 M2 (fun R hR2 => rX10_counting hc ?_)
          rw [← e12, ← e13]
          exact hh R hR2
        generalize hn : cntV (ga S 12 c.toNatClampNeg) (ga S 13 c.toNatClampNeg) = n at it4
        refine br_le (fun q5 => ?_) (fun q5 => ?_)
        · refine sim_shore hN hb hb4 hc (by omega) (fun S1 M1 hN1 e1 t1 => ?_)
          refine sim_J82 hN1 hb (by rw [e1.1]; exact hb4) hc (fun S2 M2 hN2 e2 t2 => ?_)
          refine h S2 M2 hN2 ⟨by rw [e2.1, e1.1], by rw [e2.2, e1.2]⟩ (it4 M2 (fun R hR2 => ⟨fun _ => ⟨in_of hb.1 (by omega), t1 _ (t2 R hR2)⟩, fun z => absurd (Int32.le_iff_toInt_le.mpr q5) z⟩))
        · refine sim_meet hN hb hb4 hc (by omega) (fun S1 M1 hN1 e1 t1 => ?_)
          refine sim_J82 hN1 hb (by rw [e1.1]; exact hb4) hc (fun S2 M2 hN2 e2 t2 => ?_)
          refine h S2 M2 hN2 ⟨by rw [e2.1, e1.1], by rw [e2.2, e1.2]⟩ (it4 M2 (fun R hR2 => ⟨fun z => ?_, fun _ => ⟨in_of hb.1 (by omega), t1 _ (t2 R hR2)⟩⟩))
          have z := Int32.le_iff_toInt_le.mp z
          omega
    · refine h S M hN ⟨rfl, rfl⟩ (it1 M (fun Q K hK => rX10_choice hR hb (fun z => by omega) (fun _ => ⟨fun _ => ?_, fun z => absurd (by decide) z⟩)))
      rintro x rfl
      exact hK
