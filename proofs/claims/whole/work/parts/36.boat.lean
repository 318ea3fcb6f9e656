/-! a night: one boat's way, on both sides -/
/-- what the reference does beside a boat's cove -/
def LK (M : gS) (b d : Int32) (M2 : gS) : Prop := (¬ (0 ≤ d.toInt ∧ d.toInt ≤ 5) ∧ M2 = M) ∨ (0 ≤ d.toInt ∧ d.toInt ≤ 5 ∧ (ga M 26 d.toNatClampNeg).toInt ≤ 0 ∧ M2 = M) ∨ (0 ≤ d.toInt ∧ d.toInt ≤ 5 ∧ 0 < (ga M 26 d.toNatClampNeg).toInt ∧ ∀ R : gS → Prop, R M2 → qX10_moreFear M b d 5 R)
theorem sim_look1 {S M : gS} (hN : RN S M) {b d : Int32} (hb : 0 ≤ b.toInt ∧ b.toInt < 8) (hb4 : b.toInt < (gi S 4).toInt) {Q : gS → Prop} (h : ∀ S2 M2 : gS, RN S2 M2 → (gi S2 4 = gi S 4 ∧ gi S2 0 = gi S 0) → LK M b d M2 → Q S2) : qX9_lookAt S b d Q := by
  have l0 : (0 : Int32).toInt = 0 := by decide
  have e13 := RS_a hN.1 (i := 13) (j := 26) (by decide)
  have tb := tn_ti hb.1
  refine rX9_isCove (fun h1 h2 => ⟨fun z => absurd z (by decide), fun _ => ⟨in_of h1 (by omega), br_le (fun q => ?_) (fun q => ?_)⟩⟩) (fun h1 => ⟨fun _ => ?_, fun z => absurd rfl z⟩)
  · exact h S M hN ⟨rfl, rfl⟩ (Or.inr (Or.inl ⟨h1, h2, by rw [← e13]; omega, rfl⟩))
  · refine rX0_frighten hb ⟨h1, h2⟩ ?_
    exact h _ _ (RN_frt hN (by omega) (by omega) (cl_lt h1 (n := 6) (by omega)).1) ⟨rfl, rfl⟩ (Or.inr (Or.inr ⟨h1, h2, by rw [← e13]; omega, fun R hR => rX10_moreFear hN.1 hb ⟨h1, h2⟩ hR⟩))
  · exact h S M hN ⟨rfl, rfl⟩ (Or.inl ⟨by omega, rfl⟩)
theorem J135_of {M M2 : gS} {b c : Int32} (hc : 0 ≤ c.toInt ∧ c.toInt ≤ 5) (lk : LK M b (c + 1) M2) {R : gS → Prop} (hR : R M2) : qX10_goes_J135 b c R M := by
  have l0 : (0 : Int32).toInt = 0 := by decide
  have l1 : (1 : Int32).toInt = 1 := by decide
  have l5 : (5 : Int32).toInt = 5 := by decide
  have e : (c + 1).toInt = c.toInt + 1 := by rw [ti_add] <;> omega
  refine br_le (fun q => ?_) (fun q => ⟨in_of (by omega) (by omega), br_le (fun q2 => ?_) (fun q2 => ?_)⟩)
  · rcases lk with ⟨-, rfl⟩ | ⟨h1, h2, -⟩ | ⟨h1, h2, -⟩
    · exact hR
    · omega
    · omega
  · rcases lk with ⟨h1, -⟩ | ⟨h1, h2, h3, rfl⟩ | ⟨h1, h2, h3, -⟩
    · exact absurd ⟨by omega, by omega⟩ h1
    · exact hR
    · omega
  · rcases lk with ⟨h1, -⟩ | ⟨h1, h2, h3, rfl⟩ | ⟨h1, h2, h3, h4⟩
    · exact absurd ⟨by omega, by omega⟩ h1
    · omega
    · exact h4 R hR
theorem J111_of {M M1 M2 : gS} {b c : Int32} (hc : 0 ≤ c.toInt ∧ c.toInt ≤ 5) (lk1 : LK M b (c - 1) M1) (lk2 : LK M1 b (c + 1) M2) {R : gS → Prop} (hR : R M2) : qX10_goes_J111 b c R M := by
  have l0 : (0 : Int32).toInt = 0 := by decide
  have l1 : (1 : Int32).toInt = 1 := by decide
  have e : (c - 1).toInt = c.toInt - 1 := by rw [ti_sub] <;> omega
  refine br_le (fun q => ?_) (fun q => ⟨in_of (by omega) (by omega), br_le (fun q2 => ?_) (fun q2 => ?_)⟩)
  · rcases lk1 with ⟨-, rfl⟩ | ⟨h1, h2, -⟩ | ⟨h1, h2, -⟩
    · exact J135_of hc lk2 hR
    · omega
    · omega
  · rcases lk1 with ⟨h1, -⟩ | ⟨h1, h2, h3, rfl⟩ | ⟨h1, h2, h3, -⟩
    · exact absurd ⟨by omega, by omega⟩ h1
    · exact J135_of hc lk2 hR
    · omega
  · rcases lk1 with ⟨h1, -⟩ | ⟨h1, h2, h3, rfl⟩ | ⟨h1, h2, h3, h4⟩
    · exact absurd ⟨by omega, by omega⟩ h1
    · omega
    · exact h4 _ (J135_of hc lk2 hR)
theorem sim_J82 {S M : gS} (hN : RN S M) {b c : Int32} (hb : 0 ≤ b.toInt ∧ b.toInt < 8) (hb4 : b.toInt < (gi S 4).toInt) (hc : 0 ≤ c.toInt ∧ c.toInt ≤ 5) {Q : gS → Prop} (h : ∀ S2 M2 : gS, RN S2 M2 → (gi S2 4 = gi S 4 ∧ gi S2 0 = gi S 0) → (∀ R : gS → Prop, R M2 → qX10_goes_J111 b c R M) → Q S2) : qX9_sendOut_J82 b Q (c, S) := by
  refine sim_look1 hN hb hb4 (fun S1 M1 hN1 e1 lk1 => ?_)
  refine sim_look1 hN1 hb (by rw [e1.1]; exact hb4) (fun S2 M2 hN2 e2 lk2 => ?_)
  exact h S2 M2 hN2 ⟨by rw [e2.1, e1.1], by rw [e2.2, e1.2]⟩ (fun R hR => J111_of hc lk1 lk2 hR)
/-- the purses on both sides -/
theorem RS_pur {S M : gS} (hR : RS S M) (x i : Int32) : purV x (gi S 3) (ga S 40) (ga S 41) (ga S 42) (gi S 0) (gi S 7).toNatClampNeg i (ga S 1) = purV x (gi M 6) (ga M 28) (ga M 29) (ga M 30) (gi M 1) (gi M 7).toNatClampNeg i (ga M 39) := by
  rw [RS_i hR (i := 3) (j := 6) (by decide), RS_i hR (i := 0) (j := 1) (by decide), RS_i hR (i := 7) (j := 7) (by decide), RS_a hR (i := 40) (j := 28) (by decide), RS_a hR (i := 41) (j := 29) (by decide), RS_a hR (i := 42) (j := 30) (by decide), RS_a hR (i := 1) (j := 39) (by decide)]
theorem sim_meet {S M : gS} (hN : RN S M) {b c n : Int32} (hb : 0 ≤ b.toInt ∧ b.toInt < 8) (hb4 : b.toInt < (gi S 4).toInt) (hc : 0 ≤ c.toInt ∧ c.toInt ≤ 5) (hs : (gi S 6).toInt < 100) {Q : gS → Prop}
    (h : ∀ S2 M2 : gS, RN S2 M2 → (gi S2 4 = gi S 4 ∧ gi S2 0 = gi S 0) → (∀ R : gS → Prop, R M2 → (10 * n ≤ ga M 7 b.toNatClampNeg → ∀ S21 : gS, S21 = sA M 10 (upd (ga M 10) b.toNatClampNeg (ga M 10 b.toNatClampNeg + 1)) → qX10_moreFear S21 b c 25 R) ∧ (¬ 10 * n ≤ ga M 7 b.toNatClampNeg → qX10_teller M c (fun r23 S22 => qX10_partCasks S22 (ga M 9 b.toNatClampNeg) r23 (fun S24 => qX10_lot S24 b c 1 (-9) (fun S25 => qX10_moreFear S25 b c 25 R))))) → Q S2) : qX9_meetWatchers S b c n Q := by
  have hbl := (cl_lt hb.1 (n := 8) (by omega)).1
  have tb := tn_ti hb.1
  have cl := cl_lt hc.1 (n := 6) (by omega)
  have hR := hN.1
  have e16 := RS_a hR (i := 16) (j := 7) (by decide)
  have e18 := RS_a hR (i := 18) (j := 9) (by decide)
  have e19 := RS_a hR (i := 19) (j := 10) (by decide)
  have b6 := RS_bi hR (i := 6) (lo := 0) (hi := 100) (by decide)
  have b8 := RS_bi hR (i := 8) (lo := 0) (hi := 60) (by decide)
  have b7 := RS_bi hR (i := 7) (lo := 0) (hi := 20) (by decide)
  have t8 := tn_ti b8.1
  refine ⟨in_of hb.1 (by omega), fun q => ?_, fun q => ?_⟩
  · rintro S3 rfl
    refine rX0_frighten hb hc ?_
    have hN2 : RN (sA S 19 (upd (ga S 19) b.toNatClampNeg (ga S 19 b.toNatClampNeg + 1))) (sA M 10 (upd (ga M 10) b.toNatClampNeg (ga M 10 b.toNatClampNeg + 1))) := ⟨RS_put2N hR rfl (by rw [e19]) (by decide) (by decide) (by decide) (by decide) (by decide), hN.2.1, hN.2.2⟩
    have hb42 : (b.toNatClampNeg : Int) < (gi S 4).toInt := by omega
    refine h _ _ (RN_frt hN2 hb42 hbl cl.1) ⟨rfl, rfl⟩ (fun R hR2 => ⟨fun _ => ?_, fun z => absurd (by rw [← e16]; exact q) z⟩)
    rintro S21 rfl
    exact rX10_moreFear hN2.1 hb hc hR2
  · rintro x rfl
    refine rX5_add ⟨b6.1, hs⟩ ?_
    have fb := fiF_bd (I := ga S 43) (N := ga S 44) (C := ga S 45) (t := gi S 0) (c := c) (gi S 8).toNatClampNeg 0 (fun j hj => RS_ba hR (i := 43) (n := 60) (lo := 0) (hi := 5) (by decide) (by omega))
    refine rX8_firstInformer b8 ?_
    refine rX9_partSeized b7 fb ?_
    rintro S10 rfl
    refine rX0_frighten hb hc ?_
    have hW := RS_pur hR (ga S 18 b.toNatClampNeg) (fiF (ga S 43) (ga S 44) (ga S 45) (gi S 0) c (gi S 8).toNatClampNeg 0)
    generalize hWd : purV (ga S 18 b.toNatClampNeg) (gi S 3) (ga S 40) (ga S 41) (ga S 42) (gi S 0) (gi S 7).toNatClampNeg (fiF (ga S 43) (ga S 44) (ga S 45) (gi S 0) c (gi S 8).toNatClampNeg 0) (ga S 1) = W at hW
    have hN2 := RN_lot hN (pl := 1) (hC := -1) (hM := -9) hs hb hc W (ga S 33) (Or.inl ⟨rfl, rfl, rfl⟩)
    have e33 : sA (sA (ltC S b (ga S 18 b.toNatClampNeg) c 1 (-1)) 1 W) 33 (ga S 33) = sA (ltC S b (ga S 18 b.toNatClampNeg) c 1 (-1)) 1 W := sA_self (S := sA (ltC S b (ga S 18 b.toNatClampNeg) c 1 (-1)) 1 W) (k := 33)
    rw [e33] at hN2
    have hb42 : (b.toNatClampNeg : Int) < (gi S 4).toInt := by omega
    have key := h _ _ (RN_frt hN2 hb42 hbl cl.1 (v := more (ga (sA (sA (ltC S b (ga S 18 b.toNatClampNeg) c 1 (-1)) 1 W) 18 (upd (ga S 18) b.toNatClampNeg 0)) (21 + b.toNatClampNeg) c.toNatClampNeg) 25)) ⟨rfl, rfl⟩ (fun R hR2 => ⟨fun z => absurd (by rw [e16]; exact z) q, fun _ => ?_⟩)
    · subst hWd
      exact key
    · have m8 := RS_i hR (i := 8) (j := 8) (by decide)
      refine rX10_teller (by rw [← m8]; exact b8) ?_
      rw [← RS_a hR (i := 43) (j := 31) (by decide), ← RS_a hR (i := 44) (j := 32) (by decide), ← RS_a hR (i := 45) (j := 33) (by decide), ← RS_i hR (i := 0) (j := 1) (by decide), ← m8]
      refine rX10_partCasks (by rw [← RS_i hR (i := 7) (j := 7) (by decide)]; exact b7) fb ?_
      rw [← e18, ← hW]
      have i6 := RS_i hR (i := 6) (j := 4) (by decide)
      refine rX10_lot (M := sA M 39 W) (by show 0 ≤ (gi M 4).toInt ∧ (gi M 4).toInt < 100; rw [← i6]; exact ⟨b6.1, hs⟩) hb hc ?_
      exact rX10_moreFear hN2.1 hb hc hR2
