/-! plain methods, the second part -/
set_option maxHeartbeats 400000 in
theorem s_lead {S M : gS} (hR : RS S M) (a1 : Int32) (a2 : Int32) : qX9_lead S a1 a2 (fun r S' => qX10_lead M a1 a2 (fun r' M' => r = r' ∧ RS S' M')) := by
  have lm1 : (-1 : Int32).toInt = -1 := by decide
  have l0 : (0 : Int32).toInt = 0 := by decide
  have l1 : (1 : Int32).toInt = 1 := by decide
  have l3 : (3 : Int32).toInt = 3 := by decide
  have l2000000000 : (2000000000 : Int32).toInt = 2000000000 := by decide
  have l2000000001 : (2000000001 : Int32).toInt = 2000000001 := by decide
  unfold qX9_lead
  repeat' (first
    | with_reducible exact ⟨rfl, RS_rf hR _⟩
    | with_reducible refine rX9_isCove (fun _ _ => ?_) (fun _ => ?_)
    | with_reducible refine rX9_isTable (fun _ _ => ?_) (fun _ => ?_)
    | with_reducible refine rX9_isInformer (fun _ _ => ?_) (fun _ => ?_)
    | with_reducible refine rX9_isSeason (fun _ _ => ?_) (fun _ => ?_)
    | with_reducible refine rX9_isBoat (fun _ _ => ?_) (fun _ => ?_)
    | with_reducible refine rX9_isHide (fun _ _ => ?_) (fun _ => ?_)
    | with_reducible refine rX9_refuse 1 (by decide) (by decide) ?_
    | with_reducible refine rX9_refuse 2 (by decide) (by decide) ?_
    | with_reducible refine rX9_refuse 3 (by decide) (by decide) ?_
    | with_reducible refine rX9_refuse 4 (by decide) (by decide) ?_
    | with_reducible refine rX9_refuse 5 (by decide) (by decide) ?_
    | with_reducible refine rX9_refuse 6 (by decide) (by decide) ?_
    | with_reducible refine rX9_refuse 7 (by decide) (by decide) ?_
    | (with_reducible refine rX10_isCove (fun _ _ => ?_) (fun _ => ?_) <;> try (exfalso; omega))
    | (with_reducible refine rX10_in (fun _ _ => ?_) (fun _ => ?_) <;> try (exfalso; omega))
    | with_reducible refine rX10_refuse 1 (by decide) (by decide) ?_
    | with_reducible refine rX10_refuse 2 (by decide) (by decide) ?_
    | with_reducible refine rX10_refuse 3 (by decide) (by decide) ?_
    | with_reducible refine rX10_refuse 4 (by decide) (by decide) ?_
    | with_reducible refine rX10_refuse 5 (by decide) (by decide) ?_
    | with_reducible refine rX10_refuse 6 (by decide) (by decide) ?_
    | with_reducible refine rX10_refuse 7 (by decide) (by decide) ?_
    | (with_reducible refine br_lt (fun _ => ?_) (fun _ => ?_) <;> try (exfalso; omega))
    | (with_reducible refine br_le (fun _ => ?_) (fun _ => ?_) <;> try (exfalso; omega))
    | (with_reducible refine br_eq (fun _ _ => ?_) (fun _ _ => ?_) <;> try (exfalso; omega))
    | with_reducible refine ⟨in_of (by omega) (by omega), ?_⟩
    | (intro S1 e1; subst e1)
    | simp only [gi_A]
    | unfold qX9_lead_J28
    | unfold qX10_lead_J16
    | unfold qX10_lead)
  all_goals first | exact ⟨by decide, RS_rf hR 1⟩ | exact ⟨by rw [RS_a hR (i := 9) (j := 4) (by decide)], (RS_put2 hR (n := 6) (lo := -1) (hi := 3) rfl rfl (by decide) (by decide) (by decide) (by decide) (by decide) (by decide) ⟨by omega, by omega⟩)⟩

set_option maxHeartbeats 400000 in
theorem s_bribe {S M : gS} (hR : RS S M) (a1 : Int32) (a2 : Int32) (hb : a2 = 0 ∨ a2 = 1) : qX9_bribe S a1 a2 (fun r S' => qX10_bribe M a1 a2 (fun r' M' => r = r' ∧ RS S' M')) := by
  have lm1 : (-1 : Int32).toInt = -1 := by decide
  have l0 : (0 : Int32).toInt = 0 := by decide
  have l1 : (1 : Int32).toInt = 1 := by decide
  have hz : (ga S 12 a1.toNatClampNeg).toInt = (ga M 25 a1.toNatClampNeg).toInt := by rw [RS_a hR (i := 12) (j := 25) (by decide)]
  have hn : vp_nar .boolean a2 = a2 := by rcases hb with rfl | rfl <;> rfl
  have hb2 : bd a2 0 1 := by rcases hb with rfl | rfl <;> exact ⟨by decide, by decide⟩
  unfold qX9_bribe
  repeat' (first
    | with_reducible exact ⟨rfl, RS_rf hR _⟩
    | with_reducible refine rX9_isCove (fun _ _ => ?_) (fun _ => ?_)
    | with_reducible refine rX9_isTable (fun _ _ => ?_) (fun _ => ?_)
    | with_reducible refine rX9_isInformer (fun _ _ => ?_) (fun _ => ?_)
    | with_reducible refine rX9_isSeason (fun _ _ => ?_) (fun _ => ?_)
    | with_reducible refine rX9_isBoat (fun _ _ => ?_) (fun _ => ?_)
    | with_reducible refine rX9_isHide (fun _ _ => ?_) (fun _ => ?_)
    | with_reducible refine rX9_refuse 1 (by decide) (by decide) ?_
    | with_reducible refine rX9_refuse 2 (by decide) (by decide) ?_
    | with_reducible refine rX9_refuse 3 (by decide) (by decide) ?_
    | with_reducible refine rX9_refuse 4 (by decide) (by decide) ?_
    | with_reducible refine rX9_refuse 5 (by decide) (by decide) ?_
    | with_reducible refine rX9_refuse 6 (by decide) (by decide) ?_
    | with_reducible refine rX9_refuse 7 (by decide) (by decide) ?_
    | (with_reducible refine rX10_isCove (fun _ _ => ?_) (fun _ => ?_) <;> try (exfalso; omega))
    | (with_reducible refine rX10_in (fun _ _ => ?_) (fun _ => ?_) <;> try (exfalso; omega))
    | with_reducible refine rX10_refuse 1 (by decide) (by decide) ?_
    | with_reducible refine rX10_refuse 2 (by decide) (by decide) ?_
    | with_reducible refine rX10_refuse 3 (by decide) (by decide) ?_
    | with_reducible refine rX10_refuse 4 (by decide) (by decide) ?_
    | with_reducible refine rX10_refuse 5 (by decide) (by decide) ?_
    | with_reducible refine rX10_refuse 6 (by decide) (by decide) ?_
    | with_reducible refine rX10_refuse 7 (by decide) (by decide) ?_
    | (with_reducible refine br_lt (fun _ => ?_) (fun _ => ?_) <;> try (exfalso; omega))
    | (with_reducible refine br_le (fun _ => ?_) (fun _ => ?_) <;> try (exfalso; omega))
    | (with_reducible refine br_eq (fun _ _ => ?_) (fun _ _ => ?_) <;> try (exfalso; omega))
    | with_reducible refine ⟨in_of (by omega) (by omega), ?_⟩
    | (intro S1 e1; subst e1)
    | simp only [gi_A]
    | unfold qX10_bribe)
  all_goals rw [hn]
  · rw [upd_eq (by rw [← RS_a hR (i := 12) (j := 25) (by decide)]; exact (Eq.symm (by assumption))), sA_self]; first | exact ⟨rfl, hR⟩ | exact ⟨trivial, hR⟩
  · first | exact ⟨rfl, (RS_put2 hR (n := 6) (lo := 0) (hi := 1) rfl rfl (by decide) (by decide) (by decide) (by decide) (by decide) (by decide) hb2)⟩ | exact ⟨trivial, (RS_put2 hR (n := 6) (lo := 0) (hi := 1) rfl rfl (by decide) (by decide) (by decide) (by decide) (by decide) (by decide) hb2)⟩

set_option maxHeartbeats 400000 in
theorem s_lotOf {S M : gS} (hR : RS S M) (a1 : Int32) (a2 : Int32) : qX9_lotOf S a1 a2 (fun r S' => qX10_lotOf M a1 a2 (fun r' M' => r = r' ∧ RS S' M')) := by
  have lm9 : (-9 : Int32).toInt = -9 := by decide
  have lm2 : (-2 : Int32).toInt = -2 := by decide
  have lm1 : (-1 : Int32).toInt = -1 := by decide
  have l0 : (0 : Int32).toInt = 0 := by decide
  have l1 : (1 : Int32).toInt = 1 := by decide
  have l2 : (2 : Int32).toInt = 2 := by decide
  have l3 : (3 : Int32).toInt = 3 := by decide
  have l4 : (4 : Int32).toInt = 4 := by decide
  have l5 : (5 : Int32).toInt = 5 := by decide
  have i6 := RS_i hR (i := 6) (j := 4) (by decide); have i6t : (gi S 6).toInt = (gi M 4).toInt := by rw [i6]
  have b6 := RS_bi hR (i := 6) (lo := 0) (hi := 100) (by decide)
  have m6 : (gi M 4 - 1).toInt = (gi M 4).toInt - 1 := ti_sub (by omega) (by omega)
  unfold qX9_lotOf
  repeat' (first
    | with_reducible exact ⟨rfl, RS_rf hR _⟩
    | with_reducible refine rX9_isCove (fun _ _ => ?_) (fun _ => ?_)
    | with_reducible refine rX9_isTable (fun _ _ => ?_) (fun _ => ?_)
    | with_reducible refine rX9_isInformer (fun _ _ => ?_) (fun _ => ?_)
    | with_reducible refine rX9_isSeason (fun _ _ => ?_) (fun _ => ?_)
    | with_reducible refine rX9_isBoat (fun _ _ => ?_) (fun _ => ?_)
    | with_reducible refine rX9_isHide (fun _ _ => ?_) (fun _ => ?_)
    | with_reducible refine rX9_refuse 1 (by decide) (by decide) ?_
    | with_reducible refine rX9_refuse 2 (by decide) (by decide) ?_
    | with_reducible refine rX9_refuse 3 (by decide) (by decide) ?_
    | with_reducible refine rX9_refuse 4 (by decide) (by decide) ?_
    | with_reducible refine rX9_refuse 5 (by decide) (by decide) ?_
    | with_reducible refine rX9_refuse 6 (by decide) (by decide) ?_
    | with_reducible refine rX9_refuse 7 (by decide) (by decide) ?_
    | (with_reducible refine rX10_isCove (fun _ _ => ?_) (fun _ => ?_) <;> try (exfalso; omega))
    | (with_reducible refine rX10_in (fun _ _ => ?_) (fun _ => ?_) <;> try (exfalso; omega))
    | with_reducible refine rX10_refuse 1 (by decide) (by decide) ?_
    | with_reducible refine rX10_refuse 2 (by decide) (by decide) ?_
    | with_reducible refine rX10_refuse 3 (by decide) (by decide) ?_
    | with_reducible refine rX10_refuse 4 (by decide) (by decide) ?_
    | with_reducible refine rX10_refuse 5 (by decide) (by decide) ?_
    | with_reducible refine rX10_refuse 6 (by decide) (by decide) ?_
    | with_reducible refine rX10_refuse 7 (by decide) (by decide) ?_
    | (with_reducible refine br_lt (fun _ => ?_) (fun _ => ?_) <;> try (exfalso; omega))
    | (with_reducible refine br_le (fun _ => ?_) (fun _ => ?_) <;> try (exfalso; omega))
    | (with_reducible refine br_eq (fun _ _ => ?_) (fun _ _ => ?_) <;> try (exfalso; omega))
    | with_reducible refine ⟨in_of (by omega) (by omega), ?_⟩
    | (intro S1 e1; subst e1)
    | simp only [gi_A]
    | unfold qX10_lotOf)
  all_goals first | exact ⟨by rw [RS_a hR (i := 34) (j := 17) (by decide)], hR⟩ | exact ⟨by rw [RS_a hR (i := 35) (j := 18) (by decide)], hR⟩ | exact ⟨by rw [RS_a hR (i := 36) (j := 19) (by decide)], hR⟩ | exact ⟨by rw [RS_a hR (i := 37) (j := 20) (by decide)], hR⟩ | exact ⟨by rw [RS_a hR (i := 38) (j := 21) (by decide)], hR⟩ | exact ⟨((hR.2.2.2.2.2.2.1 _ (cl_lt (n := 100) (by omega) (by omega)).1).1 (by assumption)).symm, hR⟩ | exact ⟨((hR.2.2.2.2.2.2.1 _ (cl_lt (n := 100) (by omega) (by omega)).1).2 (by assumption)).symm, hR⟩

set_option maxHeartbeats 400000 in
theorem s_boatOf {S M : gS} (hR : RS S M) (a1 : Int32) (a2 : Int32) : qX9_boatOf S a1 a2 (fun r S' => qX10_boatOf M a1 a2 (fun r' M' => r = r' ∧ RS S' M')) := by
  have lm2 : (-2 : Int32).toInt = -2 := by decide
  have lm1 : (-1 : Int32).toInt = -1 := by decide
  have l0 : (0 : Int32).toInt = 0 := by decide
  have l1 : (1 : Int32).toInt = 1 := by decide
  have l2 : (2 : Int32).toInt = 2 := by decide
  have l3 : (3 : Int32).toInt = 3 := by decide
  have l6 : (6 : Int32).toInt = 6 := by decide
  have l8 : (8 : Int32).toInt = 8 := by decide
  have l9 : (9 : Int32).toInt = 9 := by decide
  have i4 := RS_i hR (i := 4) (j := 2) (by decide); have i4t : (gi S 4).toInt = (gi M 2).toInt := by rw [i4]
  have b4 := RS_bi hR (i := 4) (lo := 0) (hi := 8) (by decide)
  have m4 : (gi M 2 - 1).toInt = (gi M 2).toInt - 1 := ti_sub (by omega) (by omega)
  have q3 : 3 ≤ a2.toInt → a2.toInt ≤ 8 → (a2 - 3).toInt = a2.toInt - 3 := fun h1 h2 => by rw [ti_sub] <;> rw [l3] <;> omega
  have q6 : 0 ≤ a1.toInt → a1.toInt ≤ 7 → (6 * a1).toInt = 6 * a1.toInt := fun h1 h2 => by rw [ti_mul] <;> rw [show (6 : Int32).toInt = 6 from rfl] <;> omega
  have q7 : 0 ≤ a1.toInt → a1.toInt ≤ 7 → 3 ≤ a2.toInt → a2.toInt ≤ 8 → (6 * a1 + a2).toInt = 6 * a1.toInt + a2.toInt := fun h1 h2 h3 h4 => by rw [ti_add] <;> rw [q6 h1 h2] <;> omega
  have q8 : 0 ≤ a1.toInt → a1.toInt ≤ 7 → 3 ≤ a2.toInt → a2.toInt ≤ 8 → (6 * a1 + a2 - 3).toInt = 6 * a1.toInt + a2.toInt - 3 := fun h1 h2 h3 h4 => by rw [ti_sub] <;> rw [q7 h1 h2 h3 h4, l3] <;> omega
  unfold qX9_boatOf
  repeat' (first
    | with_reducible exact ⟨rfl, RS_rf hR _⟩
    | with_reducible refine rX9_isCove (fun _ _ => ?_) (fun _ => ?_)
    | with_reducible refine rX9_isTable (fun _ _ => ?_) (fun _ => ?_)
    | with_reducible refine rX9_isInformer (fun _ _ => ?_) (fun _ => ?_)
    | with_reducible refine rX9_isSeason (fun _ _ => ?_) (fun _ => ?_)
    | with_reducible refine rX9_isBoat (fun _ _ => ?_) (fun _ => ?_)
    | with_reducible refine rX9_isHide (fun _ _ => ?_) (fun _ => ?_)
    | with_reducible refine rX9_refuse 1 (by decide) (by decide) ?_
    | with_reducible refine rX9_refuse 2 (by decide) (by decide) ?_
    | with_reducible refine rX9_refuse 3 (by decide) (by decide) ?_
    | with_reducible refine rX9_refuse 4 (by decide) (by decide) ?_
    | with_reducible refine rX9_refuse 5 (by decide) (by decide) ?_
    | with_reducible refine rX9_refuse 6 (by decide) (by decide) ?_
    | with_reducible refine rX9_refuse 7 (by decide) (by decide) ?_
    | (with_reducible refine rX10_isCove (fun _ _ => ?_) (fun _ => ?_) <;> try (exfalso; omega))
    | (with_reducible refine rX10_in (fun _ _ => ?_) (fun _ => ?_) <;> try (exfalso; omega))
    | with_reducible refine rX10_refuse 1 (by decide) (by decide) ?_
    | with_reducible refine rX10_refuse 2 (by decide) (by decide) ?_
    | with_reducible refine rX10_refuse 3 (by decide) (by decide) ?_
    | with_reducible refine rX10_refuse 4 (by decide) (by decide) ?_
    | with_reducible refine rX10_refuse 5 (by decide) (by decide) ?_
    | with_reducible refine rX10_refuse 6 (by decide) (by decide) ?_
    | with_reducible refine rX10_refuse 7 (by decide) (by decide) ?_
    | (with_reducible refine br_lt (fun _ => ?_) (fun _ => ?_) <;> try (exfalso; omega))
    | (with_reducible refine br_le (fun _ => ?_) (fun _ => ?_) <;> try (exfalso; omega))
    | (with_reducible refine br_eq (fun _ _ => ?_) (fun _ _ => ?_) <;> try (exfalso; omega))
    | with_reducible refine ⟨in_of (by omega) (by omega), ?_⟩
    | (intro S1 e1; subst e1)
    | simp only [gi_A]
    | unfold qX9_boatOf_J39
    | unfold qX10_boatOf)
  all_goals first | exact ⟨RS_fear hR (by omega) (by omega) (by omega) (by omega) (by omega), hR⟩ | exact ⟨by rw [RS_a hR (i := 18) (j := 9) (by decide)], hR⟩ | exact ⟨by rw [RS_a hR (i := 19) (j := 10) (by decide)], hR⟩ | exact ⟨by rw [RS_a hR (i := 20) (j := 11) (by decide)], hR⟩

set_option maxHeartbeats 400000 in
theorem s_boat {S M : gS} (hR : RS S M) (a1 : Int32) (a2 : Int32) (a3 : Int32) (a4 : Int32) : qX9_boat S a1 a2 a3 a4 (fun r S' => qX10_boat M a1 a2 a3 a4 (fun r' M' => r = r' ∧ RS S' M')) := by
  have lm6 : (-6 : Int32).toInt = -6 := by decide
  have lm4 : (-4 : Int32).toInt = -4 := by decide
  have l0 : (0 : Int32).toInt = 0 := by decide
  have l1 : (1 : Int32).toInt = 1 := by decide
  have l8 : (8 : Int32).toInt = 8 := by decide
  have l15 : (15 : Int32).toInt = 15 := by decide
  have l20 : (20 : Int32).toInt = 20 := by decide
  have l60 : (60 : Int32).toInt = 60 := by decide
  have l99 : (99 : Int32).toInt = 99 := by decide
  have i4 := RS_i hR (i := 4) (j := 2) (by decide); have i4t : (gi S 4).toInt = (gi M 2).toInt := by rw [i4]
  have b4 := RS_bi hR (i := 4) (lo := 0) (hi := 8) (by decide)
  have p4 : (gi S 4 + 1).toInt = (gi S 4).toInt + 1 := ti_add (by omega) (by omega)
  unfold qX9_boat
  repeat' (first
    | with_reducible exact ⟨rfl, RS_rf hR _⟩
    | with_reducible refine rX9_isCove (fun _ _ => ?_) (fun _ => ?_)
    | with_reducible refine rX9_isTable (fun _ _ => ?_) (fun _ => ?_)
    | with_reducible refine rX9_isInformer (fun _ _ => ?_) (fun _ => ?_)
    | with_reducible refine rX9_isSeason (fun _ _ => ?_) (fun _ => ?_)
    | with_reducible refine rX9_isBoat (fun _ _ => ?_) (fun _ => ?_)
    | with_reducible refine rX9_isHide (fun _ _ => ?_) (fun _ => ?_)
    | with_reducible refine rX9_refuse 1 (by decide) (by decide) ?_
    | with_reducible refine rX9_refuse 2 (by decide) (by decide) ?_
    | with_reducible refine rX9_refuse 3 (by decide) (by decide) ?_
    | with_reducible refine rX9_refuse 4 (by decide) (by decide) ?_
    | with_reducible refine rX9_refuse 5 (by decide) (by decide) ?_
    | with_reducible refine rX9_refuse 6 (by decide) (by decide) ?_
    | with_reducible refine rX9_refuse 7 (by decide) (by decide) ?_
    | (with_reducible refine rX10_isCove (fun _ _ => ?_) (fun _ => ?_) <;> try (exfalso; omega))
    | (with_reducible refine rX10_in (fun _ _ => ?_) (fun _ => ?_) <;> try (exfalso; omega))
    | with_reducible refine rX10_refuse 1 (by decide) (by decide) ?_
    | with_reducible refine rX10_refuse 2 (by decide) (by decide) ?_
    | with_reducible refine rX10_refuse 3 (by decide) (by decide) ?_
    | with_reducible refine rX10_refuse 4 (by decide) (by decide) ?_
    | with_reducible refine rX10_refuse 5 (by decide) (by decide) ?_
    | with_reducible refine rX10_refuse 6 (by decide) (by decide) ?_
    | with_reducible refine rX10_refuse 7 (by decide) (by decide) ?_
    | (with_reducible refine br_lt (fun _ => ?_) (fun _ => ?_) <;> try (exfalso; omega))
    | (with_reducible refine br_le (fun _ => ?_) (fun _ => ?_) <;> try (exfalso; omega))
    | (with_reducible refine br_eq (fun _ _ => ?_) (fun _ _ => ?_) <;> try (exfalso; omega))
    | with_reducible refine ⟨in_of (by omega) (by omega), ?_⟩
    | (intro S1 e1; subst e1)
    | simp only [gi_A]
    | unfold qX0_add
    | unfold qX10_boat)
  all_goals first | exact ⟨by rw [i4]; show gi M 2 = gi M 2 + 1 - 1; rw [Int32.add_sub_cancel], RS_i4 (RS_put2N (RS_put2N (RS_put2 (RS_put2N hR (congrArg Int32.toNatClampNeg i4) rfl (by decide) (by decide) (by decide) (by decide) (by decide)) (n := 8) (lo := 0) (hi := 60) (congrArg Int32.toNatClampNeg i4) rfl (by decide) (by decide) (by decide) (by decide) (by decide) (by decide) ⟨by omega, by omega⟩) (congrArg Int32.toNatClampNeg i4) rfl (by decide) (by decide) (by decide) (by decide) (by decide)) (congrArg Int32.toNatClampNeg i4) rfl (by decide) (by decide) (by decide) (by decide) (by decide)) (congrArg (· + 1) i4) ⟨by omega, by omega⟩ (by show (gi S 4).toInt ≤ _; omega)⟩

set_option maxHeartbeats 400000 in
theorem s_load {S M : gS} (hR : RS S M) (a1 : Int32) (a2 : Int32) : qX9_load S a1 a2 (fun r S' => qX10_load M a1 a2 (fun r' M' => r = r' ∧ RS S' M')) := by
  have lm6 : (-6 : Int32).toInt = -6 := by decide
  have lm4 : (-4 : Int32).toInt = -4 := by decide
  have lm1 : (-1 : Int32).toInt = -1 := by decide
  have l0 : (0 : Int32).toInt = 0 := by decide
  have l1 : (1 : Int32).toInt = 1 := by decide
  have i4 := RS_i hR (i := 4) (j := 2) (by decide); have i4t : (gi S 4).toInt = (gi M 2).toInt := by rw [i4]
  have b4 := RS_bi hR (i := 4) (lo := 0) (hi := 8) (by decide)
  have m4 : (gi M 2 - 1).toInt = (gi M 2).toInt - 1 := ti_sub (by omega) (by omega)
  have hz : (ga S 15 a1.toNatClampNeg - ga S 18 a1.toNatClampNeg).toInt = (ga M 6 a1.toNatClampNeg - ga M 9 a1.toNatClampNeg).toInt := by rw [RS_a hR (i := 15) (j := 6) (by decide), RS_a hR (i := 18) (j := 9) (by decide)]
  unfold qX9_load
  repeat' (first
    | with_reducible exact ⟨rfl, RS_rf hR _⟩
    | with_reducible refine rX9_isCove (fun _ _ => ?_) (fun _ => ?_)
    | with_reducible refine rX9_isTable (fun _ _ => ?_) (fun _ => ?_)
    | with_reducible refine rX9_isInformer (fun _ _ => ?_) (fun _ => ?_)
    | with_reducible refine rX9_isSeason (fun _ _ => ?_) (fun _ => ?_)
    | with_reducible refine rX9_isBoat (fun _ _ => ?_) (fun _ => ?_)
    | with_reducible refine rX9_isHide (fun _ _ => ?_) (fun _ => ?_)
    | with_reducible refine rX9_refuse 1 (by decide) (by decide) ?_
    | with_reducible refine rX9_refuse 2 (by decide) (by decide) ?_
    | with_reducible refine rX9_refuse 3 (by decide) (by decide) ?_
    | with_reducible refine rX9_refuse 4 (by decide) (by decide) ?_
    | with_reducible refine rX9_refuse 5 (by decide) (by decide) ?_
    | with_reducible refine rX9_refuse 6 (by decide) (by decide) ?_
    | with_reducible refine rX9_refuse 7 (by decide) (by decide) ?_
    | (with_reducible refine rX10_isCove (fun _ _ => ?_) (fun _ => ?_) <;> try (exfalso; omega))
    | (with_reducible refine rX10_in (fun _ _ => ?_) (fun _ => ?_) <;> try (exfalso; omega))
    | with_reducible refine rX10_refuse 1 (by decide) (by decide) ?_
    | with_reducible refine rX10_refuse 2 (by decide) (by decide) ?_
    | with_reducible refine rX10_refuse 3 (by decide) (by decide) ?_
    | with_reducible refine rX10_refuse 4 (by decide) (by decide) ?_
    | with_reducible refine rX10_refuse 5 (by decide) (by decide) ?_
    | with_reducible refine rX10_refuse 6 (by decide) (by decide) ?_
    | with_reducible refine rX10_refuse 7 (by decide) (by decide) ?_
    | (with_reducible refine br_lt (fun _ => ?_) (fun _ => ?_) <;> try (exfalso; omega))
    | (with_reducible refine br_le (fun _ => ?_) (fun _ => ?_) <;> try (exfalso; omega))
    | (with_reducible refine br_eq (fun _ _ => ?_) (fun _ _ => ?_) <;> try (exfalso; omega))
    | with_reducible refine ⟨in_of (by omega) (by omega), ?_⟩
    | (intro S1 e1; subst e1)
    | simp only [gi_A]
    | unfold qX10_load)
  all_goals first | (have hk := (cl_lt (x := a1) (n := 8) (by omega) (by omega)).1; have g1 := RS_ba hR (i := 15) (n := 8) (lo := 0) (hi := 60) (by decide) hk; have g2 := RS_ba hR (i := 18) (n := 8) (lo := 0) (hi := 60) (by decide) hk; have g3 : (ga S 15 a1.toNatClampNeg - ga S 18 a1.toNatClampNeg).toInt = _ := ti_sub (by omega) (by omega); have g4 : (ga S 18 a1.toNatClampNeg + a2).toInt = _ := ti_add (by omega) (by omega); exact ⟨by rw [ga_at, ga_at, upd_at, upd_at, RS_a hR (i := 18) (j := 9) (by decide)], (RS_put2 hR (n := 8) (lo := 0) (hi := 60) rfl (by rw [RS_a hR (i := 18) (j := 9) (by decide)]) (by decide) (by decide) (by decide) (by decide) (by decide) (by decide) ⟨by omega, by omega⟩)⟩)

set_option maxHeartbeats 400000 in
theorem s_hide {S M : gS} (hR : RS S M) (a1 : Int32) (a2 : Int32) (a3 : Int32) : qX9_hide S a1 a2 a3 (fun r S' => qX10_hide M a1 a2 a3 (fun r' M' => r = r' ∧ RS S' M')) := by
  have lm6 : (-6 : Int32).toInt = -6 := by decide
  have lm4 : (-4 : Int32).toInt = -4 := by decide
  have lm1 : (-1 : Int32).toInt = -1 := by decide
  have l0 : (0 : Int32).toInt = 0 := by decide
  have l1 : (1 : Int32).toInt = 1 := by decide
  have l12 : (12 : Int32).toInt = 12 := by decide
  have l20 : (20 : Int32).toInt = 20 := by decide
  have l200 : (200 : Int32).toInt = 200 := by decide
  have i5 := RS_i hR (i := 5) (j := 3) (by decide); have i5t : (gi S 5).toInt = (gi M 3).toInt := by rw [i5]
  have b5 := RS_bi hR (i := 5) (lo := 0) (hi := 12) (by decide)
  have p5 : (gi S 5 + 1).toInt = (gi S 5).toInt + 1 := ti_add (by omega) (by omega)
  unfold qX9_hide
  repeat' (first
    | with_reducible exact ⟨rfl, RS_rf hR _⟩
    | with_reducible refine rX9_isCove (fun _ _ => ?_) (fun _ => ?_)
    | with_reducible refine rX9_isTable (fun _ _ => ?_) (fun _ => ?_)
    | with_reducible refine rX9_isInformer (fun _ _ => ?_) (fun _ => ?_)
    | with_reducible refine rX9_isSeason (fun _ _ => ?_) (fun _ => ?_)
    | with_reducible refine rX9_isBoat (fun _ _ => ?_) (fun _ => ?_)
    | with_reducible refine rX9_isHide (fun _ _ => ?_) (fun _ => ?_)
    | with_reducible refine rX9_refuse 1 (by decide) (by decide) ?_
    | with_reducible refine rX9_refuse 2 (by decide) (by decide) ?_
    | with_reducible refine rX9_refuse 3 (by decide) (by decide) ?_
    | with_reducible refine rX9_refuse 4 (by decide) (by decide) ?_
    | with_reducible refine rX9_refuse 5 (by decide) (by decide) ?_
    | with_reducible refine rX9_refuse 6 (by decide) (by decide) ?_
    | with_reducible refine rX9_refuse 7 (by decide) (by decide) ?_
    | (with_reducible refine rX10_isCove (fun _ _ => ?_) (fun _ => ?_) <;> try (exfalso; omega))
    | (with_reducible refine rX10_in (fun _ _ => ?_) (fun _ => ?_) <;> try (exfalso; omega))
    | with_reducible refine rX10_refuse 1 (by decide) (by decide) ?_
    | with_reducible refine rX10_refuse 2 (by decide) (by decide) ?_
    | with_reducible refine rX10_refuse 3 (by decide) (by decide) ?_
    | with_reducible refine rX10_refuse 4 (by decide) (by decide) ?_
    | with_reducible refine rX10_refuse 5 (by decide) (by decide) ?_
    | with_reducible refine rX10_refuse 6 (by decide) (by decide) ?_
    | with_reducible refine rX10_refuse 7 (by decide) (by decide) ?_
    | (with_reducible refine br_lt (fun _ => ?_) (fun _ => ?_) <;> try (exfalso; omega))
    | (with_reducible refine br_le (fun _ => ?_) (fun _ => ?_) <;> try (exfalso; omega))
    | (with_reducible refine br_eq (fun _ _ => ?_) (fun _ _ => ?_) <;> try (exfalso; omega))
    | with_reducible refine ⟨in_of (by omega) (by omega), ?_⟩
    | (intro S1 e1; subst e1)
    | simp only [gi_A]
    | unfold qX3_add
    | unfold qX10_hide)
  all_goals first | exact ⟨by rw [i5]; show gi M 3 = gi M 3 + 1 - 1; rw [Int32.add_sub_cancel], RS_int2 (RS_put2 (RS_put2 (RS_put2 hR (n := 12) (lo := 0) (hi := 5) (congrArg Int32.toNatClampNeg i5) rfl (by decide) (by decide) (by decide) (by decide) (by decide) (by decide) ⟨by omega, by omega⟩) (n := 12) (lo := 0) (hi := 200) (congrArg Int32.toNatClampNeg i5) rfl (by decide) (by decide) (by decide) (by decide) (by decide) (by decide) ⟨by omega, by omega⟩) (n := 12) (lo := 0) (hi := 20) (congrArg Int32.toNatClampNeg i5) rfl (by decide) (by decide) (by decide) (by decide) (by decide) (by decide) ⟨by omega, by omega⟩) (congrArg (· + 1) i5) (by decide) (by decide) (lI_at (lo := 0) (hi := 12) (by decide) ⟨by omega, by omega⟩)⟩

set_option maxHeartbeats 400000 in
theorem s_law {S M : gS} (hR : RS S M) (a1 : Int32) (a2 : Int32) (a3 : Int32) : qX9_law S a1 a2 a3 (fun r S' => qX10_law M a1 a2 a3 (fun r' M' => r = r' ∧ RS S' M')) := by
  have lm6 : (-6 : Int32).toInt = -6 := by decide
  have lm4 : (-4 : Int32).toInt = -4 := by decide
  have l0 : (0 : Int32).toInt = 0 := by decide
  have l1 : (1 : Int32).toInt = 1 := by decide
  have l20 : (20 : Int32).toInt = 20 := by decide
  have l100 : (100 : Int32).toInt = 100 := by decide
  have l1000 : (1000 : Int32).toInt = 1000 := by decide
  have i7 := RS_i hR (i := 7) (j := 7) (by decide); have i7t : (gi S 7).toInt = (gi M 7).toInt := by rw [i7]
  have b7 := RS_bi hR (i := 7) (lo := 0) (hi := 20) (by decide)
  have i0 := RS_i hR (i := 0) (j := 1) (by decide); have i0t : (gi S 0).toInt = (gi M 1).toInt := by rw [i0]
  have b0 := RS_bi hR (i := 0) (lo := 0) (hi := 1000) (by decide)
  have p7 : (gi S 7 + 1).toInt = (gi S 7).toInt + 1 := ti_add (by omega) (by omega)
  have q7 : 0 ≤ a1.toInt → a1.toInt ≤ 100 → (100 - a1).toInt = 100 - a1.toInt := fun h1 h2 => by rw [ti_sub] <;> rw [show (100 : Int32).toInt = 100 from rfl] <;> omega
  unfold qX9_law
  repeat' (first
    | with_reducible exact ⟨rfl, RS_rf hR _⟩
    | with_reducible refine rX9_isCove (fun _ _ => ?_) (fun _ => ?_)
    | with_reducible refine rX9_isTable (fun _ _ => ?_) (fun _ => ?_)
    | with_reducible refine rX9_isInformer (fun _ _ => ?_) (fun _ => ?_)
    | with_reducible refine rX9_isSeason (fun _ _ => ?_) (fun _ => ?_)
    | with_reducible refine rX9_isBoat (fun _ _ => ?_) (fun _ => ?_)
    | with_reducible refine rX9_isHide (fun _ _ => ?_) (fun _ => ?_)
    | with_reducible refine rX9_refuse 1 (by decide) (by decide) ?_
    | with_reducible refine rX9_refuse 2 (by decide) (by decide) ?_
    | with_reducible refine rX9_refuse 3 (by decide) (by decide) ?_
    | with_reducible refine rX9_refuse 4 (by decide) (by decide) ?_
    | with_reducible refine rX9_refuse 5 (by decide) (by decide) ?_
    | with_reducible refine rX9_refuse 6 (by decide) (by decide) ?_
    | with_reducible refine rX9_refuse 7 (by decide) (by decide) ?_
    | (with_reducible refine rX10_isCove (fun _ _ => ?_) (fun _ => ?_) <;> try (exfalso; omega))
    | (with_reducible refine rX10_in (fun _ _ => ?_) (fun _ => ?_) <;> try (exfalso; omega))
    | with_reducible refine rX10_refuse 1 (by decide) (by decide) ?_
    | with_reducible refine rX10_refuse 2 (by decide) (by decide) ?_
    | with_reducible refine rX10_refuse 3 (by decide) (by decide) ?_
    | with_reducible refine rX10_refuse 4 (by decide) (by decide) ?_
    | with_reducible refine rX10_refuse 5 (by decide) (by decide) ?_
    | with_reducible refine rX10_refuse 6 (by decide) (by decide) ?_
    | with_reducible refine rX10_refuse 7 (by decide) (by decide) ?_
    | (with_reducible refine br_lt (fun _ => ?_) (fun _ => ?_) <;> try (exfalso; omega))
    | (with_reducible refine br_le (fun _ => ?_) (fun _ => ?_) <;> try (exfalso; omega))
    | (with_reducible refine br_eq (fun _ _ => ?_) (fun _ _ => ?_) <;> try (exfalso; omega))
    | with_reducible refine ⟨in_of (by omega) (by omega), ?_⟩
    | (intro S1 e1; subst e1)
    | simp only [gi_A]
    | unfold qX4_add
    | unfold qX10_law)
  all_goals first | exact ⟨by rw [i7]; show gi M 7 = gi M 7 + 1 - 1; rw [Int32.add_sub_cancel], RS_int2 (RS_put2N (RS_put2 (RS_put2 hR (n := 20) (lo := 0) (hi := 100) (congrArg Int32.toNatClampNeg i7) rfl (by decide) (by decide) (by decide) (by decide) (by decide) (by decide) ⟨by omega, by omega⟩) (n := 20) (lo := 0) (hi := 100) (congrArg Int32.toNatClampNeg i7) rfl (by decide) (by decide) (by decide) (by decide) (by decide) (by decide) ⟨by omega, by omega⟩) (congrArg Int32.toNatClampNeg i7) rfl (by decide) (by decide) (by decide) (by decide) (by decide)) (congrArg (· + 1) i7) (by decide) (by decide) (lI_at (lo := 0) (hi := 20) (by decide) ⟨by omega, by omega⟩)⟩

set_option maxHeartbeats 400000 in
theorem s_lose {S M : gS} (hR : RS S M) (a1 : Int32) : qX9_lose S a1 (fun r S' => qX10_lose M a1 (fun r' M' => r = r' ∧ RS S' M')) := by
  have lm1 : (-1 : Int32).toInt = -1 := by decide
  have l0 : (0 : Int32).toInt = 0 := by decide
  have l1 : (1 : Int32).toInt = 1 := by decide
  have l3 : (3 : Int32).toInt = 3 := by decide
  have hz : (ga S 6 a1.toNatClampNeg).toInt = (ga M 2 a1.toNatClampNeg).toInt := by rw [RS_a hR (i := 6) (j := 2) (by decide)]
  unfold qX9_lose
  repeat' (first
    | with_reducible exact ⟨rfl, RS_rf hR _⟩
    | with_reducible refine rX9_isCove (fun _ _ => ?_) (fun _ => ?_)
    | with_reducible refine rX9_isTable (fun _ _ => ?_) (fun _ => ?_)
    | with_reducible refine rX9_isInformer (fun _ _ => ?_) (fun _ => ?_)
    | with_reducible refine rX9_isSeason (fun _ _ => ?_) (fun _ => ?_)
    | with_reducible refine rX9_isBoat (fun _ _ => ?_) (fun _ => ?_)
    | with_reducible refine rX9_isHide (fun _ _ => ?_) (fun _ => ?_)
    | with_reducible refine rX9_refuse 1 (by decide) (by decide) ?_
    | with_reducible refine rX9_refuse 2 (by decide) (by decide) ?_
    | with_reducible refine rX9_refuse 3 (by decide) (by decide) ?_
    | with_reducible refine rX9_refuse 4 (by decide) (by decide) ?_
    | with_reducible refine rX9_refuse 5 (by decide) (by decide) ?_
    | with_reducible refine rX9_refuse 6 (by decide) (by decide) ?_
    | with_reducible refine rX9_refuse 7 (by decide) (by decide) ?_
    | (with_reducible refine rX10_isCove (fun _ _ => ?_) (fun _ => ?_) <;> try (exfalso; omega))
    | (with_reducible refine rX10_in (fun _ _ => ?_) (fun _ => ?_) <;> try (exfalso; omega))
    | with_reducible refine rX10_refuse 1 (by decide) (by decide) ?_
    | with_reducible refine rX10_refuse 2 (by decide) (by decide) ?_
    | with_reducible refine rX10_refuse 3 (by decide) (by decide) ?_
    | with_reducible refine rX10_refuse 4 (by decide) (by decide) ?_
    | with_reducible refine rX10_refuse 5 (by decide) (by decide) ?_
    | with_reducible refine rX10_refuse 6 (by decide) (by decide) ?_
    | with_reducible refine rX10_refuse 7 (by decide) (by decide) ?_
    | (with_reducible refine br_lt (fun _ => ?_) (fun _ => ?_) <;> try (exfalso; omega))
    | (with_reducible refine br_le (fun _ => ?_) (fun _ => ?_) <;> try (exfalso; omega))
    | (with_reducible refine br_eq (fun _ _ => ?_) (fun _ _ => ?_) <;> try (exfalso; omega))
    | with_reducible refine ⟨in_of (by omega) (by omega), ?_⟩
    | (intro S1 e1; subst e1)
    | simp only [gi_A]
    | unfold qX7_isMissing
    | unfold qX7_forget
    | unfold qX10_lose)
  · exact ⟨by first | rfl | trivial, RS_len hR ⟨by omega, by omega⟩ (RT_cut (RS_RT hR))⟩
  · have g := RS_ba hR (i := 6) (n := 4) (lo := -1) (hi := 30) (by decide) (cl_lt (x := a1) (n := 4) (by omega) (by omega)).1
    rw [upd_eq (by rw [← RS_a hR (i := 6) (j := 2) (by decide)]; exact Int32.toInt_inj.mp (by omega)), sA_self]
    exact ⟨by first | rfl | trivial, hR⟩
