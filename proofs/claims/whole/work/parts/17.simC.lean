/-! tide, count, tables -/
set_option maxHeartbeats 400000 in
theorem s_tide {S M : gS} (hR : RS S M) (a1 : Int32) (a2 : Int32) : qX9_tide S a1 a2 (fun r S' => qX10_tide M a1 a2 (fun r' M' => r = r' ∧ RS S' M')) := by
  have lm6 : (-6 : Int32).toInt = -6 := by decide
  have lm4 : (-4 : Int32).toInt = -4 := by decide
  have lm1 : (-1 : Int32).toInt = -1 := by decide
  have l0 : (0 : Int32).toInt = 0 := by decide
  have l1 : (1 : Int32).toInt = 1 := by decide
  have l1000 : (1000 : Int32).toInt = 1000 := by decide
  have hB : BA S := hR.2.2.2.1
  unfold qX9_tide
  repeat' (first
    | with_reducible exact ⟨rfl, RS_rf hR _⟩
    | with_reducible refine rX9_tideAt hB (by omega) (by omega) (by omega) ?_
    | with_reducible refine rX10_tideAt hR (by omega) (by omega) (by omega) ?_
    | with_reducible refine rX9_isCove (fun _ _ => ?_) (fun _ => ?_)
    | with_reducible refine rX9_isTable (fun _ _ => ?_) (fun _ => ?_)
    | with_reducible refine rX9_isInformer (fun _ _ => ?_) (fun _ => ?_)
    | with_reducible refine rX9_isSeason (fun _ _ => ?_) (fun _ => ?_)
    | with_reducible refine rX9_isBoat (fun _ _ => ?_) (fun _ => ?_)
    | with_reducible refine rX9_isHide (fun _ _ => ?_) (fun _ => ?_)
    | with_reducible refine rX9_refuse 1 (by decide) (by decide) ?_
    | with_reducible refine rX9_refuse 2 (by decide) (by decide) ?_
    | with_reducible refine rX9_refuse 3 (by decide) (by decide) ?_
    | with_reducible refine rX9_refuse 4 (by decide) (by decide) ?_
    | with_reducible refine rX9_refuse 5 (by decide) (by decide) ?_
    | with_reducible refine rX9_refuse 6 (by decide) (by decide) ?_
    | with_reducible refine rX9_refuse 7 (by decide) (by decide) ?_
    | (with_reducible refine rX10_isCove (fun _ _ => ?_) (fun _ => ?_) <;> try (exfalso; omega))
    | (with_reducible refine rX10_in (fun _ _ => ?_) (fun _ => ?_) <;> try (exfalso; omega))
    | with_reducible refine rX10_refuse 1 (by decide) (by decide) ?_
    | with_reducible refine rX10_refuse 2 (by decide) (by decide) ?_
    | with_reducible refine rX10_refuse 3 (by decide) (by decide) ?_
    | with_reducible refine rX10_refuse 4 (by decide) (by decide) ?_
    | with_reducible refine rX10_refuse 5 (by decide) (by decide) ?_
    | with_reducible refine rX10_refuse 6 (by decide) (by decide) ?_
    | with_reducible refine rX10_refuse 7 (by decide) (by decide) ?_
    | (with_reducible refine br_lt (fun _ => ?_) (fun _ => ?_) <;> try (exfalso; omega))
    | (with_reducible refine br_le (fun _ => ?_) (fun _ => ?_) <;> try (exfalso; omega))
    | (with_reducible refine br_eq (fun _ _ => ?_) (fun _ _ => ?_) <;> try (exfalso; omega))
    | with_reducible refine ⟨in_of (by omega) (by omega), ?_⟩
    | (intro S1 e1; subst e1)
    | rw [gi_A]
    | unfold qX10_tide)
  all_goals first | exact ⟨rfl, hR⟩

set_option maxHeartbeats 400000 in
theorem s_count {S M : gS} (hR : RS S M) (a1 : Int32) : qX9_count S a1 (fun r S' => qX10_count M a1 (fun r' M' => r = r' ∧ RS S' M')) := by
  have lm9 : (-9 : Int32).toInt = -9 := by decide
  have l0 : (0 : Int32).toInt = 0 := by decide
  have l1 : (1 : Int32).toInt = 1 := by decide
  have l2 : (2 : Int32).toInt = 2 := by decide
  have l3 : (3 : Int32).toInt = 3 := by decide
  have l4 : (4 : Int32).toInt = 4 := by decide
  have l5 : (5 : Int32).toInt = 5 := by decide
  have l6 : (6 : Int32).toInt = 6 := by decide
  have l7 : (7 : Int32).toInt = 7 := by decide
  have l8 : (8 : Int32).toInt = 8 := by decide
  have l9 : (9 : Int32).toInt = 9 := by decide
  have l10 : (10 : Int32).toInt = 10 := by decide
  have l11 : (11 : Int32).toInt = 11 := by decide
  have l17 : (17 : Int32).toInt = 17 := by decide
  have l65535 : (65535 : Int32).toInt = 65535 := by decide
  have i0 := RS_i hR (i := 0) (j := 1) (by decide); have i0t : (gi S 0).toInt = (gi M 1).toInt := by rw [i0]
  have b0 := RS_bi hR (i := 0) (lo := 0) (hi := 1000) (by decide)
  have q10 : 11 ≤ a1.toInt → a1.toInt ≤ 17 → (a1 - 10).toInt = a1.toInt - 10 := fun h1 h2 => by rw [ti_sub] <;> rw [show (10 : Int32).toInt = 10 from rfl] <;> omega
  unfold qX9_count
  repeat' (first
    | with_reducible exact ⟨rfl, RS_rf hR _⟩
    | with_reducible refine rX8_rightOnes ?_
    | with_reducible refine rX8_wrongOnes ?_
    | with_reducible refine rX10_count_L83 (fun _ => ?_) (fun _ => ?_)
    | (with_reducible refine rX9_light (by omega) (fun _ _ => ?_))
    | (with_reducible refine rX10_lightAt (by omega) (fun _ _ => ?_))
    | with_reducible refine rX9_isCove (fun _ _ => ?_) (fun _ => ?_)
    | with_reducible refine rX9_isTable (fun _ _ => ?_) (fun _ => ?_)
    | with_reducible refine rX9_isInformer (fun _ _ => ?_) (fun _ => ?_)
    | with_reducible refine rX9_isSeason (fun _ _ => ?_) (fun _ => ?_)
    | with_reducible refine rX9_isBoat (fun _ _ => ?_) (fun _ => ?_)
    | with_reducible refine rX9_isHide (fun _ _ => ?_) (fun _ => ?_)
    | with_reducible refine rX9_refuse 1 (by decide) (by decide) ?_
    | with_reducible refine rX9_refuse 2 (by decide) (by decide) ?_
    | with_reducible refine rX9_refuse 3 (by decide) (by decide) ?_
    | with_reducible refine rX9_refuse 4 (by decide) (by decide) ?_
    | with_reducible refine rX9_refuse 5 (by decide) (by decide) ?_
    | with_reducible refine rX9_refuse 6 (by decide) (by decide) ?_
    | with_reducible refine rX9_refuse 7 (by decide) (by decide) ?_
    | (with_reducible refine rX10_isCove (fun _ _ => ?_) (fun _ => ?_) <;> try (exfalso; omega))
    | (with_reducible refine rX10_in (fun _ _ => ?_) (fun _ => ?_) <;> try (exfalso; omega))
    | with_reducible refine rX10_refuse 1 (by decide) (by decide) ?_
    | with_reducible refine rX10_refuse 2 (by decide) (by decide) ?_
    | with_reducible refine rX10_refuse 3 (by decide) (by decide) ?_
    | with_reducible refine rX10_refuse 4 (by decide) (by decide) ?_
    | with_reducible refine rX10_refuse 5 (by decide) (by decide) ?_
    | with_reducible refine rX10_refuse 6 (by decide) (by decide) ?_
    | with_reducible refine rX10_refuse 7 (by decide) (by decide) ?_
    | (with_reducible refine br_lt (fun _ => ?_) (fun _ => ?_) <;> try (exfalso; omega))
    | (with_reducible refine br_le (fun _ => ?_) (fun _ => ?_) <;> try (exfalso; omega))
    | (with_reducible refine br_eq (fun _ _ => ?_) (fun _ _ => ?_) <;> try (exfalso; omega))
    | with_reducible refine ⟨in_of (by omega) (by omega), ?_⟩
    | (intro S1 e1; subst e1)
    | rw [gi_A]
    | unfold qX10_count)
  all_goals first | exact absurd (by assumption) (by assumption) | (subst_vars; contradiction) | exact ⟨RS_i hR (by decide), hR⟩ | exact ⟨by rw [RS_a hR (i := 46) (j := 34) (by decide)], hR⟩ | exact ⟨by rw [RS_a hR (i := 47) (j := 35) (by decide)], hR⟩ | exact ⟨by rw [RS_a hR (i := 0) (j := 40) (by decide)], hR⟩ | exact ⟨by rw [RS_i hR (i := 1) (j := 0) (by decide)], hR⟩ | exact ⟨rfl, hR⟩ | (refine ⟨Int32.toInt_inj.mp ?_, hR⟩; rename_i z1 z2 z3; rw [i0] at *; omega) | (refine ⟨Int32.toInt_inj.mp ?_, hR⟩; simp_all only [])

set_option maxHeartbeats 400000 in
theorem s_row {S M : gS} (hR : RS S M) (a1 : Int32) (a2 : Int32) : qX9_row S a1 a2 (fun r S' => qX10_row M a1 a2 (fun r' M' => r = r' ∧ RS S' M')) := by
  have lm6 : (-6 : Int32).toInt = -6 := by decide
  have lm4 : (-4 : Int32).toInt = -4 := by decide
  have lm1 : (-1 : Int32).toInt = -1 := by decide
  have l0 : (0 : Int32).toInt = 0 := by decide
  have l1 : (1 : Int32).toInt = 1 := by decide
  have l3 : (3 : Int32).toInt = 3 := by decide
  have l30 : (30 : Int32).toInt = 30 := by decide
  unfold qX9_row
  repeat' (first
    | with_reducible exact ⟨rfl, RS_rf hR _⟩
    | with_reducible refine rX7_begin (by omega) (by omega) (fun _ _ => ?_)
    | with_reducible refine rX10_row_L (by omega) (by omega) (by omega) (by omega) (fun _ _ _ => ?_)
    | with_reducible refine rX9_isCove (fun _ _ => ?_) (fun _ => ?_)
    | with_reducible refine rX9_isTable (fun _ _ => ?_) (fun _ => ?_)
    | with_reducible refine rX9_isInformer (fun _ _ => ?_) (fun _ => ?_)
    | with_reducible refine rX9_isSeason (fun _ _ => ?_) (fun _ => ?_)
    | with_reducible refine rX9_isBoat (fun _ _ => ?_) (fun _ => ?_)
    | with_reducible refine rX9_isHide (fun _ _ => ?_) (fun _ => ?_)
    | with_reducible refine rX9_refuse 1 (by decide) (by decide) ?_
    | with_reducible refine rX9_refuse 2 (by decide) (by decide) ?_
    | with_reducible refine rX9_refuse 3 (by decide) (by decide) ?_
    | with_reducible refine rX9_refuse 4 (by decide) (by decide) ?_
    | with_reducible refine rX9_refuse 5 (by decide) (by decide) ?_
    | with_reducible refine rX9_refuse 6 (by decide) (by decide) ?_
    | with_reducible refine rX9_refuse 7 (by decide) (by decide) ?_
    | (with_reducible refine rX10_isCove (fun _ _ => ?_) (fun _ => ?_) <;> try (exfalso; omega))
    | (with_reducible refine rX10_in (fun _ _ => ?_) (fun _ => ?_) <;> try (exfalso; omega))
    | with_reducible refine rX10_refuse 1 (by decide) (by decide) ?_
    | with_reducible refine rX10_refuse 2 (by decide) (by decide) ?_
    | with_reducible refine rX10_refuse 3 (by decide) (by decide) ?_
    | with_reducible refine rX10_refuse 4 (by decide) (by decide) ?_
    | with_reducible refine rX10_refuse 5 (by decide) (by decide) ?_
    | with_reducible refine rX10_refuse 6 (by decide) (by decide) ?_
    | with_reducible refine rX10_refuse 7 (by decide) (by decide) ?_
    | (with_reducible refine br_lt (fun _ => ?_) (fun _ => ?_) <;> try (exfalso; omega))
    | (with_reducible refine br_le (fun _ => ?_) (fun _ => ?_) <;> try (exfalso; omega))
    | (with_reducible refine br_eq (fun _ _ => ?_) (fun _ _ => ?_) <;> try (exfalso; omega))
    | with_reducible refine ⟨in_of (by omega) (by omega), ?_⟩
    | (intro S1 e1; subst e1)
    | rw [gi_A]
    | unfold qX10_row)
  all_goals first | exact ⟨rfl, RS_row hR (cl_lt (n := 4) (by omega) (by omega)).1 (by omega) (by omega) (by assumption) (by assumption) (by assumption)⟩

set_option maxHeartbeats 400000 in
theorem s_put {S M : gS} (hR : RS S M) (a1 : Int32) (a2 : Int32) (a3 : Int32) : qX9_put S a1 a2 a3 (fun r S' => qX10_put M a1 a2 a3 (fun r' M' => r = r' ∧ RS S' M')) := by
  have lm7 : (-7 : Int32).toInt = -7 := by decide
  have lm6 : (-6 : Int32).toInt = -6 := by decide
  have lm5 : (-5 : Int32).toInt = -5 := by decide
  have lm4 : (-4 : Int32).toInt = -4 := by decide
  have lm1 : (-1 : Int32).toInt = -1 := by decide
  have l0 : (0 : Int32).toInt = 0 := by decide
  have l1 : (1 : Int32).toInt = 1 := by decide
  have l3 : (3 : Int32).toInt = 3 := by decide
  have l20 : (20 : Int32).toInt = 20 := by decide
  have l30 : (30 : Int32).toInt = 30 := by decide
  have hz : (ga S 6 a1.toNatClampNeg).toInt = (ga M 2 a1.toNatClampNeg).toInt := by rw [RS_a hR (i := 6) (j := 2) (by decide)]
  have m6 : 0 ≤ (ga M 2 a1.toNatClampNeg).toInt → (ga M 2 a1.toNatClampNeg - 1).toInt = (ga M 2 a1.toNatClampNeg).toInt - 1 := fun h => by have := Int32.toInt_lt (ga M 2 a1.toNatClampNeg); rw [ti_sub] <;> rw [l1] <;> omega
  have b6 : 0 ≤ a1.toInt → a1.toInt ≤ 3 → (ga S 6 a1.toNatClampNeg).toInt ≤ 30 := fun h1 h2 => (RS_ba hR (i := 6) (n := 4) (lo := -1) (hi := 30) (by decide) (cl_lt h1 (by omega)).1).2
  unfold qX9_put
  repeat' (first
    | with_reducible exact ⟨rfl, RS_rf hR _⟩
    | unfold qX7_isMissing
    | refine ⟨(ix2 (a := a1) (b := a2) (c := 30) (n := 30) (by decide) (by omega) (by omega) (N := 120) (by omega) (by decide)).1, ?_⟩
    | with_reducible refine rX9_isCove (fun _ _ => ?_) (fun _ => ?_)
    | with_reducible refine rX9_isTable (fun _ _ => ?_) (fun _ => ?_)
    | with_reducible refine rX9_isInformer (fun _ _ => ?_) (fun _ => ?_)
    | with_reducible refine rX9_isSeason (fun _ _ => ?_) (fun _ => ?_)
    | with_reducible refine rX9_isBoat (fun _ _ => ?_) (fun _ => ?_)
    | with_reducible refine rX9_isHide (fun _ _ => ?_) (fun _ => ?_)
    | with_reducible refine rX9_refuse 1 (by decide) (by decide) ?_
    | with_reducible refine rX9_refuse 2 (by decide) (by decide) ?_
    | with_reducible refine rX9_refuse 3 (by decide) (by decide) ?_
    | with_reducible refine rX9_refuse 4 (by decide) (by decide) ?_
    | with_reducible refine rX9_refuse 5 (by decide) (by decide) ?_
    | with_reducible refine rX9_refuse 6 (by decide) (by decide) ?_
    | with_reducible refine rX9_refuse 7 (by decide) (by decide) ?_
    | (with_reducible refine rX10_isCove (fun _ _ => ?_) (fun _ => ?_) <;> try (exfalso; omega))
    | (with_reducible refine rX10_in (fun _ _ => ?_) (fun _ => ?_) <;> try (exfalso; omega))
    | with_reducible refine rX10_refuse 1 (by decide) (by decide) ?_
    | with_reducible refine rX10_refuse 2 (by decide) (by decide) ?_
    | with_reducible refine rX10_refuse 3 (by decide) (by decide) ?_
    | with_reducible refine rX10_refuse 4 (by decide) (by decide) ?_
    | with_reducible refine rX10_refuse 5 (by decide) (by decide) ?_
    | with_reducible refine rX10_refuse 6 (by decide) (by decide) ?_
    | with_reducible refine rX10_refuse 7 (by decide) (by decide) ?_
    | (with_reducible refine br_lt (fun _ => ?_) (fun _ => ?_) <;> try (exfalso; omega))
    | (with_reducible refine br_le (fun _ => ?_) (fun _ => ?_) <;> try (exfalso; omega))
    | (with_reducible refine br_eq (fun _ _ => ?_) (fun _ _ => ?_) <;> try (exfalso; omega))
    | with_reducible refine ⟨in_of (by omega) (by omega), ?_⟩
    | (intro S1 e1; subst e1)
    | rw [gi_A]
    | unfold qX10_put)
  all_goals first | (have i2 := ix2 (a := a1) (b := a2) (c := 30) (n := 30) (by decide) (by omega) (by omega) (N := 120) (by omega) (by decide); have t2 := tn_ti (x := a2) (by omega); have t1 := tn_ti (x := a1) (by omega); rw [i2.2]; exact ⟨RS_RT hR _ _ (by omega) (by omega), RS_tput hR (by omega) (by omega)⟩)

set_option maxHeartbeats 400000 in
theorem s_copy {S M : gS} (hR : RS S M) (a1 : Int32) (a2 : Int32) (a3 : Int32) (a4 : Int32) (a5 : Int32) : qX9_copy S a1 a2 a3 a4 a5 (fun r S' => qX10_copy M a1 a2 a3 a4 a5 (fun r' M' => r = r' ∧ RS S' M')) := by
  have lm7 : (-7 : Int32).toInt = -7 := by decide
  have lm5 : (-5 : Int32).toInt = -5 := by decide
  have lm1 : (-1 : Int32).toInt = -1 := by decide
  have l0 : (0 : Int32).toInt = 0 := by decide
  have l1 : (1 : Int32).toInt = 1 := by decide
  have l3 : (3 : Int32).toInt = 3 := by decide
  have l30 : (30 : Int32).toInt = 30 := by decide
  have hz : (ga S 6 a1.toNatClampNeg).toInt = (ga M 2 a1.toNatClampNeg).toInt := by rw [RS_a hR (i := 6) (j := 2) (by decide)]
  have hz3 : (ga S 6 a3.toNatClampNeg).toInt = (ga M 2 a3.toNatClampNeg).toInt := by rw [RS_a hR (i := 6) (j := 2) (by decide)]
  have b6a1 : 0 ≤ a1.toInt → a1.toInt ≤ 3 → -1 ≤ (ga S 6 a1.toNatClampNeg).toInt ∧ (ga S 6 a1.toNatClampNeg).toInt ≤ 30 := fun h1 h2 => RS_ba hR (i := 6) (n := 4) (lo := -1) (hi := 30) (by decide) (cl_lt h1 (by omega)).1
  have b6a3 : 0 ≤ a3.toInt → a3.toInt ≤ 3 → -1 ≤ (ga S 6 a3.toNatClampNeg).toInt ∧ (ga S 6 a3.toNatClampNeg).toInt ≤ 30 := fun h1 h2 => RS_ba hR (i := 6) (n := 4) (lo := -1) (hi := 30) (by decide) (cl_lt h1 (by omega)).1
  have dSa1 : 0 ≤ (ga S 6 a1.toNatClampNeg).toInt → 0 ≤ a5.toInt → (ga S 6 a1.toNatClampNeg - a5).toInt = (ga S 6 a1.toNatClampNeg).toInt - a5.toInt := fun h1 h2 => by have := Int32.toInt_lt (ga S 6 a1.toNatClampNeg); have := Int32.toInt_lt a5; rw [ti_sub] <;> omega
  have dSa3 : 0 ≤ (ga S 6 a3.toNatClampNeg).toInt → 0 ≤ a5.toInt → (ga S 6 a3.toNatClampNeg - a5).toInt = (ga S 6 a3.toNatClampNeg).toInt - a5.toInt := fun h1 h2 => by have := Int32.toInt_lt (ga S 6 a3.toNatClampNeg); have := Int32.toInt_lt a5; rw [ti_sub] <;> omega
  have dMa1 : 0 ≤ (ga M 2 a1.toNatClampNeg).toInt → 0 ≤ a5.toInt → (ga M 2 a1.toNatClampNeg - a5).toInt = (ga M 2 a1.toNatClampNeg).toInt - a5.toInt := fun h1 h2 => by have := Int32.toInt_lt (ga M 2 a1.toNatClampNeg); have := Int32.toInt_lt a5; rw [ti_sub] <;> omega
  have dMa3 : 0 ≤ (ga M 2 a3.toNatClampNeg).toInt → 0 ≤ a5.toInt → (ga M 2 a3.toNatClampNeg - a5).toInt = (ga M 2 a3.toNatClampNeg).toInt - a5.toInt := fun h1 h2 => by have := Int32.toInt_lt (ga M 2 a3.toNatClampNeg); have := Int32.toInt_lt a5; rw [ti_sub] <;> omega
  unfold qX9_copy
  repeat' (first
    | with_reducible exact ⟨rfl, RS_rf hR _⟩
    | unfold qX7_isMissing
    | unfold qX7_hasPlaces
    | refine ⟨nlt0 (by omega), nlt0 (by omega), nlt0 (by omega), tn2 (by omega) (by omega) (by omega), tn2 (by omega) (by omega) (by omega), ?_⟩
    | with_reducible refine rX10_copy_L (by omega) (by omega) (by omega) (by omega) (by omega) (by omega) (by omega) (by omega) (by omega) (fun _ _ _ _ => ?_)
    | with_reducible refine rX9_isCove (fun _ _ => ?_) (fun _ => ?_)
    | with_reducible refine rX9_isTable (fun _ _ => ?_) (fun _ => ?_)
    | with_reducible refine rX9_isInformer (fun _ _ => ?_) (fun _ => ?_)
    | with_reducible refine rX9_isSeason (fun _ _ => ?_) (fun _ => ?_)
    | with_reducible refine rX9_isBoat (fun _ _ => ?_) (fun _ => ?_)
    | with_reducible refine rX9_isHide (fun _ _ => ?_) (fun _ => ?_)
    | with_reducible refine rX9_refuse 1 (by decide) (by decide) ?_
    | with_reducible refine rX9_refuse 2 (by decide) (by decide) ?_
    | with_reducible refine rX9_refuse 3 (by decide) (by decide) ?_
    | with_reducible refine rX9_refuse 4 (by decide) (by decide) ?_
    | with_reducible refine rX9_refuse 5 (by decide) (by decide) ?_
    | with_reducible refine rX9_refuse 6 (by decide) (by decide) ?_
    | with_reducible refine rX9_refuse 7 (by decide) (by decide) ?_
    | (with_reducible refine rX10_isCove (fun _ _ => ?_) (fun _ => ?_) <;> try (exfalso; omega))
    | (with_reducible refine rX10_in (fun _ _ => ?_) (fun _ => ?_) <;> try (exfalso; omega))
    | with_reducible refine rX10_refuse 1 (by decide) (by decide) ?_
    | with_reducible refine rX10_refuse 2 (by decide) (by decide) ?_
    | with_reducible refine rX10_refuse 3 (by decide) (by decide) ?_
    | with_reducible refine rX10_refuse 4 (by decide) (by decide) ?_
    | with_reducible refine rX10_refuse 5 (by decide) (by decide) ?_
    | with_reducible refine rX10_refuse 6 (by decide) (by decide) ?_
    | with_reducible refine rX10_refuse 7 (by decide) (by decide) ?_
    | (with_reducible refine br_lt (fun _ => ?_) (fun _ => ?_) <;> try (exfalso; omega))
    | (with_reducible refine br_le (fun _ => ?_) (fun _ => ?_) <;> try (exfalso; omega))
    | (with_reducible refine br_eq (fun _ _ => ?_) (fun _ _ => ?_) <;> try (exfalso; omega))
    | with_reducible refine ⟨in_of (by omega) (by omega), ?_⟩
    | (intro S1 e1; subst e1)
    | rw [gi_A]
    | unfold qX10_copy)
  all_goals first | (have t1 := tn_ti (x := a1) (by omega); have t2 := tn_ti (x := a2) (by omega); have t3 := tn_ti (x := a3) (by omega); have t4 := tn_ti (x := a4) (by omega); have t5 := tn_ti (x := a5) (by omega); exact ⟨rfl, RS_tcpy hR (by omega) (by omega) (by omega) (by omega) (by assumption) (by assumption)⟩)
