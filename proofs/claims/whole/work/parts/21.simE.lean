/-! landed, hideOf -/
set_option maxHeartbeats 400000 in
theorem s_landed {S M : gS} (hR : RS S M) (a1 : Int32) (a2 : Int32) : qX9_landed S a1 a2 (fun r S' => qX10_landed M a1 a2 (fun r' M' => r = r' ∧ RS S' M')) := by
  have lm2 : (-2 : Int32).toInt = -2 := by decide
  have lm1 : (-1 : Int32).toInt = -1 := by decide
  have l0 : (0 : Int32).toInt = 0 := by decide
  have l1 : (1 : Int32).toInt = 1 := by decide
  have l2 : (2 : Int32).toInt = 2 := by decide
  have l3 : (3 : Int32).toInt = 3 := by decide
  have l33 : (33 : Int32).toInt = 33 := by decide
  have i6 := RS_i hR (i := 6) (j := 4) (by decide); have i6t : (gi S 6).toInt = (gi M 4).toInt := by rw [i6]
  have b6 := RS_bi hR (i := 6) (lo := 0) (hi := 100) (by decide)
  have c6 : 0 ≤ (gi M 4).toInt ∧ (gi M 4).toInt ≤ 100 := by rw [← i6t]; exact b6
  have hp : ∀ k, k < 100 → 0 ≤ (ga M 21 k).toInt := fun k hk => by rw [← RS_a hR (i := 38) (j := 21) (by decide)]; exact (RS_ba hR (i := 38) (n := 100) (lo := 0) (hi := 2) (by decide) hk).1
  have s1 : ∀ z : Bool, ssn (ga S 36) (ga S 38) (ga S 35) a1 z (gi S 6).toNatClampNeg = ssn (ga M 19) (ga M 21) (ga M 18) a1 z (gi M 4).toNatClampNeg := fun z => by rw [i6, RS_a hR (i := 36) (j := 19) (by decide), RS_a hR (i := 38) (j := 21) (by decide), RS_a hR (i := 35) (j := 18) (by decide)]
  have e48 := RS_a hR (i := 48) (j := 36) (by decide)
  have e49 := RS_a hR (i := 49) (j := 37) (by decide)
  have e50 := RS_a hR (i := 50) (j := 38) (by decide)
  unfold qX9_landed
  repeat' (first
    | with_reducible exact ⟨rfl, RS_rf hR _⟩
    | unfold qX10_landed_J72
    | with_reducible refine rX5_heldIn b6 ?_
    | with_reducible refine rX5_seizedIn b6 ?_
    | with_reducible refine rX10_casksOf (z := false) (by decide) c6 hp ?_
    | with_reducible refine rX10_casksOf (z := true) (by decide) c6 hp ?_
    | unfold qX6_landedOf
    | with_reducible refine rX9_isCove (fun _ _ => ?_) (fun _ => ?_)
    | with_reducible refine rX9_isTable (fun _ _ => ?_) (fun _ => ?_)
    | with_reducible refine rX9_isInformer (fun _ _ => ?_) (fun _ => ?_)
    | with_reducible refine rX9_isSeason (fun _ _ => ?_) (fun _ => ?_)
    | with_reducible refine rX9_isBoat (fun _ _ => ?_) (fun _ => ?_)
    | with_reducible refine rX9_isHide (fun _ _ => ?_) (fun _ => ?_)
    | with_reducible refine rX9_refuse 1 (by decide) (by decide) ?_
    | with_reducible refine rX9_refuse 2 (by decide) (by decide) ?_
    | with_reducible refine rX9_refuse 3 (by decide) (by decide) ?_
    | with_reducible refine rX9_refuse 4 (by decide) (by decide) ?_
    | with_reducible refine rX9_refuse 5 (by decide) (by decide) ?_
    | with_reducible refine rX9_refuse 6 (by decide) (by decide) ?_
    | with_reducible refine rX9_refuse 7 (by decide) (by decide) ?_
    | (with_reducible refine rX10_isCove (fun _ _ => ?_) (fun _ => ?_) <;> try (exfalso; omega))
    | (with_reducible refine rX10_in (fun _ _ => ?_) (fun _ => ?_) <;> try (exfalso; omega))
    | with_reducible refine rX10_refuse 1 (by decide) (by decide) ?_
    | with_reducible refine rX10_refuse 2 (by decide) (by decide) ?_
    | with_reducible refine rX10_refuse 3 (by decide) (by decide) ?_
    | with_reducible refine rX10_refuse 4 (by decide) (by decide) ?_
    | with_reducible refine rX10_refuse 5 (by decide) (by decide) ?_
    | with_reducible refine rX10_refuse 6 (by decide) (by decide) ?_
    | with_reducible refine rX10_refuse 7 (by decide) (by decide) ?_
    | (with_reducible refine br_lt (fun _ => ?_) (fun _ => ?_) <;> try (exfalso; omega))
    | (with_reducible refine br_le (fun _ => ?_) (fun _ => ?_) <;> try (exfalso; omega))
    | (with_reducible refine br_eq (fun _ _ => ?_) (fun _ _ => ?_) <;> try (exfalso; omega))
    | with_reducible refine ⟨in_of (by omega) (by omega), ?_⟩
    | (intro S1 e1; subst e1)
    | rw [gi_A]
    | unfold qX10_landed)
  all_goals first | exact ⟨s1 _, hR⟩ | (rw [e48, e50, s1]; refine ⟨?_, hR⟩; split <;> first | rfl | (rename_i z; have := Int32.lt_iff_toInt_lt.mp z; exfalso; omega) | (rename_i z; exfalso; exact z (Int32.lt_iff_toInt_lt.mpr (by omega)))) | (rw [e49, e50, s1]; refine ⟨?_, hR⟩; split <;> first | rfl | (rename_i z; have := Int32.lt_iff_toInt_lt.mp z; exfalso; omega) | (rename_i z; exfalso; exact z (Int32.lt_iff_toInt_lt.mpr (by omega))))

set_option maxHeartbeats 400000 in
theorem s_hideOf {S M : gS} (hR : RS S M) (a1 : Int32) (a2 : Int32) : qX9_hideOf S a1 a2 (fun r S' => qX10_hideOf M a1 a2 (fun r' M' => r = r' ∧ RS S' M')) := by
  have lm2 : (-2 : Int32).toInt = -2 := by decide
  have lm1 : (-1 : Int32).toInt = -1 := by decide
  have l0 : (0 : Int32).toInt = 0 := by decide
  have l1 : (1 : Int32).toInt = 1 := by decide
  have l2 : (2 : Int32).toInt = 2 := by decide
  have i6 := RS_i hR (i := 6) (j := 4) (by decide); have i6t : (gi S 6).toInt = (gi M 4).toInt := by rw [i6]
  have b6 := RS_bi hR (i := 6) (lo := 0) (hi := 100) (by decide)
  have i5 := RS_i hR (i := 5) (j := 3) (by decide); have i5t : (gi S 5).toInt = (gi M 3).toInt := by rw [i5]
  have b5 := RS_bi hR (i := 5) (lo := 0) (hi := 12) (by decide)
  have m5 : (gi M 3 - 1).toInt = (gi M 3).toInt - 1 := ti_sub (by omega) (by omega)
  have c6 : 0 ≤ (gi M 4).toInt ∧ (gi M 4).toInt ≤ 100 := by rw [← i6t]; exact b6
  unfold qX9_hideOf
  repeat' (first
    | with_reducible exact ⟨rfl, RS_rf hR _⟩
    | with_reducible refine rX10_liesIn c6 ?_
    | with_reducible refine rX9_isCove (fun _ _ => ?_) (fun _ => ?_)
    | with_reducible refine rX9_isTable (fun _ _ => ?_) (fun _ => ?_)
    | with_reducible refine rX9_isInformer (fun _ _ => ?_) (fun _ => ?_)
    | with_reducible refine rX9_isSeason (fun _ _ => ?_) (fun _ => ?_)
    | with_reducible refine rX9_isBoat (fun _ _ => ?_) (fun _ => ?_)
    | with_reducible refine rX9_isHide (fun _ _ => ?_) (fun _ => ?_)
    | with_reducible refine rX9_refuse 1 (by decide) (by decide) ?_
    | with_reducible refine rX9_refuse 2 (by decide) (by decide) ?_
    | with_reducible refine rX9_refuse 3 (by decide) (by decide) ?_
    | with_reducible refine rX9_refuse 4 (by decide) (by decide) ?_
    | with_reducible refine rX9_refuse 5 (by decide) (by decide) ?_
    | with_reducible refine rX9_refuse 6 (by decide) (by decide) ?_
    | with_reducible refine rX9_refuse 7 (by decide) (by decide) ?_
    | (with_reducible refine rX10_isCove (fun _ _ => ?_) (fun _ => ?_) <;> try (exfalso; omega))
    | (with_reducible refine rX10_in (fun _ _ => ?_) (fun _ => ?_) <;> try (exfalso; omega))
    | with_reducible refine rX10_refuse 1 (by decide) (by decide) ?_
    | with_reducible refine rX10_refuse 2 (by decide) (by decide) ?_
    | with_reducible refine rX10_refuse 3 (by decide) (by decide) ?_
    | with_reducible refine rX10_refuse 4 (by decide) (by decide) ?_
    | with_reducible refine rX10_refuse 5 (by decide) (by decide) ?_
    | with_reducible refine rX10_refuse 6 (by decide) (by decide) ?_
    | with_reducible refine rX10_refuse 7 (by decide) (by decide) ?_
    | (with_reducible refine br_lt (fun _ => ?_) (fun _ => ?_) <;> try (exfalso; omega))
    | (with_reducible refine br_le (fun _ => ?_) (fun _ => ?_) <;> try (exfalso; omega))
    | (with_reducible refine br_eq (fun _ _ => ?_) (fun _ _ => ?_) <;> try (exfalso; omega))
    | with_reducible refine ⟨in_of (by omega) (by omega), ?_⟩
    | (intro S1 e1; subst e1)
    | rw [gi_A]
    | unfold qX10_hideOf)
  all_goals first | exact ⟨RS_lie hR (by omega) (by omega), hR⟩ | exact ⟨by rw [RS_a hR (i := 32) (j := 16) (by decide)], hR⟩ | exact ⟨by rw [RS_a hR (i := 29) (j := 13) (by decide)], hR⟩
