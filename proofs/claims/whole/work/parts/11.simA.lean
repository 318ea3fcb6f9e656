/-! plain methods -/
set_option maxHeartbeats 400000 in
theorem s_seed {S M : gS} (hR : RS S M) (a1 : Int32) : qX9_seed S a1 (fun r S' => qX10_seed M a1 (fun r' M' => r = r' ∧ RS S' M')) := by
  have l0 : (0 : Int32).toInt = 0 := by decide
  have l1 : (1 : Int32).toInt = 1 := by decide
  unfold qX9_seed
  repeat' (first
    | with_reducible exact ⟨rfl, RS_rf hR _⟩
    | with_reducible refine rX9_isCove (fun _ _ => ?_) (fun _ => ?_)
    | with_reducible refine rX9_isTable (fun _ _ => ?_) (fun _ => ?_)
    | with_reducible refine rX9_isInformer (fun _ _ => ?_) (fun _ => ?_)
    | with_reducible refine rX9_isSeason (fun _ _ => ?_) (fun _ => ?_)
    | with_reducible refine rX9_isBoat (fun _ _ => ?_) (fun _ => ?_)
    | with_reducible refine rX9_isHide (fun _ _ => ?_) (fun _ => ?_)
    | with_reducible refine rX9_refuse 1 (by decide) (by decide) ?_
    | with_reducible refine rX9_refuse 2 (by decide) (by decide) ?_
    | with_reducible refine rX9_refuse 3 (by decide) (by decide) ?_
    | with_reducible refine rX9_refuse 4 (by decide) (by decide) ?_
    | with_reducible refine rX9_refuse 5 (by decide) (by decide) ?_
    | with_reducible refine rX9_refuse 6 (by decide) (by decide) ?_
    | with_reducible refine rX9_refuse 7 (by decide) (by decide) ?_
    | (with_reducible refine rX10_isCove (fun _ _ => ?_) (fun _ => ?_) <;> try (exfalso; omega))
    | (with_reducible refine rX10_in (fun _ _ => ?_) (fun _ => ?_) <;> try (exfalso; omega))
    | with_reducible refine rX10_refuse 1 (by decide) (by decide) ?_
    | with_reducible refine rX10_refuse 2 (by decide) (by decide) ?_
    | with_reducible refine rX10_refuse 3 (by decide) (by decide) ?_
    | with_reducible refine rX10_refuse 4 (by decide) (by decide) ?_
    | with_reducible refine rX10_refuse 5 (by decide) (by decide) ?_
    | with_reducible refine rX10_refuse 6 (by decide) (by decide) ?_
    | with_reducible refine rX10_refuse 7 (by decide) (by decide) ?_
    | (with_reducible refine br_lt (fun _ => ?_) (fun _ => ?_) <;> try (exfalso; omega))
    | (with_reducible refine br_le (fun _ => ?_) (fun _ => ?_) <;> try (exfalso; omega))
    | (with_reducible refine br_eq (fun _ _ => ?_) (fun _ _ => ?_) <;> try (exfalso; omega))
    | with_reducible refine ⟨in_of (by omega) (by omega), ?_⟩
    | (intro S1 e1; subst e1)
    | simp only [gi_A]
    | unfold qX10_seed)
  exact ⟨RS_i hR (i := 1) (j := 0) (by decide), RS_int hR (by decide) (by decide) (lI_no (by decide))⟩

set_option maxHeartbeats 400000 in
theorem s_cove {S M : gS} (hR : RS S M) (a1 : Int32) (a2 : Int32) (a3 : Int32) : qX9_cove S a1 a2 a3 (fun r S' => qX10_cove M a1 a2 a3 (fun r' M' => r = r' ∧ RS S' M')) := by
  have lm6 : (-6 : Int32).toInt = -6 := by decide
  have lm4 : (-4 : Int32).toInt = -4 := by decide
  have lm1 : (-1 : Int32).toInt = -1 := by decide
  have l0 : (0 : Int32).toInt = 0 := by decide
  have l1 : (1 : Int32).toInt = 1 := by decide
  have l9 : (9 : Int32).toInt = 9 := by decide
  have l99 : (99 : Int32).toInt = 99 := by decide
  unfold qX9_cove
  repeat' (first
    | with_reducible exact ⟨rfl, RS_rf hR _⟩
    | with_reducible refine rX9_isCove (fun _ _ => ?_) (fun _ => ?_)
    | with_reducible refine rX9_isTable (fun _ _ => ?_) (fun _ => ?_)
    | with_reducible refine rX9_isInformer (fun _ _ => ?_) (fun _ => ?_)
    | with_reducible refine rX9_isSeason (fun _ _ => ?_) (fun _ => ?_)
    | with_reducible refine rX9_isBoat (fun _ _ => ?_) (fun _ => ?_)
    | with_reducible refine rX9_isHide (fun _ _ => ?_) (fun _ => ?_)
    | with_reducible refine rX9_refuse 1 (by decide) (by decide) ?_
    | with_reducible refine rX9_refuse 2 (by decide) (by decide) ?_
    | with_reducible refine rX9_refuse 3 (by decide) (by decide) ?_
    | with_reducible refine rX9_refuse 4 (by decide) (by decide) ?_
    | with_reducible refine rX9_refuse 5 (by decide) (by decide) ?_
    | with_reducible refine rX9_refuse 6 (by decide) (by decide) ?_
    | with_reducible refine rX9_refuse 7 (by decide) (by decide) ?_
    | (with_reducible refine rX10_isCove (fun _ _ => ?_) (fun _ => ?_) <;> try (exfalso; omega))
    | (with_reducible refine rX10_in (fun _ _ => ?_) (fun _ => ?_) <;> try (exfalso; omega))
    | with_reducible refine rX10_refuse 1 (by decide) (by decide) ?_
    | with_reducible refine rX10_refuse 2 (by decide) (by decide) ?_
    | with_reducible refine rX10_refuse 3 (by decide) (by decide) ?_
    | with_reducible refine rX10_refuse 4 (by decide) (by decide) ?_
    | with_reducible refine rX10_refuse 5 (by decide) (by decide) ?_
    | with_reducible refine rX10_refuse 6 (by decide) (by decide) ?_
    | with_reducible refine rX10_refuse 7 (by decide) (by decide) ?_
    | (with_reducible refine br_lt (fun _ => ?_) (fun _ => ?_) <;> try (exfalso; omega))
    | (with_reducible refine br_le (fun _ => ?_) (fun _ => ?_) <;> try (exfalso; omega))
    | (with_reducible refine br_eq (fun _ _ => ?_) (fun _ _ => ?_) <;> try (exfalso; omega))
    | with_reducible refine ⟨in_of (by omega) (by omega), ?_⟩
    | (intro S1 e1; subst e1)
    | simp only [gi_A]
    | unfold qX10_cove)
  exact ⟨rfl, RS_put (RS_put hR (n := 6) (lo := 0) (hi := 9) (by decide) (by decide) (by decide) (by decide) (by decide) (by decide) ⟨by omega, by omega⟩) (n := 6) (lo := 1) (hi := 99) (by decide) (by decide) (by decide) (by decide) (by decide) (by decide) ⟨by omega, by omega⟩⟩

set_option maxHeartbeats 400000 in
theorem s_stand {S M : gS} (hR : RS S M) (a1 : Int32) (a2 : Int32) : qX9_stand S a1 a2 (fun r S' => qX10_stand M a1 a2 (fun r' M' => r = r' ∧ RS S' M')) := by
  have lm6 : (-6 : Int32).toInt = -6 := by decide
  have lm4 : (-4 : Int32).toInt = -4 := by decide
  have lm1 : (-1 : Int32).toInt = -1 := by decide
  have l0 : (0 : Int32).toInt = 0 := by decide
  have l1 : (1 : Int32).toInt = 1 := by decide
  have l9 : (9 : Int32).toInt = 9 := by decide
  unfold qX9_stand
  repeat' (first
    | with_reducible exact ⟨rfl, RS_rf hR _⟩
    | with_reducible refine rX9_isCove (fun _ _ => ?_) (fun _ => ?_)
    | with_reducible refine rX9_isTable (fun _ _ => ?_) (fun _ => ?_)
    | with_reducible refine rX9_isInformer (fun _ _ => ?_) (fun _ => ?_)
    | with_reducible refine rX9_isSeason (fun _ _ => ?_) (fun _ => ?_)
    | with_reducible refine rX9_isBoat (fun _ _ => ?_) (fun _ => ?_)
    | with_reducible refine rX9_isHide (fun _ _ => ?_) (fun _ => ?_)
    | with_reducible refine rX9_refuse 1 (by decide) (by decide) ?_
    | with_reducible refine rX9_refuse 2 (by decide) (by decide) ?_
    | with_reducible refine rX9_refuse 3 (by decide) (by decide) ?_
    | with_reducible refine rX9_refuse 4 (by decide) (by decide) ?_
    | with_reducible refine rX9_refuse 5 (by decide) (by decide) ?_
    | with_reducible refine rX9_refuse 6 (by decide) (by decide) ?_
    | with_reducible refine rX9_refuse 7 (by decide) (by decide) ?_
    | (with_reducible refine rX10_isCove (fun _ _ => ?_) (fun _ => ?_) <;> try (exfalso; omega))
    | (with_reducible refine rX10_in (fun _ _ => ?_) (fun _ => ?_) <;> try (exfalso; omega))
    | with_reducible refine rX10_refuse 1 (by decide) (by decide) ?_
    | with_reducible refine rX10_refuse 2 (by decide) (by decide) ?_
    | with_reducible refine rX10_refuse 3 (by decide) (by decide) ?_
    | with_reducible refine rX10_refuse 4 (by decide) (by decide) ?_
    | with_reducible refine rX10_refuse 5 (by decide) (by decide) ?_
    | with_reducible refine rX10_refuse 6 (by decide) (by decide) ?_
    | with_reducible refine rX10_refuse 7 (by decide) (by decide) ?_
    | (with_reducible refine br_lt (fun _ => ?_) (fun _ => ?_) <;> try (exfalso; omega))
    | (with_reducible refine br_le (fun _ => ?_) (fun _ => ?_) <;> try (exfalso; omega))
    | (with_reducible refine br_eq (fun _ _ => ?_) (fun _ _ => ?_) <;> try (exfalso; omega))
    | with_reducible refine ⟨in_of (by omega) (by omega), ?_⟩
    | (intro S1 e1; subst e1)
    | simp only [gi_A]
    | unfold qX10_stand)
  exact ⟨by rw [RS_a hR (i := 10) (j := 23) (by decide)], RS_put hR (n := 6) (lo := 0) (hi := 9) (by decide) (by decide) (by decide) (by decide) (by decide) (by decide) ⟨by omega, by omega⟩⟩

set_option maxHeartbeats 400000 in
theorem s_share {S M : gS} (hR : RS S M) (a1 : Int32) (a2 : Int32) : qX9_share S a1 a2 (fun r S' => qX10_share M a1 a2 (fun r' M' => r = r' ∧ RS S' M')) := by
  have lm6 : (-6 : Int32).toInt = -6 := by decide
  have lm4 : (-4 : Int32).toInt = -4 := by decide
  have lm1 : (-1 : Int32).toInt = -1 := by decide
  have l0 : (0 : Int32).toInt = 0 := by decide
  have l1 : (1 : Int32).toInt = 1 := by decide
  have l99 : (99 : Int32).toInt = 99 := by decide
  unfold qX9_share
  repeat' (first
    | with_reducible exact ⟨rfl, RS_rf hR _⟩
    | with_reducible refine rX9_isCove (fun _ _ => ?_) (fun _ => ?_)
    | with_reducible refine rX9_isTable (fun _ _ => ?_) (fun _ => ?_)
    | with_reducible refine rX9_isInformer (fun _ _ => ?_) (fun _ => ?_)
    | with_reducible refine rX9_isSeason (fun _ _ => ?_) (fun _ => ?_)
    | with_reducible refine rX9_isBoat (fun _ _ => ?_) (fun _ => ?_)
    | with_reducible refine rX9_isHide (fun _ _ => ?_) (fun _ => ?_)
    | with_reducible refine rX9_refuse 1 (by decide) (by decide) ?_
    | with_reducible refine rX9_refuse 2 (by decide) (by decide) ?_
    | with_reducible refine rX9_refuse 3 (by decide) (by decide) ?_
    | with_reducible refine rX9_refuse 4 (by decide) (by decide) ?_
    | with_reducible refine rX9_refuse 5 (by decide) (by decide) ?_
    | with_reducible refine rX9_refuse 6 (by decide) (by decide) ?_
    | with_reducible refine rX9_refuse 7 (by decide) (by decide) ?_
    | (with_reducible refine rX10_isCove (fun _ _ => ?_) (fun _ => ?_) <;> try (exfalso; omega))
    | (with_reducible refine rX10_in (fun _ _ => ?_) (fun _ => ?_) <;> try (exfalso; omega))
    | with_reducible refine rX10_refuse 1 (by decide) (by decide) ?_
    | with_reducible refine rX10_refuse 2 (by decide) (by decide) ?_
    | with_reducible refine rX10_refuse 3 (by decide) (by decide) ?_
    | with_reducible refine rX10_refuse 4 (by decide) (by decide) ?_
    | with_reducible refine rX10_refuse 5 (by decide) (by decide) ?_
    | with_reducible refine rX10_refuse 6 (by decide) (by decide) ?_
    | with_reducible refine rX10_refuse 7 (by decide) (by decide) ?_
    | (with_reducible refine br_lt (fun _ => ?_) (fun _ => ?_) <;> try (exfalso; omega))
    | (with_reducible refine br_le (fun _ => ?_) (fun _ => ?_) <;> try (exfalso; omega))
    | (with_reducible refine br_eq (fun _ _ => ?_) (fun _ _ => ?_) <;> try (exfalso; omega))
    | with_reducible refine ⟨in_of (by omega) (by omega), ?_⟩
    | (intro S1 e1; subst e1)
    | simp only [gi_A]
    | unfold qX10_share)
  exact ⟨by rw [RS_a hR (i := 11) (j := 24) (by decide)], RS_put hR (n := 6) (lo := 0) (hi := 99) (by decide) (by decide) (by decide) (by decide) (by decide) (by decide) ⟨by omega, by omega⟩⟩

set_option maxHeartbeats 400000 in
theorem s_draws {S M : gS} (hR : RS S M) (a1 : Int32) : qX9_draws S a1 (fun r S' => qX10_draws M a1 (fun r' M' => r = r' ∧ RS S' M')) := by
  have lm6 : (-6 : Int32).toInt = -6 := by decide
  have lm4 : (-4 : Int32).toInt = -4 := by decide
  have l0 : (0 : Int32).toInt = 0 := by decide
  have l1 : (1 : Int32).toInt = 1 := by decide
  have l9 : (9 : Int32).toInt = 9 := by decide
  unfold qX9_draws
  repeat' (first
    | with_reducible exact ⟨rfl, RS_rf hR _⟩
    | with_reducible refine rX9_isCove (fun _ _ => ?_) (fun _ => ?_)
    | with_reducible refine rX9_isTable (fun _ _ => ?_) (fun _ => ?_)
    | with_reducible refine rX9_isInformer (fun _ _ => ?_) (fun _ => ?_)
    | with_reducible refine rX9_isSeason (fun _ _ => ?_) (fun _ => ?_)
    | with_reducible refine rX9_isBoat (fun _ _ => ?_) (fun _ => ?_)
    | with_reducible refine rX9_isHide (fun _ _ => ?_) (fun _ => ?_)
    | with_reducible refine rX9_refuse 1 (by decide) (by decide) ?_
    | with_reducible refine rX9_refuse 2 (by decide) (by decide) ?_
    | with_reducible refine rX9_refuse 3 (by decide) (by decide) ?_
    | with_reducible refine rX9_refuse 4 (by decide) (by decide) ?_
    | with_reducible refine rX9_refuse 5 (by decide) (by decide) ?_
    | with_reducible refine rX9_refuse 6 (by decide) (by decide) ?_
    | with_reducible refine rX9_refuse 7 (by decide) (by decide) ?_
    | (with_reducible refine rX10_isCove (fun _ _ => ?_) (fun _ => ?_) <;> try (exfalso; omega))
    | (with_reducible refine rX10_in (fun _ _ => ?_) (fun _ => ?_) <;> try (exfalso; omega))
    | with_reducible refine rX10_refuse 1 (by decide) (by decide) ?_
    | with_reducible refine rX10_refuse 2 (by decide) (by decide) ?_
    | with_reducible refine rX10_refuse 3 (by decide) (by decide) ?_
    | with_reducible refine rX10_refuse 4 (by decide) (by decide) ?_
    | with_reducible refine rX10_refuse 5 (by decide) (by decide) ?_
    | with_reducible refine rX10_refuse 6 (by decide) (by decide) ?_
    | with_reducible refine rX10_refuse 7 (by decide) (by decide) ?_
    | (with_reducible refine br_lt (fun _ => ?_) (fun _ => ?_) <;> try (exfalso; omega))
    | (with_reducible refine br_le (fun _ => ?_) (fun _ => ?_) <;> try (exfalso; omega))
    | (with_reducible refine br_eq (fun _ _ => ?_) (fun _ _ => ?_) <;> try (exfalso; omega))
    | with_reducible refine ⟨in_of (by omega) (by omega), ?_⟩
    | (intro S1 e1; subst e1)
    | simp only [gi_A]
    | unfold qX10_draws)
  exact ⟨RS_i hR (i := 2) (j := 5) (by decide), RS_int hR (by decide) (by decide) (lI_at (lo := 0) (hi := 9) (by decide) ⟨by omega, by omega⟩)⟩

set_option maxHeartbeats 400000 in
theorem s_price {S M : gS} (hR : RS S M) (a1 : Int32) : qX9_price S a1 (fun r S' => qX10_price M a1 (fun r' M' => r = r' ∧ RS S' M')) := by
  have lm6 : (-6 : Int32).toInt = -6 := by decide
  have lm4 : (-4 : Int32).toInt = -4 := by decide
  have l0 : (0 : Int32).toInt = 0 := by decide
  have l1 : (1 : Int32).toInt = 1 := by decide
  have l999 : (999 : Int32).toInt = 999 := by decide
  unfold qX9_price
  repeat' (first
    | with_reducible exact ⟨rfl, RS_rf hR _⟩
    | with_reducible refine rX9_isCove (fun _ _ => ?_) (fun _ => ?_)
    | with_reducible refine rX9_isTable (fun _ _ => ?_) (fun _ => ?_)
    | with_reducible refine rX9_isInformer (fun _ _ => ?_) (fun _ => ?_)
    | with_reducible refine rX9_isSeason (fun _ _ => ?_) (fun _ => ?_)
    | with_reducible refine rX9_isBoat (fun _ _ => ?_) (fun _ => ?_)
    | with_reducible refine rX9_isHide (fun _ _ => ?_) (fun _ => ?_)
    | with_reducible refine rX9_refuse 1 (by decide) (by decide) ?_
    | with_reducible refine rX9_refuse 2 (by decide) (by decide) ?_
    | with_reducible refine rX9_refuse 3 (by decide) (by decide) ?_
    | with_reducible refine rX9_refuse 4 (by decide) (by decide) ?_
    | with_reducible refine rX9_refuse 5 (by decide) (by decide) ?_
    | with_reducible refine rX9_refuse 6 (by decide) (by decide) ?_
    | with_reducible refine rX9_refuse 7 (by decide) (by decide) ?_
    | (with_reducible refine rX10_isCove (fun _ _ => ?_) (fun _ => ?_) <;> try (exfalso; omega))
    | (with_reducible refine rX10_in (fun _ _ => ?_) (fun _ => ?_) <;> try (exfalso; omega))
    | with_reducible refine rX10_refuse 1 (by decide) (by decide) ?_
    | with_reducible refine rX10_refuse 2 (by decide) (by decide) ?_
    | with_reducible refine rX10_refuse 3 (by decide) (by decide) ?_
    | with_reducible refine rX10_refuse 4 (by decide) (by decide) ?_
    | with_reducible refine rX10_refuse 5 (by decide) (by decide) ?_
    | with_reducible refine rX10_refuse 6 (by decide) (by decide) ?_
    | with_reducible refine rX10_refuse 7 (by decide) (by decide) ?_
    | (with_reducible refine br_lt (fun _ => ?_) (fun _ => ?_) <;> try (exfalso; omega))
    | (with_reducible refine br_le (fun _ => ?_) (fun _ => ?_) <;> try (exfalso; omega))
    | (with_reducible refine br_eq (fun _ _ => ?_) (fun _ _ => ?_) <;> try (exfalso; omega))
    | with_reducible refine ⟨in_of (by omega) (by omega), ?_⟩
    | (intro S1 e1; subst e1)
    | simp only [gi_A]
    | unfold qX10_price)
  exact ⟨RS_i hR (i := 3) (j := 6) (by decide), RS_int hR (by decide) (by decide) (lI_at (lo := 0) (hi := 999) (by decide) ⟨by omega, by omega⟩)⟩

set_option maxHeartbeats 400000 in
theorem s_used {S M : gS} (hR : RS S M) (a1 : Int32) (a2 : Int32) (a3 : Int32) (a4 : Int32) : qX9_used S a1 a2 a3 a4 (fun r S' => qX10_used M a1 a2 a3 a4 (fun r' M' => r = r' ∧ RS S' M')) := by
  have lm6 : (-6 : Int32).toInt = -6 := by decide
  have lm4 : (-4 : Int32).toInt = -4 := by decide
  have lm3 : (-3 : Int32).toInt = -3 := by decide
  have lm1 : (-1 : Int32).toInt = -1 := by decide
  have l0 : (0 : Int32).toInt = 0 := by decide
  have l1 : (1 : Int32).toInt = 1 := by decide
  have l33 : (33 : Int32).toInt = 33 := by decide
  have l100000 : (100000 : Int32).toInt = 100000 := by decide
  unfold qX9_used
  repeat' (first
    | with_reducible exact ⟨rfl, RS_rf hR _⟩
    | with_reducible refine rX9_isCove (fun _ _ => ?_) (fun _ => ?_)
    | with_reducible refine rX9_isTable (fun _ _ => ?_) (fun _ => ?_)
    | with_reducible refine rX9_isInformer (fun _ _ => ?_) (fun _ => ?_)
    | with_reducible refine rX9_isSeason (fun _ _ => ?_) (fun _ => ?_)
    | with_reducible refine rX9_isBoat (fun _ _ => ?_) (fun _ => ?_)
    | with_reducible refine rX9_isHide (fun _ _ => ?_) (fun _ => ?_)
    | with_reducible refine rX9_refuse 1 (by decide) (by decide) ?_
    | with_reducible refine rX9_refuse 2 (by decide) (by decide) ?_
    | with_reducible refine rX9_refuse 3 (by decide) (by decide) ?_
    | with_reducible refine rX9_refuse 4 (by decide) (by decide) ?_
    | with_reducible refine rX9_refuse 5 (by decide) (by decide) ?_
    | with_reducible refine rX9_refuse 6 (by decide) (by decide) ?_
    | with_reducible refine rX9_refuse 7 (by decide) (by decide) ?_
    | (with_reducible refine rX10_isCove (fun _ _ => ?_) (fun _ => ?_) <;> try (exfalso; omega))
    | (with_reducible refine rX10_in (fun _ _ => ?_) (fun _ => ?_) <;> try (exfalso; omega))
    | with_reducible refine rX10_refuse 1 (by decide) (by decide) ?_
    | with_reducible refine rX10_refuse 2 (by decide) (by decide) ?_
    | with_reducible refine rX10_refuse 3 (by decide) (by decide) ?_
    | with_reducible refine rX10_refuse 4 (by decide) (by decide) ?_
    | with_reducible refine rX10_refuse 5 (by decide) (by decide) ?_
    | with_reducible refine rX10_refuse 6 (by decide) (by decide) ?_
    | with_reducible refine rX10_refuse 7 (by decide) (by decide) ?_
    | (with_reducible refine br_lt (fun _ => ?_) (fun _ => ?_) <;> try (exfalso; omega))
    | (with_reducible refine br_le (fun _ => ?_) (fun _ => ?_) <;> try (exfalso; omega))
    | (with_reducible refine br_eq (fun _ _ => ?_) (fun _ _ => ?_) <;> try (exfalso; omega))
    | with_reducible refine ⟨in_of (by omega) (by omega), ?_⟩
    | (intro S1 e1; subst e1)
    | simp only [gi_A]
    | unfold qX10_used)
  exact ⟨rfl, RS_putN (RS_putN (RS_putN hR (by decide) (by decide) (by decide) (by decide) (by decide)) (by decide) (by decide) (by decide) (by decide) (by decide)) (by decide) (by decide) (by decide) (by decide) (by decide)⟩

set_option maxHeartbeats 400000 in
theorem s_watched {S M : gS} (hR : RS S M) (a1 : Int32) : qX9_watched S a1 (fun r S' => qX10_watched M a1 (fun r' M' => r = r' ∧ RS S' M')) := by
  have lm1 : (-1 : Int32).toInt = -1 := by decide
  have l0 : (0 : Int32).toInt = 0 := by decide
  have l1 : (1 : Int32).toInt = 1 := by decide
  unfold qX9_watched
  repeat' (first
    | with_reducible exact ⟨rfl, RS_rf hR _⟩
    | with_reducible refine rX9_isCove (fun _ _ => ?_) (fun _ => ?_)
    | with_reducible refine rX9_isTable (fun _ _ => ?_) (fun _ => ?_)
    | with_reducible refine rX9_isInformer (fun _ _ => ?_) (fun _ => ?_)
    | with_reducible refine rX9_isSeason (fun _ _ => ?_) (fun _ => ?_)
    | with_reducible refine rX9_isBoat (fun _ _ => ?_) (fun _ => ?_)
    | with_reducible refine rX9_isHide (fun _ _ => ?_) (fun _ => ?_)
    | with_reducible refine rX9_refuse 1 (by decide) (by decide) ?_
    | with_reducible refine rX9_refuse 2 (by decide) (by decide) ?_
    | with_reducible refine rX9_refuse 3 (by decide) (by decide) ?_
    | with_reducible refine rX9_refuse 4 (by decide) (by decide) ?_
    | with_reducible refine rX9_refuse 5 (by decide) (by decide) ?_
    | with_reducible refine rX9_refuse 6 (by decide) (by decide) ?_
    | with_reducible refine rX9_refuse 7 (by decide) (by decide) ?_
    | (with_reducible refine rX10_isCove (fun _ _ => ?_) (fun _ => ?_) <;> try (exfalso; omega))
    | (with_reducible refine rX10_in (fun _ _ => ?_) (fun _ => ?_) <;> try (exfalso; omega))
    | with_reducible refine rX10_refuse 1 (by decide) (by decide) ?_
    | with_reducible refine rX10_refuse 2 (by decide) (by decide) ?_
    | with_reducible refine rX10_refuse 3 (by decide) (by decide) ?_
    | with_reducible refine rX10_refuse 4 (by decide) (by decide) ?_
    | with_reducible refine rX10_refuse 5 (by decide) (by decide) ?_
    | with_reducible refine rX10_refuse 6 (by decide) (by decide) ?_
    | with_reducible refine rX10_refuse 7 (by decide) (by decide) ?_
    | (with_reducible refine br_lt (fun _ => ?_) (fun _ => ?_) <;> try (exfalso; omega))
    | (with_reducible refine br_le (fun _ => ?_) (fun _ => ?_) <;> try (exfalso; omega))
    | (with_reducible refine br_eq (fun _ _ => ?_) (fun _ _ => ?_) <;> try (exfalso; omega))
    | with_reducible refine ⟨in_of (by omega) (by omega), ?_⟩
    | (intro S1 e1; subst e1)
    | simp only [gi_A]
    | unfold qX10_watched)
  exact ⟨by rw [RS_a hR (i := 13) (j := 26) (by decide)], hR⟩

set_option maxHeartbeats 400000 in
theorem s_coins {S M : gS} (hR : RS S M) (a1 : Int32) : qX9_coins S a1 (fun r S' => qX10_coins M a1 (fun r' M' => r = r' ∧ RS S' M')) := by
  have lm2 : (-2 : Int32).toInt = -2 := by decide
  have l0 : (0 : Int32).toInt = 0 := by decide
  have l1 : (1 : Int32).toInt = 1 := by decide
  have l7 : (7 : Int32).toInt = 7 := by decide
  have l8 : (8 : Int32).toInt = 8 := by decide
  unfold qX9_coins
  repeat' (first
    | with_reducible exact ⟨rfl, RS_rf hR _⟩
    | with_reducible refine rX9_isCove (fun _ _ => ?_) (fun _ => ?_)
    | with_reducible refine rX9_isTable (fun _ _ => ?_) (fun _ => ?_)
    | with_reducible refine rX9_isInformer (fun _ _ => ?_) (fun _ => ?_)
    | with_reducible refine rX9_isSeason (fun _ _ => ?_) (fun _ => ?_)
    | with_reducible refine rX9_isBoat (fun _ _ => ?_) (fun _ => ?_)
    | with_reducible refine rX9_isHide (fun _ _ => ?_) (fun _ => ?_)
    | with_reducible refine rX9_refuse 1 (by decide) (by decide) ?_
    | with_reducible refine rX9_refuse 2 (by decide) (by decide) ?_
    | with_reducible refine rX9_refuse 3 (by decide) (by decide) ?_
    | with_reducible refine rX9_refuse 4 (by decide) (by decide) ?_
    | with_reducible refine rX9_refuse 5 (by decide) (by decide) ?_
    | with_reducible refine rX9_refuse 6 (by decide) (by decide) ?_
    | with_reducible refine rX9_refuse 7 (by decide) (by decide) ?_
    | (with_reducible refine rX10_isCove (fun _ _ => ?_) (fun _ => ?_) <;> try (exfalso; omega))
    | (with_reducible refine rX10_in (fun _ _ => ?_) (fun _ => ?_) <;> try (exfalso; omega))
    | with_reducible refine rX10_refuse 1 (by decide) (by decide) ?_
    | with_reducible refine rX10_refuse 2 (by decide) (by decide) ?_
    | with_reducible refine rX10_refuse 3 (by decide) (by decide) ?_
    | with_reducible refine rX10_refuse 4 (by decide) (by decide) ?_
    | with_reducible refine rX10_refuse 5 (by decide) (by decide) ?_
    | with_reducible refine rX10_refuse 6 (by decide) (by decide) ?_
    | with_reducible refine rX10_refuse 7 (by decide) (by decide) ?_
    | (with_reducible refine br_lt (fun _ => ?_) (fun _ => ?_) <;> try (exfalso; omega))
    | (with_reducible refine br_le (fun _ => ?_) (fun _ => ?_) <;> try (exfalso; omega))
    | (with_reducible refine br_eq (fun _ _ => ?_) (fun _ _ => ?_) <;> try (exfalso; omega))
    | with_reducible refine ⟨in_of (by omega) (by omega), ?_⟩
    | (intro S1 e1; subst e1)
    | simp only [gi_A]
    | unfold qX10_coins)
  exact ⟨by rw [RS_a hR (i := 1) (j := 39) (by decide)], hR⟩
