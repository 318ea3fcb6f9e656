/-! value, chance -/
set_option maxHeartbeats 400000 in
theorem s_value {S M : gS} (hR : RS S M) (a1 : Int32) (a2 : Int32) (a3 : Int32) : qX9_value S a1 a2 a3 (fun r S' => qX10_value M a1 a2 a3 (fun r' M' => r = r' ∧ RS S' M')) := by
  have lm6 : (-6 : Int32).toInt = -6 := by decide
  have lm4 : (-4 : Int32).toInt = -4 := by decide
  have lm2 : (-2 : Int32).toInt = -2 := by decide
  have l0 : (0 : Int32).toInt = 0 := by decide
  have l1 : (1 : Int32).toInt = 1 := by decide
  have l6 : (6 : Int32).toInt = 6 := by decide
  have l99 : (99 : Int32).toInt = 99 := by decide
  unfold qX9_value
  repeat' (first
    | with_reducible exact ⟨rfl, RS_rf hR _⟩
    | unfold qX9_gameRefusal
    | unfold qX9_isPart
    | with_reducible refine rX10_refuseBig 1 (by decide) (by decide) ?_
    | with_reducible refine rX10_refuseBig 2 (by decide) (by decide) ?_
    | with_reducible refine rX10_refuseBig 4 (by decide) (by decide) ?_
    | with_reducible refine rX10_refuseBig 6 (by decide) (by decide) ?_
    | with_reducible exact ⟨rfl, RS_rf hR _⟩
    | with_reducible refine rX2_solve2 hR (by omega) (by omega) (by omega) (by omega) (fun S2 a b fg hS2 ga0 gb0 e8 ba bb => ?_)
    | with_reducible refine rX10_play2 hR fg hS2 (fun M2 hM2 ga1 gb1 e1 => ?_)
    | rw [ga0, gb0]
    | rw [ga1, gb1]
    | with_reducible refine rX9_lowest (by omega) (by omega) (by omega) (fun _ => ?_) (fun _ => ?_)
    | with_reducible refine rX10_side (by omega) (by omega) (fun _ => ?_) (fun _ => ?_)
    | with_reducible refine rX9_isCove (fun _ _ => ?_) (fun _ => ?_)
    | with_reducible refine rX9_isTable (fun _ _ => ?_) (fun _ => ?_)
    | with_reducible refine rX9_isInformer (fun _ _ => ?_) (fun _ => ?_)
    | with_reducible refine rX9_isSeason (fun _ _ => ?_) (fun _ => ?_)
    | with_reducible refine rX9_isBoat (fun _ _ => ?_) (fun _ => ?_)
    | with_reducible refine rX9_isHide (fun _ _ => ?_) (fun _ => ?_)
    | with_reducible refine rX9_refuse 1 (by decide) (by decide) ?_
    | with_reducible refine rX9_refuse 2 (by decide) (by decide) ?_
    | with_reducible refine rX9_refuse 3 (by decide) (by decide) ?_
    | with_reducible refine rX9_refuse 4 (by decide) (by decide) ?_
    | with_reducible refine rX9_refuse 5 (by decide) (by decide) ?_
    | with_reducible refine rX9_refuse 6 (by decide) (by decide) ?_
    | with_reducible refine rX9_refuse 7 (by decide) (by decide) ?_
    | (with_reducible refine rX10_isCove (fun _ _ => ?_) (fun _ => ?_) <;> try (exfalso; omega))
    | (with_reducible refine rX10_in (fun _ _ => ?_) (fun _ => ?_) <;> try (exfalso; omega))
    | with_reducible refine rX10_refuse 1 (by decide) (by decide) ?_
    | with_reducible refine rX10_refuse 2 (by decide) (by decide) ?_
    | with_reducible refine rX10_refuse 3 (by decide) (by decide) ?_
    | with_reducible refine rX10_refuse 4 (by decide) (by decide) ?_
    | with_reducible refine rX10_refuse 5 (by decide) (by decide) ?_
    | with_reducible refine rX10_refuse 6 (by decide) (by decide) ?_
    | with_reducible refine rX10_refuse 7 (by decide) (by decide) ?_
    | (with_reducible refine br_lt (fun _ => ?_) (fun _ => ?_) <;> try (exfalso; omega))
    | (with_reducible refine br_le (fun _ => ?_) (fun _ => ?_) <;> try (exfalso; omega))
    | (with_reducible refine br_eq (fun _ _ => ?_) (fun _ _ => ?_) <;> try (exfalso; omega))
    | with_reducible refine ⟨in_of (by omega) (by omega), ?_⟩
    | (intro S1 e1; subst e1)
    | rw [gi_A]
    | unfold qX10_value)
  all_goals first | exact absurd (by assumption) (by assumption) | contradiction | exact ⟨rfl, hM2⟩ | exact ⟨rfl, RS_rf hR _⟩

set_option maxHeartbeats 400000 in
theorem s_chance {S M : gS} (hR : RS S M) (a1 : Int32) (a2 : Int32) (a3 : Int32) (a4 : Int32) : qX9_chance S a1 a2 a3 a4 (fun r S' => qX10_chance M a1 a2 a3 a4 (fun r' M' => r = r' ∧ RS S' M')) := by
  have lm6 : (-6 : Int32).toInt = -6 := by decide
  have lm4 : (-4 : Int32).toInt = -4 := by decide
  have lm2 : (-2 : Int32).toInt = -2 := by decide
  have lm1 : (-1 : Int32).toInt = -1 := by decide
  have l0 : (0 : Int32).toInt = 0 := by decide
  have l1 : (1 : Int32).toInt = 1 := by decide
  have l6 : (6 : Int32).toInt = 6 := by decide
  have l99 : (99 : Int32).toInt = 99 := by decide
  have ew := RS_a hR (i := 8) (j := 1) (by decide)
  have wb0 : 0 ≤ a1.toInt → a1.toInt ≤ 5 → 1 ≤ (ga S 8 a1.toNatClampNeg).toInt ∧ (ga S 8 a1.toNatClampNeg).toInt ≤ 99 := fun h1 h2 => RS_ba hR (i := 8) (n := 6) (lo := 1) (hi := 99) (by decide) (cl_lt h1 (by omega)).1
  unfold qX9_chance
  repeat' (first
    | with_reducible exact ⟨rfl, RS_rf hR _⟩
    | unfold qX9_chance_J18
    | unfold qX10_chance_J103
    | unfold qX9_gameRefusal
    | unfold qX9_isPart
    | with_reducible refine rX10_refuseBig 1 (by decide) (by decide) ?_
    | with_reducible refine rX10_refuseBig 2 (by decide) (by decide) ?_
    | with_reducible refine rX10_refuseBig 4 (by decide) (by decide) ?_
    | with_reducible refine rX10_refuseBig 6 (by decide) (by decide) ?_
    | with_reducible exact ⟨rfl, RS_rf hR _⟩
    | with_reducible refine rX2_solve2 hR (by omega) (by omega) (by omega) (by omega) (fun S2 a b fg hS2 ga0 gb0 e8 ba bb => ?_)
    | with_reducible refine rX10_play2 hR fg hS2 (fun M2 hM2 ga1 gb1 e1 => ?_)
    | (rw [ga0, gb0, e8]; have wb := wb0 (by omega) (by omega); have cb := ch_bd (f := a3) ba bb wb ⟨by omega, by omega⟩; refine ⟨in_of (by omega) (by omega), ?_⟩; rintro x4 rfl x5 rfl; refine rC_ch cb.2.1 cb.2.2 (fun _ => ?_) (fun _ => ?_))
    | (rw [ga1, gb1, e1, ← ew]; refine ⟨in_of (by omega) (by omega), ?_⟩; rintro x20 rfl; refine rM_ch (a2 := a2) ⟨by omega, by omega⟩ cb.1 (by rw [gb1, e1, ← ew, Int64.mul_comm]; exact cb.2.1) (fun _ => ?_) (fun _ => ?_))
    | with_reducible refine rX9_isCove (fun _ _ => ?_) (fun _ => ?_)
    | with_reducible refine rX9_isTable (fun _ _ => ?_) (fun _ => ?_)
    | with_reducible refine rX9_isInformer (fun _ _ => ?_) (fun _ => ?_)
    | with_reducible refine rX9_isSeason (fun _ _ => ?_) (fun _ => ?_)
    | with_reducible refine rX9_isBoat (fun _ _ => ?_) (fun _ => ?_)
    | with_reducible refine rX9_isHide (fun _ _ => ?_) (fun _ => ?_)
    | with_reducible refine rX9_refuse 1 (by decide) (by decide) ?_
    | with_reducible refine rX9_refuse 2 (by decide) (by decide) ?_
    | with_reducible refine rX9_refuse 3 (by decide) (by decide) ?_
    | with_reducible refine rX9_refuse 4 (by decide) (by decide) ?_
    | with_reducible refine rX9_refuse 5 (by decide) (by decide) ?_
    | with_reducible refine rX9_refuse 6 (by decide) (by decide) ?_
    | with_reducible refine rX9_refuse 7 (by decide) (by decide) ?_
    | (with_reducible refine rX10_isCove (fun _ _ => ?_) (fun _ => ?_) <;> try (exfalso; omega))
    | (with_reducible refine rX10_in (fun _ _ => ?_) (fun _ => ?_) <;> try (exfalso; omega))
    | with_reducible refine rX10_refuse 1 (by decide) (by decide) ?_
    | with_reducible refine rX10_refuse 2 (by decide) (by decide) ?_
    | with_reducible refine rX10_refuse 3 (by decide) (by decide) ?_
    | with_reducible refine rX10_refuse 4 (by decide) (by decide) ?_
    | with_reducible refine rX10_refuse 5 (by decide) (by decide) ?_
    | with_reducible refine rX10_refuse 6 (by decide) (by decide) ?_
    | with_reducible refine rX10_refuse 7 (by decide) (by decide) ?_
    | (with_reducible refine br_lt (fun _ => ?_) (fun _ => ?_) <;> try (exfalso; omega))
    | (with_reducible refine br_le (fun _ => ?_) (fun _ => ?_) <;> try (exfalso; omega))
    | (with_reducible refine br_eq (fun _ _ => ?_) (fun _ _ => ?_) <;> try (exfalso; omega))
    | with_reducible refine ⟨in_of (by omega) (by omega), ?_⟩
    | (intro S1 e1; subst e1)
    | rw [gi_A]
    | unfold qX10_chance)
  all_goals first | exact absurd (by assumption) (by assumption) | contradiction | (rw [gb1, e1, ← ew, Int64.mul_comm b]; exact ⟨rfl, hM2⟩) | exact ⟨rfl, RS_rf hR _⟩
