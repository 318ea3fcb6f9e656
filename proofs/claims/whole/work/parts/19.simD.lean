/-! word, and what is told of lots and hides -/
set_option maxHeartbeats 400000 in
theorem s_word {S M : gS} (hR : RS S M) (a1 : Int32) (a2 : Int32) (a3 : Int32) : qX9_word S a1 a2 a3 (fun r S' => qX10_word M a1 a2 a3 (fun r' M' => r = r' ∧ RS S' M')) := by
  have lm6 : (-6 : Int32).toInt = -6 := by decide
  have lm4 : (-4 : Int32).toInt = -4 := by decide
  have lm3 : (-3 : Int32).toInt = -3 := by decide
  have lm1 : (-1 : Int32).toInt = -1 := by decide
  have l0 : (0 : Int32).toInt = 0 := by decide
  have l1 : (1 : Int32).toInt = 1 := by decide
  have l5 : (5 : Int32).toInt = 5 := by decide
  have l60 : (60 : Int32).toInt = 60 := by decide
  have l1000 : (1000 : Int32).toInt = 1000 := by decide
  have i8 := RS_i hR (i := 8) (j := 8) (by decide); have i8t : (gi S 8).toInt = (gi M 8).toInt := by rw [i8]
  have b8 := RS_bi hR (i := 8) (lo := 0) (hi := 60) (by decide)
  have i0 := RS_i hR (i := 0) (j := 1) (by decide); have i0t : (gi S 0).toInt = (gi M 1).toInt := by rw [i0]
  have b0 := RS_bi hR (i := 0) (lo := 0) (hi := 1000) (by decide)
  have e43 := RS_a hR (i := 43) (j := 31) (by decide)
  have e44 := RS_a hR (i := 44) (j := 32) (by decide)
  have e45 := RS_a hR (i := 45) (j := 33) (by decide)
  have F : ¬ ((∃ k, k < (gi S 8).toNatClampNeg ∧ toldA (ga S 43) (ga S 44) (ga S 45) a1 a2 a3 k) ∧ (∀ k, k < (gi M 8).toNatClampNeg → ¬ toldA (ga M 31) (ga M 32) (ga M 33) a1 a2 a3 k)) := by rw [← i8, ← e43, ← e44, ← e45]; rintro ⟨⟨k, hk, hz⟩, h⟩; exact h k hk hz
  have G : ¬ ((∀ k, k < (gi S 8).toNatClampNeg → ¬ toldA (ga S 43) (ga S 44) (ga S 45) a1 a2 a3 k) ∧ (∃ k, k < (gi M 8).toNatClampNeg ∧ toldA (ga M 31) (ga M 32) (ga M 33) a1 a2 a3 k)) := by rw [← i8, ← e43, ← e44, ← e45]; rintro ⟨h, ⟨k, hk, hz⟩⟩; exact h k hk hz
  unfold qX9_word
  repeat' (first
    | with_reducible exact ⟨rfl, RS_rf hR _⟩
    | with_reducible refine rX8_isToldBy b8 (fun _ => ?_) (fun _ => ?_)
    | with_reducible refine rX10_word_L (by omega) (fun _ => ?_) (fun _ => ?_)
    | unfold qX8_add
    | with_reducible refine rX9_isCove (fun _ _ => ?_) (fun _ => ?_)
    | with_reducible refine rX9_isTable (fun _ _ => ?_) (fun _ => ?_)
    | with_reducible refine rX9_isInformer (fun _ _ => ?_) (fun _ => ?_)
    | with_reducible refine rX9_isSeason (fun _ _ => ?_) (fun _ => ?_)
    | with_reducible refine rX9_isBoat (fun _ _ => ?_) (fun _ => ?_)
    | with_reducible refine rX9_isHide (fun _ _ => ?_) (fun _ => ?_)
    | with_reducible refine rX9_refuse 1 (by decide) (by decide) ?_
    | with_reducible refine rX9_refuse 2 (by decide) (by decide) ?_
    | with_reducible refine rX9_refuse 3 (by decide) (by decide) ?_
    | with_reducible refine rX9_refuse 4 (by decide) (by decide) ?_
    | with_reducible refine rX9_refuse 5 (by decide) (by decide) ?_
    | with_reducible refine rX9_refuse 6 (by decide) (by decide) ?_
    | with_reducible refine rX9_refuse 7 (by decide) (by decide) ?_
    | (with_reducible refine rX10_isCove (fun _ _ => ?_) (fun _ => ?_) <;> try (exfalso; omega))
    | (with_reducible refine rX10_in (fun _ _ => ?_) (fun _ => ?_) <;> try (exfalso; omega))
    | with_reducible refine rX10_refuse 1 (by decide) (by decide) ?_
    | with_reducible refine rX10_refuse 2 (by decide) (by decide) ?_
    | with_reducible refine rX10_refuse 3 (by decide) (by decide) ?_
    | with_reducible refine rX10_refuse 4 (by decide) (by decide) ?_
    | with_reducible refine rX10_refuse 5 (by decide) (by decide) ?_
    | with_reducible refine rX10_refuse 6 (by decide) (by decide) ?_
    | with_reducible refine rX10_refuse 7 (by decide) (by decide) ?_
    | (with_reducible refine br_lt (fun _ => ?_) (fun _ => ?_) <;> try (exfalso; omega))
    | (with_reducible refine br_le (fun _ => ?_) (fun _ => ?_) <;> try (exfalso; omega))
    | (with_reducible refine br_eq (fun _ _ => ?_) (fun _ _ => ?_) <;> try (exfalso; omega))
    | with_reducible refine ⟨in_of (by omega) (by omega), ?_⟩
    | (intro S1 e1; subst e1)
    | rw [gi_A]
    | unfold qX10_word)
  all_goals first | exact absurd ⟨by assumption, by assumption⟩ F | exact absurd ⟨by assumption, by assumption⟩ G | (rename_i z1; exact ⟨i8, RS_word hR ⟨by omega, by omega⟩ (by omega) ⟨by omega, by omega⟩ (by omega) (by assumption)⟩)
