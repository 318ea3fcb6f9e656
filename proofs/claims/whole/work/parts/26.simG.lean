/-! weight, belief -/
set_option maxHeartbeats 400000 in
theorem s_weight {S M : gS} (hR : RS S M) (a1 : Int32) (a2 : Int32) : qX9_weight S a1 a2 (fun r S' => qX10_weight M a1 a2 (fun r' M' => r = r' ∧ RS S' M')) := by
  have lm2 : (-2 : Int32).toInt = -2 := by decide
  have lm1 : (-1 : Int32).toInt = -1 := by decide
  have l0 : (0 : Int32).toInt = 0 := by decide
  have l1 : (1 : Int32).toInt = 1 := by decide
  have l2 : (2 : Int32).toInt = 2 := by decide
  have l5 : (5 : Int32).toInt = 5 := by decide
  have e46 := RS_a hR (i := 46) (j := 34) (by decide)
  have e47 := RS_a hR (i := 47) (j := 35) (by decide)
  have w1 : 0 ≤ a1.toInt → a1.toInt ≤ 5 → 0 ≤ (ga S 46 a1.toNatClampNeg).toInt ∧ 0 ≤ (ga S 47 a1.toNatClampNeg).toInt ∧ (ga S 46 a1.toNatClampNeg).toInt + (ga S 47 a1.toNatClampNeg).toInt ≤ 60 ∧ (ga S 46 a1.toNatClampNeg + 1).toInt64.toInt = (ga S 46 a1.toNatClampNeg).toInt + 1 ∧ (ga S 47 a1.toNatClampNeg + 1).toInt64.toInt = (ga S 47 a1.toNatClampNeg).toInt + 1 ∧ (ga S 46 a1.toNatClampNeg + ga S 47 a1.toNatClampNeg + 2).toInt64.toInt = (ga S 46 a1.toNatClampNeg).toInt + (ga S 47 a1.toNatClampNeg).toInt + 2 := fun h1 h2 => RS_rw hR (cl_lt h1 (n := 6) (by omega)).1
  have w2 : 0 ≤ a1.toInt → a1.toInt ≤ 5 → 0 ≤ (ga M 34 a1.toNatClampNeg).toInt ∧ 0 ≤ (ga M 35 a1.toNatClampNeg).toInt ∧ (ga M 34 a1.toNatClampNeg).toInt + (ga M 35 a1.toNatClampNeg).toInt ≤ 60 ∧ (ga M 34 a1.toNatClampNeg + 1).toInt64.toInt = (ga M 34 a1.toNatClampNeg).toInt + 1 ∧ (ga M 35 a1.toNatClampNeg + 1).toInt64.toInt = (ga M 35 a1.toNatClampNeg).toInt + 1 ∧ (ga M 34 a1.toNatClampNeg + ga M 35 a1.toNatClampNeg + 2).toInt64.toInt = (ga M 34 a1.toNatClampNeg).toInt + (ga M 35 a1.toNatClampNeg).toInt + 2 := by rw [← e46, ← e47]; exact w1
  unfold qX9_weight
  repeat' (first
    | with_reducible exact ⟨rfl, RS_rf hR _⟩
    | unfold qX9_isPart
    | unfold qX8_provedOf
    | with_reducible refine rX9_lowest (by omega) (by omega) (by omega) (fun _ => ?_) (fun _ => ?_)
    | with_reducible refine rX10_side (by omega) (by omega) (fun _ => ?_) (fun _ => ?_)
    | with_reducible refine rX9_isCove (fun _ _ => ?_) (fun _ => ?_)
    | with_reducible refine rX9_isTable (fun _ _ => ?_) (fun _ => ?_)
    | with_reducible refine rX9_isInformer (fun _ _ => ?_) (fun _ => ?_)
    | with_reducible refine rX9_isSeason (fun _ _ => ?_) (fun _ => ?_)
    | with_reducible refine rX9_isBoat (fun _ _ => ?_) (fun _ => ?_)
    | with_reducible refine rX9_isHide (fun _ _ => ?_) (fun _ => ?_)
    | with_reducible refine rX9_refuse 1 (by decide) (by decide) ?_
    | with_reducible refine rX9_refuse 2 (by decide) (by decide) ?_
    | with_reducible refine rX9_refuse 3 (by decide) (by decide) ?_
    | with_reducible refine rX9_refuse 4 (by decide) (by decide) ?_
    | with_reducible refine rX9_refuse 5 (by decide) (by decide) ?_
    | with_reducible refine rX9_refuse 6 (by decide) (by decide) ?_
    | with_reducible refine rX9_refuse 7 (by decide) (by decide) ?_
    | (with_reducible refine rX10_isCove (fun _ _ => ?_) (fun _ => ?_) <;> try (exfalso; omega))
    | (with_reducible refine rX10_in (fun _ _ => ?_) (fun _ => ?_) <;> try (exfalso; omega))
    | with_reducible refine rX10_refuse 1 (by decide) (by decide) ?_
    | with_reducible refine rX10_refuse 2 (by decide) (by decide) ?_
    | with_reducible refine rX10_refuse 3 (by decide) (by decide) ?_
    | with_reducible refine rX10_refuse 4 (by decide) (by decide) ?_
    | with_reducible refine rX10_refuse 5 (by decide) (by decide) ?_
    | with_reducible refine rX10_refuse 6 (by decide) (by decide) ?_
    | with_reducible refine rX10_refuse 7 (by decide) (by decide) ?_
    | (with_reducible refine br_lt (fun _ => ?_) (fun _ => ?_) <;> try (exfalso; omega))
    | (with_reducible refine br_le (fun _ => ?_) (fun _ => ?_) <;> try (exfalso; omega))
    | (with_reducible refine br_eq (fun _ _ => ?_) (fun _ _ => ?_) <;> try (exfalso; omega))
    | with_reducible refine ⟨in_of (by omega) (by omega), ?_⟩
    | (intro S1 e1; subst e1)
    | rw [gi_A]
    | unfold qX10_weight)
  all_goals first | exact absurd (by assumption) (by assumption) | contradiction | exact ⟨by rw [e46, e47], hR⟩

set_option maxHeartbeats 400000 in
theorem s_belief {S M : gS} (hR : RS S M) (a1 : Int32) (a2 : Int32) (a3 : Int32) : qX9_belief S a1 a2 a3 (fun r S' => qX10_belief M a1 a2 a3 (fun r' M' => r = r' ∧ RS S' M')) := by
  have lm6 : (-6 : Int32).toInt = -6 := by decide
  have lm4 : (-4 : Int32).toInt = -4 := by decide
  have lm2 : (-2 : Int32).toInt = -2 := by decide
  have lm1 : (-1 : Int32).toInt = -1 := by decide
  have l0 : (0 : Int32).toInt = 0 := by decide
  have l1 : (1 : Int32).toInt = 1 := by decide
  have l2 : (2 : Int32).toInt = 2 := by decide
  have l6 : (6 : Int32).toInt = 6 := by decide
  have l1000 : (1000 : Int32).toInt = 1000 := by decide
  have i8 := RS_i hR (i := 8) (j := 8) (by decide); have i8t : (gi S 8).toInt = (gi M 8).toInt := by rw [i8]
  have b8 := RS_bi hR (i := 8) (lo := 0) (hi := 60) (by decide)
  have e46 := RS_a hR (i := 46) (j := 34) (by decide)
  have e47 := RS_a hR (i := 47) (j := 35) (by decide)
  have hI : ∀ k, k < 60 → 0 ≤ (ga S 43 k).toInt ∧ (ga S 43 k).toInt ≤ 5 := fun k hk => RS_ba hR (i := 43) (n := 60) (lo := 0) (hi := 5) (by decide) hk
  have c8 : 0 ≤ (gi M 8).toInt ∧ (gi M 8).toInt ≤ 60 := by rw [← i8t]; exact b8
  have tn := tn_ti b8.1
  have hu : ∀ i j, i < j → j < (gi S 8).toNatClampNeg → ¬ (ga S 43 i = ga S 43 j ∧ ga S 44 i = ga S 44 j ∧ ga S 45 i = ga S 45 j) := fun i j h1 h2 => hR.2.2.2.2.2.2.2.2.2.1 i j h1 (by omega)
  have e43 := RS_a hR (i := 43) (j := 31) (by decide)
  have e44 := RS_a hR (i := 44) (j := 32) (by decide)
  have e45 := RS_a hR (i := 45) (j := 33) (by decide)
  have pA1 : prC (fun i => (ga S 47 i.toNatClampNeg + 1).toInt64) (ga S 43) (ga S 44) (ga S 45) a2 a1 (gi S 8).toNatClampNeg = prM (fun i => (ga M 35 i.toNatClampNeg + 1).toInt64) (fun i => tB (ga M 31) (ga M 32) (ga M 33) a2 a1 i (gi M 8).toNatClampNeg) 6 := by rw [pr_eq (fun k hk => hI k (by omega)) hu, e47, e43, e44, e45, i8]
  have pA2 : prC (fun i => (ga S 46 i.toNatClampNeg + ga S 47 i.toNatClampNeg + 2).toInt64) (ga S 43) (ga S 44) (ga S 45) a2 a1 (gi S 8).toNatClampNeg = prM (fun i => (ga M 34 i.toNatClampNeg + ga M 35 i.toNatClampNeg + 2).toInt64) (fun i => tB (ga M 31) (ga M 32) (ga M 33) a2 a1 i (gi M 8).toNatClampNeg) 6 := by rw [pr_eq (fun k hk => hI k (by omega)) hu, e46, e47, e43, e44, e45, i8]
  have g1 := prM_bd (F := fun i => (ga M 35 i.toNatClampNeg + 1).toInt64) (T := fun i => tB (ga M 31) (ga M 32) (ga M 33) a2 a1 i (gi M 8).toNatClampNeg) (m := 6) (Nat.le_refl _) (fun i hi => by have := RS_rw hR hi; rw [e46, e47] at this; show 1 ≤ (ga M 35 (nI i).toNatClampNeg + 1).toInt64.toInt ∧ (ga M 35 (nI i).toNatClampNeg + 1).toInt64.toInt ≤ 62; rw [tN_nI (by omega)]; omega)
  have g2 := prM_bd (F := fun i => (ga M 34 i.toNatClampNeg + ga M 35 i.toNatClampNeg + 2).toInt64) (T := fun i => tB (ga M 31) (ga M 32) (ga M 33) a2 a1 i (gi M 8).toNatClampNeg) (m := 6) (Nat.le_refl _) (fun i hi => by have := RS_rw hR hi; rw [e46, e47] at this; show 1 ≤ (ga M 34 (nI i).toNatClampNeg + ga M 35 (nI i).toNatClampNeg + 2).toInt64.toInt ∧ (ga M 34 (nI i).toNatClampNeg + ga M 35 (nI i).toNatClampNeg + 2).toInt64.toInt ≤ 62; rw [tN_nI (by omega)]; omega)
  have p6 : (62 : Int) ^ 6 = 56800235584 := by decide
  rw [p6] at g1 g2
  have gs := tl_sub (a := prM (fun i => (ga M 34 i.toNatClampNeg + ga M 35 i.toNatClampNeg + 2).toInt64) (fun i => tB (ga M 31) (ga M 32) (ga M 33) a2 a1 i (gi M 8).toNatClampNeg) 6) (b := prM (fun i => (ga M 35 i.toNatClampNeg + 1).toInt64) (fun i => tB (ga M 31) (ga M 32) (ga M 33) a2 a1 i (gi M 8).toNatClampNeg) 6) (by omega) (by omega)
  unfold qX9_belief
  repeat' (first
    | with_reducible exact ⟨rfl, RS_rf hR _⟩
    | unfold qX10_belief_J162
    | unfold qX9_isPart
    | with_reducible refine rX8_doubtAbove b8 hI ?_
    | with_reducible refine rX8_doubtBelow b8 hI ?_
    | with_reducible refine rX10_belief_L c8 ?_
    | (rw [pA1, pA2])
    | with_reducible refine rX9_lowest (by omega) (by omega) (by omega) (fun _ => ?_) (fun _ => ?_)
    | with_reducible refine rX10_side (by omega) (by omega) (fun _ => ?_) (fun _ => ?_)
    | with_reducible refine rX9_isCove (fun _ _ => ?_) (fun _ => ?_)
    | with_reducible refine rX9_isTable (fun _ _ => ?_) (fun _ => ?_)
    | with_reducible refine rX9_isInformer (fun _ _ => ?_) (fun _ => ?_)
    | with_reducible refine rX9_isSeason (fun _ _ => ?_) (fun _ => ?_)
    | with_reducible refine rX9_isBoat (fun _ _ => ?_) (fun _ => ?_)
    | with_reducible refine rX9_isHide (fun _ _ => ?_) (fun _ => ?_)
    | with_reducible refine rX9_refuse 1 (by decide) (by decide) ?_
    | with_reducible refine rX9_refuse 2 (by decide) (by decide) ?_
    | with_reducible refine rX9_refuse 3 (by decide) (by decide) ?_
    | with_reducible refine rX9_refuse 4 (by decide) (by decide) ?_
    | with_reducible refine rX9_refuse 5 (by decide) (by decide) ?_
    | with_reducible refine rX9_refuse 6 (by decide) (by decide) ?_
    | with_reducible refine rX9_refuse 7 (by decide) (by decide) ?_
    | (with_reducible refine rX10_isCove (fun _ _ => ?_) (fun _ => ?_) <;> try (exfalso; omega))
    | (with_reducible refine rX10_in (fun _ _ => ?_) (fun _ => ?_) <;> try (exfalso; omega))
    | with_reducible refine rX10_refuse 1 (by decide) (by decide) ?_
    | with_reducible refine rX10_refuse 2 (by decide) (by decide) ?_
    | with_reducible refine rX10_refuse 3 (by decide) (by decide) ?_
    | with_reducible refine rX10_refuse 4 (by decide) (by decide) ?_
    | with_reducible refine rX10_refuse 5 (by decide) (by decide) ?_
    | with_reducible refine rX10_refuse 6 (by decide) (by decide) ?_
    | with_reducible refine rX10_refuse 7 (by decide) (by decide) ?_
    | (with_reducible refine br_lt (fun _ => ?_) (fun _ => ?_) <;> try (exfalso; omega))
    | (with_reducible refine br_le (fun _ => ?_) (fun _ => ?_) <;> try (exfalso; omega))
    | (with_reducible refine br_eq (fun _ _ => ?_) (fun _ _ => ?_) <;> try (exfalso; omega))
    | with_reducible refine ⟨in_of (by omega) (by omega), ?_⟩
    | (intro S1 e1; subst e1)
    | rw [gi_A]
    | unfold qX10_belief)
  all_goals first | exact absurd (by assumption) (by assumption) | contradiction | exact ⟨rfl, hR⟩ | exact ⟨rfl, RS_rf hR _⟩
