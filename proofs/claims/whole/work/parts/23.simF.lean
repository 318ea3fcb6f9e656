/-! search -/
set_option maxHeartbeats 400000 in
theorem s_search {S M : gS} (hR : RS S M) (a1 : Int32) : qX9_search S a1 (fun r S' => qX10_search M a1 (fun r' M' => r = r' ∧ RS S' M')) := by
  have lm1 : (-1 : Int32).toInt = -1 := by decide
  have l0 : (0 : Int32).toInt = 0 := by decide
  have l1 : (1 : Int32).toInt = 1 := by decide
  have l2 : (2 : Int32).toInt = 2 := by decide
  have i6 := RS_i hR (i := 6) (j := 4) (by decide); have i6t : (gi S 6).toInt = (gi M 4).toInt := by rw [i6]
  have b6 := RS_bi hR (i := 6) (lo := 0) (hi := 100) (by decide)
  have i5 := RS_i hR (i := 5) (j := 3) (by decide); have i5t : (gi S 5).toInt = (gi M 3).toInt := by rw [i5]
  have b5 := RS_bi hR (i := 5) (lo := 0) (hi := 12) (by decide)
  have i7 := RS_i hR (i := 7) (j := 7) (by decide); have i7t : (gi S 7).toInt = (gi M 7).toInt := by rw [i7]
  have b7 := RS_bi hR (i := 7) (lo := 0) (hi := 20) (by decide)
  have m5 : (gi M 3 - 1).toInt = (gi M 3).toInt - 1 := ti_sub (by omega) (by omega)
  have c6 : 0 ≤ (gi M 4).toInt ∧ (gi M 4).toInt ≤ 100 := by rw [← i6t]; exact b6
  have c7 : 0 ≤ (gi M 7).toInt ∧ (gi M 7).toInt ≤ 20 := by rw [← i7t]; exact b7
  have tn := tn_ti b6.1
  have eg : gC S = gM M := by unfold gC gM; rw [RS_i hR (i := 3) (j := 6) (by decide), RS_i hR (i := 0) (j := 1) (by decide), i7, RS_a hR (i := 40) (j := 28) (by decide), RS_a hR (i := 41) (j := 29) (by decide), RS_a hR (i := 42) (j := 30) (by decide)]
  have sc := srch_congr (P := ga S 38) (Hd := ga S 39) (Hd2 := ga M 22) (C := ga S 35) (a := a1) (W := ga S 1) (n := (gi S 6).toNatClampNeg) (fun k hk q => ((hR.2.2.2.2.2.2.1 k (by omega)).2 (by rw [q]; decide)).symm) eg
  unfold qX9_search
  repeat' (first
    | with_reducible exact ⟨rfl, RS_rf hR _⟩
    | with_reducible refine rX9_search_L ⟨by omega, by omega⟩ b6 b7 ?_
    | with_reducible refine rX10_search_L ⟨by omega, by omega⟩ c6 c7 ?_
    | with_reducible refine rX9_isCove (fun _ _ => ?_) (fun _ => ?_)
    | with_reducible refine rX9_isTable (fun _ _ => ?_) (fun _ => ?_)
    | with_reducible refine rX9_isInformer (fun _ _ => ?_) (fun _ => ?_)
    | with_reducible refine rX9_isSeason (fun _ _ => ?_) (fun _ => ?_)
    | with_reducible refine rX9_isBoat (fun _ _ => ?_) (fun _ => ?_)
    | with_reducible refine rX9_isHide (fun _ _ => ?_) (fun _ => ?_)
    | with_reducible refine rX9_refuse 1 (by decide) (by decide) ?_
    | with_reducible refine rX9_refuse 2 (by decide) (by decide) ?_
    | with_reducible refine rX9_refuse 3 (by decide) (by decide) ?_
    | with_reducible refine rX9_refuse 4 (by decide) (by decide) ?_
    | with_reducible refine rX9_refuse 5 (by decide) (by decide) ?_
    | with_reducible refine rX9_refuse 6 (by decide) (by decide) ?_
    | with_reducible refine rX9_refuse 7 (by decide) (by decide) ?_
    | (with_reducible refine rX10_isCove (fun _ _ => ?_) (fun _ => ?_) <;> try (exfalso; omega))
    | (with_reducible refine rX10_in (fun _ _ => ?_) (fun _ => ?_) <;> try (exfalso; omega))
    | with_reducible refine rX10_refuse 1 (by decide) (by decide) ?_
    | with_reducible refine rX10_refuse 2 (by decide) (by decide) ?_
    | with_reducible refine rX10_refuse 3 (by decide) (by decide) ?_
    | with_reducible refine rX10_refuse 4 (by decide) (by decide) ?_
    | with_reducible refine rX10_refuse 5 (by decide) (by decide) ?_
    | with_reducible refine rX10_refuse 6 (by decide) (by decide) ?_
    | with_reducible refine rX10_refuse 7 (by decide) (by decide) ?_
    | (with_reducible refine br_lt (fun _ => ?_) (fun _ => ?_) <;> try (exfalso; omega))
    | (with_reducible refine br_le (fun _ => ?_) (fun _ => ?_) <;> try (exfalso; omega))
    | (with_reducible refine br_eq (fun _ _ => ?_) (fun _ _ => ?_) <;> try (exfalso; omega))
    | with_reducible refine ⟨in_of (by omega) (by omega), ?_⟩
    | (intro S1 e1; subst e1)
    | rw [gi_A]
    | unfold qX10_search)
  all_goals first | (rw [← RS_a hR (i := 38) (j := 21) (by decide), ← RS_a hR (i := 35) (j := 18) (by decide), ← RS_a hR (i := 1) (j := 39) (by decide), ← i6, ← sc.1, ← sc.2.1, ← sc.2.2]; exact ⟨rfl, RS_search hR ⟨by omega, by omega⟩ rfl⟩)
