/-! a night: words are proved -/
def cntE (I N : Nat → Int32) (i t : Int32) : Nat → Nat
  | 0 => 0
  | n + 1 => cntE I N i t n + (if I n = i ∧ N n = t then 1 else 0)
theorem cnt_split {I N : Nat → Int32} {i t : Int32} {n : Nat} : cntL I N i t n + cntE I N i t n = cntW I N i t n := by
  induction n with
  | zero => rfl
  | succ n ih =>
    unfold cntL cntE cntW
    by_cases q : I n = i
    · by_cases q2 : N n = t
      · have a : ¬ N n < t := fun z => by rw [q2] at z; have := Int32.lt_iff_toInt_lt.mp z; omega
        have b : N n ≤ t := by rw [q2]; exact Int32.le_refl _
        rw [if_neg (fun z => a z.2), if_pos ⟨q, q2⟩, if_pos ⟨q, b⟩]
        omega
      · by_cases q3 : N n < t
        · have b : N n ≤ t := Int32.le_iff_toInt_le.mpr (Int.le_of_lt (Int32.lt_iff_toInt_lt.mp q3))
          rw [if_pos ⟨q, q3⟩, if_neg (fun z => q2 z.2), if_pos ⟨q, b⟩]
          omega
        · have b : ¬ N n ≤ t := fun z => by
            have z := Int32.le_iff_toInt_le.mp z
            have q3 : ¬ (N n).toInt < t.toInt := fun w => q3 (Int32.lt_iff_toInt_lt.mpr w)
            exact q2 (Int32.toInt_inj.mp (by omega))
          rw [if_neg (fun z => q3 z.2), if_neg (fun z => q2 z.2), if_neg (fun z => b z.2)]
          omega
    · rw [if_neg (fun z => q z.1), if_neg (fun z => q z.1), if_neg (fun z => q z.1)]
      omega
theorem cntE_le {I N : Nat → Int32} {i t : Int32} {k n : Nat} (h : k ≤ n) : cntE I N i t k ≤ cntE I N i t n := by
  induction n with
  | zero => rw [show k = 0 by omega]; exact Nat.le_refl _
  | succ n ih =>
    by_cases q : k = n + 1
    · rw [q]; exact Nat.le_refl _
    · have := ih (by omega)
      show _ ≤ cntE I N i t n + _
      omega
def RWk (k : Nat) (S : gS) : Prop := ∀ i : Nat, i < 6 → 0 ≤ (ga S 46 i).toInt ∧ 0 ≤ (ga S 47 i).toInt ∧ (ga S 46 i).toInt + (ga S 47 i).toInt ≤ ((cntL (ga S 43) (ga S 44) (nI i) (gi S 0) (gi S 8).toNatClampNeg + cntE (ga S 43) (ga S 44) (nI i) (gi S 0) k : Nat) : Int)
theorem RWk_RW {k : Nat} {S : gS} (h : RWk k S) (hk : k ≤ (gi S 8).toNatClampNeg) : RW S := by
  intro i hi
  have := h i hi
  have c := cntE_le (I := ga S 43) (N := ga S 44) (i := nI i) (t := gi S 0) hk
  have s := cnt_split (I := ga S 43) (N := ga S 44) (i := nI i) (t := gi S 0) (n := (gi S 8).toNatClampNeg)
  omega
/-- the guesses behind a word that was right -/
def gsF (g cv : Nat → Int32) (c : Int32) (n : Nat) : Nat → Int32 := fun h => if h < n ∧ cv h = c then (if g h + 10 < 999 then g h + 10 else 999) else g h
theorem gsF_n {g cv : Nat → Int32} {c : Int32} {n : Nat} (q : ¬ cv n = c) : gsF g cv c n = gsF g cv c (n + 1) := by
  funext j
  unfold gsF
  by_cases z : j = n
  · subst z; simp [q]
  · by_cases z2 : j < n
    · simp [z2, show j < n + 1 by omega]
    · simp [z2, show ¬ j < n + 1 by omega]
theorem gsF_y {g cv : Nat → Int32} {c : Int32} {n : Nat} {v : Int32} (q : cv n = c) (hv : v = if g n + 10 < 999 then g n + 10 else 999) : upd (gsF g cv c n) n v = gsF g cv c (n + 1) := by
  funext j
  unfold upd gsF
  by_cases z : j = n
  · subst z; simp [q, hv]
  · by_cases z2 : j < n
    · simp [z, z2, show j < n + 1 by omega]
    · simp [z, z2, show ¬ j < n + 1 by omega]
theorem gsF_at {g cv : Nat → Int32} {c : Int32} {n : Nat} : gsF g cv c n n = g n := by simp [gsF]
theorem rX3_suspect {S : gS} {c : Int32} {Q : gS → Prop} (hb : 0 ≤ (gi S 5).toInt ∧ (gi S 5).toInt ≤ 12) (h : Q (sA S 32 (gsF (ga S 32) (ga S 29) c (gi S 5).toNatClampNeg))) : qX3_suspect S c Q := by
  have tn := tn_ti hb.1
  refine lp_up (gi S 5).toNatClampNeg (fun k a => a = (nI k, sA S 32 (gsF (ga S 32) (ga S 29) c k))) ?_ _ ?_
  · rintro K k _ hk rfl hK
    have e : (nI k).toInt = k := nI_ti (by omega)
    refine br_le (fun q => ?_) (fun q => ?_)
    · have q : (gi S 5).toInt ≤ (nI k).toInt := q
      obtain rfl : k = (gi S 5).toNatClampNeg := by omega
      exact h
    · have q : (nI k).toInt < (gi S 5).toInt := q
      refine ⟨in_of (by omega) (by omega), ?_⟩
      rw [tN_nI (by omega), ga_at, ga_ne (by decide), gsF_at]
      refine ⟨fun q2 => ?_, fun q2 => ?_⟩
      · rintro S5 rfl x rfl
        rw [nI_1, sA_sA, gsF_y q2 rfl]
        exact hK _ (by omega) rfl
      · rintro x rfl
        rw [nI_1, gsF_n q2]
        exact hK _ (by omega) rfl
  · have : gsF (ga S 32) (ga S 29) c 0 = ga S 32 := by funext j; simp [gsF]
    rw [this, sA_self]; rfl
theorem rX10_guess {M : gS} {v1 c : Int32} {Q : gS → Prop} {K2 : Int32 × gS → Prop} (hb : 0 ≤ (gi M 3).toInt ∧ (gi M 3).toInt ≤ 12) (hg : ∀ k, k < 12 → (ga M 16 k).toInt ≤ 999) (hc : 0 ≤ c.toInt ∧ c.toInt ≤ 5) (hcm : ¬ ga M 27 c.toNatClampNeg = 0) (h : K2 (v1 + 1, sA M 16 (gsF (ga M 16) (ga M 13) c (gi M 3).toNatClampNeg))) : lp (qX10_prove_L91 Q K2) (v1, c, 0, M) := by
  have tn := tn_ti hb.1
  have l999 : (999 : Int32).toInt = 999 := by decide
  refine lp_up (gi M 3).toNatClampNeg (fun k a => a = (v1, c, nI k, sA M 16 (gsF (ga M 16) (ga M 13) c k))) ?_ _ ?_
  · rintro K k _ hk rfl hK
    have e : (nI k).toInt = k := nI_ti (by omega)
    refine br_le (fun q => ?_) (fun q => ?_)
    · have q : (gi M 3).toInt ≤ (nI k).toInt := q
      obtain rfl : k = (gi M 3).toNatClampNeg := by omega
      rintro x rfl
      exact h
    · have q : (nI k).toInt < (gi M 3).toInt := q
      refine ⟨in_of hc.1 (by omega), ?_⟩
      rw [tN_nI (by omega), ga_at, ga_ne (by decide), ga_ne (by decide), gsF_at]
      refine ⟨fun z => absurd z hcm, fun _ => ⟨in_of (by omega) (by omega), fun q2 => ?_, fun q2 => ?_⟩⟩
      · refine br_le (fun q3 => ⟨in_of (by omega) (by omega), ?_⟩) (fun q3 => ⟨in_of (by omega) (by omega), ?_⟩)
        · rw [tN_nI (by omega)]
          rintro S5 rfl x rfl
          rw [nI_1, ga_at, sA_sA, gsF_y q2 ?_]
          · exact hK _ (by omega) rfl
          · split
            · rfl
            · rename_i z
              have z : ¬ (ga M 16 k + 10).toInt < (999 : Int32).toInt := fun w => z (Int32.lt_iff_toInt_lt.mpr w)
              exact Int32.toInt_inj.mp (by omega)
        · rw [tN_nI (by omega)]
          rintro S5 rfl x rfl
          rw [nI_1, ga_at, sA_sA, gsF_y q2 ?_]
          · exact hK _ (by omega) rfl
          · rw [if_neg (fun z => by have := Int32.lt_iff_toInt_lt.mp z; omega)]
      · refine br_le (fun q3 => ⟨in_of (by omega) (by omega), ?_⟩) (fun q3 => ?_)
        · rw [tN_nI (by omega)]
          rintro S5 rfl x rfl
          rw [nI_1, ga_at, sA_sA, upd_eq (by rw [gsF_at]), gsF_n q2]
          exact hK _ (by omega) rfl
        · have := hg k (by omega)
          omega
  · have : gsF (ga M 16) (ga M 13) c 0 = ga M 16 := by funext j; simp [gsF]
    rw [this, sA_self]; rfl
theorem rX10_noguess {M : gS} {v1 c : Int32} {Q : gS → Prop} {K2 : Int32 × gS → Prop} (hb : 0 ≤ (gi M 3).toInt) (hc : 0 ≤ c.toInt ∧ c.toInt ≤ 5) (hcm : ga M 27 c.toNatClampNeg = 0) (h : K2 (v1 + 1, M)) : lp (qX10_prove_L91 Q K2) (v1, c, 0, M) := by
  refine lp_up 1 (fun k a => k = 0 ∧ a = (v1, c, (0 : Int32), M)) ?_ _ ⟨rfl, rfl⟩
  rintro K k _ hk ⟨rfl, rfl⟩ hK
  refine ⟨fun _ => ?_, fun _ => ⟨in_of hc.1 (by omega), fun _ => ?_, fun z => absurd hcm z⟩⟩
  · rintro x rfl; exact h
  · rintro x rfl; exact h
theorem rX5_cameTo {S : gS} {c t : Int32} {Q : Int32 → gS → Prop} (hb : 0 ≤ (gi S 6).toInt ∧ (gi S 6).toInt ≤ 100) (h : Q (if cmB (ga S 37) (ga S 36) c t (gi S 6).toNatClampNeg then 1 else 0) S) : qX5_cameTo S c t Q := by
  have tn := tn_ti hb.1
  refine lp_up (gi S 6).toNatClampNeg (fun k a => a = (nI k, S) ∧ cmB (ga S 37) (ga S 36) c t k = false) ?_ _ ⟨rfl, rfl⟩
  rintro K k _ hk ⟨rfl, hf⟩ hK
  have e : (nI k).toInt = k := nI_ti (by omega)
  refine br_le (fun q => ?_) (fun q => ⟨in_of (by omega) (by omega), ?_⟩)
  · obtain rfl : k = (gi S 6).toNatClampNeg := by omega
    rw [hf] at h
    exact h
  · rw [tN_nI (by omega)]
    refine ⟨fun q1 => ⟨fun q2 => ?_, fun q2 => ?_⟩, fun q1 => ?_⟩
    · rw [cmB_iff.mpr ⟨k, by omega, q1, q2⟩] at h
      exact h
    · rintro x rfl
      rw [nI_1]
      exact hK _ (by omega) ⟨rfl, by simp [cmB, hf, q1, q2]⟩
    · rintro x rfl
      rw [nI_1]
      exact hK _ (by omega) ⟨rfl, by simp [cmB, hf, q1]⟩
