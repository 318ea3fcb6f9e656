/-! sets of hides as numbers -/
/-- sum of f over the places of T under n -/
def bsum (f : Nat → Int) (T : Nat) : Nat → Int
  | 0 => 0
  | n + 1 => bsum f T n + (if T.testBit n then f n else 0)
theorem bsum_lo {f : Nat → Int} {T n : Nat} (h : T < 2 ^ n) : bsum f T (n + 1) = bsum f T n := by
  show bsum f T n + _ = _
  rw [Nat.testBit_lt_two_pow h]
  simp
theorem bsum_cg {f : Nat → Int} {T U n : Nat} (h : ∀ i, i < n → T.testBit i = U.testBit i) : bsum f T n = bsum f U n := by
  induction n with
  | zero => rfl
  | succ n ih => unfold bsum; rw [ih (fun i hi => h i (by omega)), h n (by omega)]
theorem bsum_hi {f : Nat → Int} {T n : Nat} (h : T < 2 ^ n) : bsum f (2 ^ n + T) (n + 1) = bsum f T n + f n := by
  have e : bsum f (2 ^ n + T) n = bsum f T n := bsum_cg fun i hi => Nat.testBit_two_pow_add_gt hi T
  show bsum f (2 ^ n + T) n + _ = _
  rw [e, Nat.testBit_two_pow_add_eq, Nat.testBit_lt_two_pow h]
  simp
theorem set_cs {T n : Nat} (h : T < 2 ^ (n + 1)) : T < 2 ^ n ∨ ∃ U, U < 2 ^ n ∧ T = 2 ^ n + U := by
  rcases Nat.lt_or_ge T (2 ^ n) with z | z
  · exact .inl z
  · refine .inr ⟨T - 2 ^ n, ?_, ?_⟩ <;> omega
/-- v is the most that s adds up to within j of c -/
def mxS (c s : Nat → Int) (h : Nat) (j v : Int) : Prop := (∃ T : Nat, T < 2 ^ h ∧ bsum c T h ≤ j ∧ bsum s T h = v) ∧ ∀ T : Nat, T < 2 ^ h → bsum c T h ≤ j → bsum s T h ≤ v
theorem bsum_nn {c : Nat → Int} {T n : Nat} (h : ∀ i, i < n → 0 ≤ c i) : 0 ≤ bsum c T n := by
  induction n with
  | zero => exact Int.le_refl _
  | succ n ih =>
    have := ih fun i hi => h i (by omega)
    have := h n (by omega)
    unfold bsum
    by_cases q : T.testBit n = true
    · rw [if_pos q]; omega
    · rw [if_neg q]; omega
theorem mxS_zero {c s : Nat → Int} {j : Int} (hj : 0 ≤ j) : mxS c s 0 j 0 := ⟨⟨0, Nat.one_pos, hj, rfl⟩, fun _ _ _ => Int.le_refl _⟩
theorem mxS_out {c s : Nat → Int} {h : Nat} {j v : Int} (hc : ∀ i, i < h → 0 ≤ c i) (hj : j < c h) (m : mxS c s h j v) : mxS c s (h + 1) j v := by
  obtain ⟨⟨T, t1, t2, t3⟩, m2⟩ := m
  refine ⟨⟨T, by rw [Nat.pow_succ]; omega, by rw [bsum_lo t1]; exact t2, by rw [bsum_lo t1]; exact t3⟩, fun U hU hc2 => ?_⟩
  rcases set_cs hU with z | ⟨V, z, rfl⟩
  · rw [bsum_lo z] at hc2 ⊢
    exact m2 U z hc2
  · rw [bsum_hi z] at hc2
    have := bsum_nn (T := V) hc
    omega
theorem mxS_in {c s : Nat → Int} {h : Nat} {j v w : Int} (m : mxS c s h j v) (m' : mxS c s h (j - c h) w) : mxS c s (h + 1) j (if w + s h < v then v else w + s h) := by
  obtain ⟨⟨T, t1, t2, t3⟩, m2⟩ := m
  obtain ⟨⟨T', t1', t2', t3'⟩, m2'⟩ := m'
  refine ⟨?_, fun U hU hc2 => ?_⟩
  · by_cases q : w + s h < v
    · rw [if_pos q]
      exact ⟨T, by rw [Nat.pow_succ]; omega, by rw [bsum_lo t1]; exact t2, by rw [bsum_lo t1]; exact t3⟩
    · rw [if_neg q]
      exact ⟨2 ^ h + T', by rw [Nat.pow_succ]; omega, by rw [bsum_hi t1']; omega, by rw [bsum_hi t1', t3']⟩
  · have hv : v ≤ (if w + s h < v then v else w + s h) := by
      by_cases q : w + s h < v
      · rw [if_pos q]; omega
      · rw [if_neg q]; omega
    have hw : w + s h ≤ (if w + s h < v then v else w + s h) := by
      by_cases q : w + s h < v
      · rw [if_pos q]; omega
      · rw [if_neg q]; omega
    rcases set_cs hU with z | ⟨V, z, rfl⟩
    · rw [bsum_lo z] at hc2 ⊢
      have := m2 U z hc2
      omega
    · rw [bsum_hi z] at hc2 ⊢
      have := m2' V z (by omega)
      omega
/-- a set's score in its three parts -/
theorem bsum_score {g : Nat → Int} {T n : Nat} (h : T < 2 ^ n) : bsum (fun i => g i * 1048576 - 8192 - ((2 ^ i : Nat) : Int)) T n = bsum g T n * 1048576 - bsum (fun _ => 1) T n * 8192 - (T : Int) := by
  induction n generalizing T with
  | zero => have : T = 0 := by omega
            subst this; rfl
  | succ n ih =>
    rcases set_cs h with z | ⟨U, z, rfl⟩
    · rw [bsum_lo z, bsum_lo z, bsum_lo z]; exact ih z
    · rw [bsum_hi z, bsum_hi z, bsum_hi z, ih z]; omega
theorem bsum_bd {c : Nat → Int} {T n : Nat} {m : Int} (hm : 0 ≤ m) (h : ∀ i, i < n → 0 ≤ c i ∧ c i ≤ m) : bsum c T n ≤ m * n := by
  induction n with
  | zero => exact Int.le_of_eq (Int.mul_zero m).symm
  | succ n ih =>
    have := ih fun i hi => h i (by omega)
    have := h n (by omega)
    have e : m * ((n + 1 : Nat) : Int) = m * n + m := by rw [Int.natCast_succ, Int.mul_add, Int.mul_one]
    rw [e]
    unfold bsum
    by_cases q : T.testBit n = true
    · rw [if_pos q]; omega
    · rw [if_neg q]; omega
/-- which of two sets the document likes better -/
theorem score_le {g : Nat → Int} {T U n : Nat} (hn : n ≤ 12) (hT : T < 2 ^ n) (hU : U < 2 ^ n) (h : bsum (fun i => g i * 1048576 - 8192 - ((2 ^ i : Nat) : Int)) T n ≤ bsum (fun i => g i * 1048576 - 8192 - ((2 ^ i : Nat) : Int)) U n) : bsum g T n < bsum g U n ∨ (bsum g T n = bsum g U n ∧ (bsum (fun _ => 1) U n < bsum (fun _ => 1) T n ∨ (bsum (fun _ => 1) U n = bsum (fun _ => 1) T n ∧ U ≤ T))) := by
  rw [bsum_score hT, bsum_score hU] at h
  have p : (2 : Nat) ^ n ≤ 2 ^ 12 := Nat.pow_le_pow_right (by decide) hn
  have p2 : (2 : Nat) ^ 12 = 4096 := by decide
  have a1 := bsum_nn (c := fun _ => 1) (T := T) (n := n) (fun _ _ => by decide)
  have a2 := bsum_nn (c := fun _ => 1) (T := U) (n := n) (fun _ _ => by decide)
  have b1 := bsum_bd (c := fun _ => 1) (T := T) (n := n) (m := 1) (by decide) (fun _ _ => ⟨by decide, by decide⟩)
  have b2 := bsum_bd (c := fun _ => 1) (T := U) (n := n) (m := 1) (by decide) (fun _ _ => ⟨by decide, by decide⟩)
  generalize bsum g T n = x1 at *
  generalize bsum g U n = x2 at *
  generalize bsum (fun _ => 1) T n = y1 at *
  generalize bsum (fun _ => 1) U n = y2 at *
  omega
