/-! common divisors: both of Euclid's loops -/
theorem cmp_eq0 {x : Int64} : lg_cmp x 0 = 0 ↔ x = 0 := by
  unfold lg_cmp
  by_cases h : x > 0
  · rw [if_pos h]
    refine ⟨fun q => absurd q (by decide), fun q => ?_⟩
    rw [q] at h
    exact absurd h (by decide)
  · rw [if_neg h]
    by_cases h2 : x = 0
    · rw [if_pos h2]; exact ⟨fun _ => h2, fun _ => rfl⟩
    · rw [if_neg h2]; exact ⟨fun q => absurd q (by decide), fun q => absurd q h2⟩
theorem cmp_gt {x : Int64} : 0 < lg_cmp x 0 ↔ 0 < x := by
  unfold lg_cmp
  by_cases h : x > 0
  · rw [if_pos h]; exact ⟨fun _ => h, fun _ => by decide⟩
  · rw [if_neg h]
    by_cases h2 : x = 0
    · rw [if_pos h2]; exact ⟨fun q => absurd q (by decide), fun q => absurd q h⟩
    · rw [if_neg h2]; exact ⟨fun q => absurd q (by decide), fun q => absurd q h⟩
theorem cmp_ge {x : Int64} : 0 ≤ lg_cmp x 0 ↔ 0 ≤ x.toInt := by
  unfold lg_cmp
  have e0 : (0 : Int64).toInt = 0 := by decide
  by_cases h : x > 0
  · rw [if_pos h]
    have := Int64.lt_iff_toInt_lt.mp h
    exact ⟨fun _ => by omega, fun _ => by decide⟩
  · rw [if_neg h]
    have h3 : ¬ (0 : Int64).toInt < x.toInt := fun q => h (Int64.lt_iff_toInt_lt.mpr q)
    by_cases h2 : x = 0
    · rw [if_pos h2]; exact ⟨fun _ => by rw [h2]; decide, fun _ => by decide⟩
    · rw [if_neg h2]
      have h4 : x.toInt ≠ (0 : Int64).toInt := fun q => h2 (Int64.toInt_inj.mp q)
      exact ⟨fun q => absurd q (by decide), fun q => by omega⟩
theorem lN_0 {n : Nat} (h : n < 2 ^ 63) : lN n = 0 ↔ n = 0 := by
  have e := pk_lT h
  constructor
  · intro q
    rw [q, show (0 : Int64).toInt = 0 from by decide] at e
    omega
  · intro q; rw [q]; rfl
theorem lN_ab {a : Int64} (h : 0 ≤ a.toInt) : a = lN a.toInt.natAbs := by
  have hb : a.toInt < 2 ^ 63 := Int64.toInt_lt a
  refine Int64.toInt_inj.mp ?_
  rw [pk_lT (by omega)]
  omega
theorem bm6 {x : Int} (h1 : -9223372036854775808 ≤ x) (h2 : x < 9223372036854775808) : x.bmod (2 ^ 64) = x := by
  rw [Int.bmod_def, show ((2 ^ 64 : Nat) : Int) = 18446744073709551616 from rfl]
  split <;> omega
theorem tl_neg {a : Int64} (h1 : -9223372036854775808 < a.toInt) : (-a).toInt = -a.toInt := by
  have := Int64.toInt_lt a
  rw [Int64.toInt_neg, bm6 (by omega) (by omega)]
theorem tl_add {a b : Int64} (h1 : -9223372036854775808 ≤ a.toInt + b.toInt) (h2 : a.toInt + b.toInt < 9223372036854775808) : (a + b).toInt = a.toInt + b.toInt := by
  rw [Int64.toInt_add, bm6 h1 h2]
theorem tl_sub {a b : Int64} (h1 : -9223372036854775808 ≤ a.toInt - b.toInt) (h2 : a.toInt - b.toInt < 9223372036854775808) : (a - b).toInt = a.toInt - b.toInt := by
  rw [Int64.toInt_sub, bm6 h1 h2]
theorem tl_mul {a b : Int64} (h1 : -9223372036854775808 ≤ a.toInt * b.toInt) (h2 : a.toInt * b.toInt < 9223372036854775808) : (a * b).toInt = a.toInt * b.toInt := by
  rw [Int64.toInt_mul, bm6 h1 h2]
theorem gcd_half {u v : Nat} (h : v < u) (hv : 0 < v) : 2 * (v * (u % v)) < u * v := by
  have h1 : u % v < v := Nat.mod_lt _ hv
  have h2 : v + u % v ≤ u := by
    have h3 := Nat.div_add_mod u v
    have h4 : 1 ≤ u / v := (Nat.one_le_div_iff hv).mpr (Nat.le_of_lt h)
    have h5 : v * 1 ≤ v * (u / v) := Nat.mul_le_mul_left v h4
    omega
  have h6 : (v + u % v) * v ≤ u * v := Nat.mul_le_mul_right v h2
  have h7 : v * (u % v) + v ≤ v * v := by
    have := Nat.mul_le_mul_left v (Nat.succ_le_of_lt h1)
    rw [Nat.mul_succ] at this
    exact this
  rw [Nat.add_mul, Nat.mul_comm (u % v) v] at h6
  omega
theorem gcd_step (u v : Nat) : Nat.gcd v (u % v) = Nat.gcd u v := by
  rw [Nat.gcd_comm u v, Nat.gcd_rec v u, Nat.gcd_comm]
theorem rX9_commonDivisor {S : gS} {x y : Nat} {Q : Int64 → gS → Prop} (hx : x < 2 ^ 63) (hy : y < 2 ^ 49) (h : Q (lN (Nat.gcd x y)) S) : qX9_commonDivisor S (lN x) (lN y) Q := by
  have l100 : (100 : Int32).toInt = 100 := by decide
  refine lp_up 100 (fun k a => ∃ u v : Nat, a = (lN u, lN v, nI k, S) ∧ u < 2 ^ 63 ∧ v < 2 ^ 63 ∧ Nat.gcd u v = Nat.gcd x y ∧ (k = 0 ∧ v < 2 ^ 49 ∨ 1 ≤ k ∧ k ≤ 99 ∧ v < u ∧ u * v < 2 ^ (99 - k))) ?_ _ ⟨x, y, rfl, hx, by omega, rfl, Or.inl ⟨rfl, hy⟩⟩
  rintro K k _ hk ⟨u, v, rfl, hu, hv, hg, hc⟩ hK
  have e : (nI k).toInt = k := nI_ti (by omega)
  refine br_le (fun c => by omega) (fun c => ⟨fun q => ?_, fun q => ⟨fun z => q (cmp_eq0.mpr z), ?_⟩⟩)
  · have v0 := (lN_0 hv).mp (cmp_eq0.mp q)
    subst v0
    rw [Nat.gcd_zero_right] at hg
    rw [hg]; exact h
  · have v0 : 0 < v := Nat.pos_of_ne_zero (fun z => q (cmp_eq0.mpr ((lN_0 hv).mpr z)))
    rintro w rfl t rfl
    rw [pk_lRem hu v0 hv, nI_1]
    have hr : u % v < v := Nat.mod_lt _ v0
    refine hK _ (by omega) ⟨v, u % v, rfl, hv, by omega, by rw [gcd_step]; exact hg, Or.inr ?_⟩
    rcases hc with ⟨k0, hv2⟩ | ⟨k1, k2, hvu, hp⟩
    · subst k0
      refine ⟨by omega, by omega, hr, ?_⟩
      have : v * (u % v) < 2 ^ 49 * 2 ^ 49 := Nat.mul_lt_mul'' hv2 (by omega)
      rw [← Nat.pow_add] at this
      exact this
    · have hh := gcd_half hvu v0
      have k3 : k ≤ 98 := by
        rcases Nat.lt_or_ge k 99 with z | z
        · omega
        · exfalso
          rw [show 99 - k = 0 by omega] at hp
          have : 1 * 1 ≤ u * v := Nat.mul_le_mul (by omega) v0
          omega
      refine ⟨by omega, by omega, hr, ?_⟩
      rw [show 99 - k = (99 - (k + 1)) + 1 by omega, Nat.pow_succ] at hp
      omega
theorem rX10_divisor_L {M : gS} {x y : Nat} {a b : Int64} {Q : Int64 → gS → Prop} (hx : x < 2 ^ 63) (hy : y < 2 ^ 63) (h : Q (lN (Nat.gcd x y)) M) : lp (qX10_divisor_L17 a b Q) (lN x, lN y, M) := by
  refine lp_inv (fun a => ∃ u v : Nat, a = (lN u, lN v, M) ∧ u < 2 ^ 63 ∧ v < 2 ^ 63 ∧ Nat.gcd u v = Nat.gcd x y) (fun a => a.2.1.toInt.natAbs) ?_ _ ⟨x, y, rfl, hx, hy, rfl⟩
  rintro K _ ⟨u, v, rfl, hu, hv, hg⟩ hK
  refine ⟨fun q => ?_, fun q => ⟨fun z => q (cmp_eq0.mpr z), ?_⟩⟩
  · have v0 := (lN_0 hv).mp (cmp_eq0.mp q)
    subst v0
    rw [Nat.gcd_zero_right] at hg
    rw [hg]; exact h
  · have v0 : 0 < v := Nat.pos_of_ne_zero (fun z => q (cmp_eq0.mpr ((lN_0 hv).mpr z)))
    rintro w rfl
    rw [pk_lRem hu v0 hv]
    have hr : u % v < v := Nat.mod_lt _ v0
    refine hK _ ⟨v, u % v, rfl, hv, by omega, by rw [gcd_step]; exact hg⟩ ?_
    show (lN (u % v)).toInt.natAbs < (lN v).toInt.natAbs
    rw [pk_lT (by omega), pk_lT hv]
    omega
/-- the divisor that both find -/
def gN (a b : Int64) : Int64 := lN (Nat.gcd a.toInt.natAbs b.toInt.natAbs)
theorem gN_pos {a b : Int64} (hb : 0 < b.toInt) : 0 < (gN a b).toInt := by
  have h1 : 0 < Nat.gcd a.toInt.natAbs b.toInt.natAbs := Nat.gcd_pos_of_pos_right _ (by omega)
  have h2 : Nat.gcd a.toInt.natAbs b.toInt.natAbs ≤ b.toInt.natAbs := Nat.le_of_dvd (by omega) (Nat.gcd_dvd_right _ _)
  have hb2 : b.toInt < 2 ^ 63 := Int64.toInt_lt b
  unfold gN
  rw [pk_lT (by omega)]
  omega
theorem rX9_lowest {S : gS} {a b : Int64} {p : Int32} {Q : Int64 → gS → Prop} (ha : -9223372036854775808 < a.toInt) (hb : 0 < b.toInt) (hb2 : b.toInt < 562949953421312) (h1 : p = 0 → Q (a / gN a b) S) (h2 : ¬ p = 0 → Q (b / gN a b) S) : qX9_lowest S a b p Q := by
  have e0 : (0 : Int64).toInt = 0 := by decide
  have eb : b = lN b.toInt.natAbs := lN_ab (by omega)
  have ha2 : a.toInt < 2 ^ 63 := Int64.toInt_lt a
  have J : ∀ s : Int64, 0 ≤ s.toInt → s.toInt.natAbs = a.toInt.natAbs → qX9_lowest_J12 a b p Q (s, S) := by
    intro s hs hsa
    show qX9_commonDivisor S s b _
    have key : ∀ R : Int64 → gS → Prop, R (gN a b) S → qX9_commonDivisor S s b R := by
      intro R hR
      rw [lN_ab hs, eb, hsa]
      have : s.toInt < 2 ^ 63 := Int64.toInt_lt s
      exact rX9_commonDivisor (by omega) (by omega) hR
    refine key _ ?_
    have gp := gN_pos (a := a) hb
    have g0 : ¬ gN a b = 0 := fun z => by rw [z] at gp; omega
    refine ⟨fun _ => ⟨fun q => ⟨g0, h1 q⟩, fun q => ⟨g0, h2 q⟩⟩, fun q => absurd (cmp_gt.mpr (Int64.lt_iff_toInt_lt.mpr (by omega))) q⟩
  refine ⟨fun q => J a (cmp_ge.mp q) rfl, fun q => ?_⟩
  have an : a.toInt < 0 := by
    rcases Int.lt_or_le a.toInt 0 with z | z
    · exact z
    · exact absurd (cmp_ge.mpr z) q
  have en := tl_neg ha
  exact J (-a) (by omega) (by omega)
theorem rX10_side {S : gS} {a b : Int64} {p : Int32} {Q : Int64 → gS → Prop} (ha : -9223372036854775808 < a.toInt) (hb : 0 < b.toInt) (h1 : p = 0 → Q (a / gN a b) S) (h2 : ¬ p = 0 → Q (b / gN a b) S) : qX10_side S a b p Q := by
  have e0 : (0 : Int64).toInt = 0 := by decide
  have eb : b = lN b.toInt.natAbs := lN_ab (by omega)
  have ha2 : a.toInt < 2 ^ 63 := Int64.toInt_lt a
  have hb2 : b.toInt < 2 ^ 63 := Int64.toInt_lt b
  have gp := gN_pos (a := a) hb
  have g0 : ¬ gN a b = 0 := fun z => by rw [z] at gp; omega
  have J : ∀ (R : Int64 → gS → Prop) (s : Int64), 0 ≤ s.toInt → s.toInt.natAbs = a.toInt.natAbs → R (gN a b) S → lp (qX10_divisor_L17 a b R) (s, b, S) := by
    intro R s hs hsa hR
    have hs2 : s.toInt < 2 ^ 63 := Int64.toInt_lt s
    have := rX10_divisor_L (M := S) (x := s.toInt.natAbs) (y := b.toInt.natAbs) (a := a) (b := b) (Q := R) (by omega) (by omega) (by rw [hsa]; exact hR)
    rwa [← lN_ab hs, ← eb] at this
  refine ⟨fun q => J _ a (cmp_ge.mp q) rfl ⟨fun q => ⟨g0, h1 q⟩, fun q => ⟨g0, h2 q⟩⟩, fun q => ?_⟩
  have an : a.toInt < 0 := by
    rcases Int.lt_or_le a.toInt 0 with z | z
    · exact z
    · exact absurd (cmp_ge.mpr z) q
  have en := tl_neg ha
  rintro x rfl
  exact J _ (-a) (by omega) (by omega) ⟨fun q => ⟨g0, h1 q⟩, fun q => ⟨g0, h2 q⟩⟩
