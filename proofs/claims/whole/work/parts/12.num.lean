/-! numbers: what Int32's own operations are where nothing goes round -/
theorem bm {x : Int} (h1 : -2147483648 ≤ x) (h2 : x < 2147483648) : x.bmod (2 ^ 32) = x := by
  rw [Int.bmod_def, show ((2 ^ 32 : Nat) : Int) = 4294967296 from rfl]
  split <;> omega
theorem ti_add {a b : Int32} (h1 : -2147483648 ≤ a.toInt + b.toInt) (h2 : a.toInt + b.toInt < 2147483648) : (a + b).toInt = a.toInt + b.toInt := by
  rw [Int32.toInt_add, bm h1 h2]
theorem ti_sub {a b : Int32} (h1 : -2147483648 ≤ a.toInt - b.toInt) (h2 : a.toInt - b.toInt < 2147483648) : (a - b).toInt = a.toInt - b.toInt := by
  rw [Int32.toInt_sub, bm h1 h2]
theorem ti_mul {a b : Int32} (h1 : -2147483648 ≤ a.toInt * b.toInt) (h2 : a.toInt * b.toInt < 2147483648) : (a * b).toInt = a.toInt * b.toInt := by
  rw [Int32.toInt_mul, bm h1 h2]
theorem ti_neg {a : Int32} (h1 : -2147483648 < a.toInt) : (-a).toInt = -a.toInt := by
  have := Int32.toInt_lt a
  rw [Int32.toInt_neg, bm (by omega) (by omega)]
theorem nI_ti {n : Nat} (h : n < 2147483648) : (nI n).toInt = (n : Int) := nI_toInt h
theorem of_ti {x : Int32} {n : Nat} (h : x.toInt = n) : x = nI n := by
  have hb : x.toInt < 2 ^ 31 := Int32.toInt_lt x
  refine Int32.toInt_inj.mp ?_
  rw [nI_toInt (by omega), h]
theorem ex_nI {x : Int32} (h : 0 ≤ x.toInt) : ∃ n : Nat, n < 2147483648 ∧ x = nI n ∧ x.toInt = n ∧ x.toNatClampNeg = n := by
  have hb : x.toInt < 2 ^ 31 := Int32.toInt_lt x
  obtain ⟨h1, h2, h3⟩ := cl_lt (n := 2147483648) h (by omega)
  exact ⟨x.toNatClampNeg, h1, h3, by omega, rfl⟩
theorem tn_ti {x : Int32} (h : 0 ≤ x.toInt) : (x.toNatClampNeg : Int) = x.toInt := by
  obtain ⟨n, -, -, h1, h2⟩ := ex_nI h
  omega
/-- the place n a + b -/
theorem ix2 {a b c : Int32} {n : Nat} (hc : c.toInt = n) (ha : 0 ≤ a.toInt) (hb : 0 ≤ b.toInt) {N : Nat} (h : n * a.toInt + b.toInt < N) (hN : N < 2147483648) : vp_in (c * a + b) N ∧ (c * a + b).toNatClampNeg = n * a.toNatClampNeg + b.toNatClampNeg := by
  have e0 : 0 ≤ (n : Int) * a.toInt := Int.mul_nonneg (by omega) ha
  have e1 : (c * a).toInt = n * a.toInt := by rw [ti_mul] <;> rw [hc] <;> omega
  have e2 : (c * a + b).toInt = n * a.toInt + b.toInt := by rw [ti_add] <;> rw [e1] <;> omega
  refine ⟨in_of (by omega) (by omega), ?_⟩
  have h1 := tn_ti ha
  have h2 := tn_ti hb
  have h3 := tn_ti (x := c * a + b) (by omega)
  have h4 : ((n * a.toNatClampNeg + b.toNatClampNeg : Nat) : Int) = n * a.toInt + b.toInt := by
    push_cast
    rw [h1, h2]
  omega
/-- the rest of a division by d above 0 -/
theorem ti_rem {a d : Int32} (ha : 0 ≤ a.toInt) (hd : 0 < d.toInt) : (a - a / d * d).toInt = a.toInt % d.toInt := by
  obtain ⟨n, hn, e1, e2, -⟩ := ex_nI ha
  obtain ⟨k, hk, f1, f2, -⟩ := ex_nI (x := d) (by omega)
  rw [e2, f2, e1, f1, pk_rem (by omega) (by omega) (by omega), nI_ti (Nat.lt_of_le_of_lt (Nat.mod_le _ _) hn)]
  rfl
theorem ti_div {a d : Int32} (ha : 0 ≤ a.toInt) (hd : 0 < d.toInt) : (a / d).toInt = a.toInt / d.toInt := by
  obtain ⟨n, hn, e1, e2, -⟩ := ex_nI ha
  obtain ⟨k, hk, f1, f2, -⟩ := ex_nI (x := d) (by omega)
  rw [e2, f2, e1, f1, pk_div (by omega) (by omega) (by omega), nI_ti (Nat.lt_of_le_of_lt (Nat.div_le_self _ _) hn)]
  rfl
theorem upd_eq {f : Nat → Int32} {k : Nat} {v : Int32} (h : v = f k) : upd f k v = f := by
  funext j
  unfold upd
  split
  · rename_i q; rw [h, q]
  · rfl
theorem upd_at {f : Nat → Int32} {k : Nat} {v : Int32} : upd f k v k = v := if_pos rfl
theorem upd_ne {f : Nat → Int32} {k j : Nat} {v : Int32} (h : j ≠ k) : upd f k v j = f j := if_neg h
theorem sA_sA {S : gS} {k : Nat} {f g : Nat → Int32} : sA (sA S k f) k g = sA S k g := by
  unfold sA
  simp only [Prod.mk.injEq, true_and, and_true]
  funext j
  split <;> simp_all
theorem sA_self {S : gS} {k : Nat} : sA S k (ga S k) = S := by
  obtain ⟨a, b, c, d⟩ := S
  unfold sA ga
  simp only [Prod.mk.injEq, true_and, and_true]
  funext j
  split
  · rename_i q; rw [q]
  · rfl
theorem ga_at {S : gS} {k : Nat} {f : Nat → Int32} : ga (sA S k f) k = f := if_pos rfl
theorem tN_nI {k : Nat} (h : k < 2147483648) : (nI k).toNatClampNeg = k := nI_clamp h
