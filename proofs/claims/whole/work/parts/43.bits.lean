/-! bits of a set; how many there are -/
theorem bsum_ext {f : Nat → Int} {T n m : Nat} (h : T < 2 ^ n) (hm : n ≤ m) : bsum f T m = bsum f T n := by
  induction m with
  | zero => have : n = 0 := by omega
            subst this; rfl
  | succ m ih =>
    by_cases q : n = m + 1
    · subst q; rfl
    · have h2 : n ≤ m := by omega
      rw [bsum_lo (Nat.lt_of_lt_of_le h (Nat.pow_le_pow_right (by decide) h2)), ih h2]
theorem bsum_step {f : Nat → Int} {T n : Nat} : bsum f T (n + 1) = bsum f T n + (if T.testBit n then f n else 0) := rfl
theorem bsum_zero {f : Nat → Int} {n : Nat} : bsum f 0 n = 0 := by
  induction n with
  | zero => rfl
  | succ n ih => rw [bsum_step, ih, Nat.zero_testBit]; rfl
def pcN (T : Nat) : Nat → Nat
  | 0 => 0
  | n + 1 => pcN T n + T / 2 ^ n % 2
theorem pcN_le {T n : Nat} : pcN T n ≤ n := by
  induction n with
  | zero => exact Nat.le_refl _
  | succ n ih => unfold pcN; omega
theorem pcN_up {T n : Nat} : pcN T (n + 1) = T % 2 + pcN (T / 2) n := by
  induction n with
  | zero => show 0 + T / 2 ^ 0 % 2 = T % 2 + 0
            rw [Nat.pow_zero, Nat.div_one]; omega
  | succ n ih =>
    show pcN T (n + 1) + T / 2 ^ (n + 1) % 2 = T % 2 + (pcN (T / 2) n + T / 2 / 2 ^ n % 2)
    rw [ih, Nat.div_div_eq_div_mul, Nat.pow_succ, Nat.mul_comm 2 (2 ^ n)]
    omega
theorem pcN_half {T : Nat} (h : T < 4096) : pcN T 12 = T % 2 + pcN (T / 2) 12 := by
  have h1 : pcN T (12 + 1) = T % 2 + pcN (T / 2) 12 := pcN_up
  have h2 : pcN T (12 + 1) = pcN T 12 + T / 2 ^ 12 % 2 := rfl
  have h3 : (2 : Nat) ^ 12 = 4096 := by decide
  rw [h3, Nat.div_eq_of_lt h] at h2
  omega
theorem pcN_zero : pcN 0 12 = 0 := by decide
theorem pcN_bsum {T n : Nat} : bsum (fun _ => 1) T n = (pcN T n : Int) := by
  induction n with
  | zero => rfl
  | succ n ih =>
    rw [bsum_step, ih, Nat.testBit_eq_decide_div_mod_eq]
    show _ = ((pcN T n + T / 2 ^ n % 2 : Nat) : Int)
    generalize T / 2 ^ n = z
    by_cases q : z % 2 = 1
    · simp [q]
    · have : z % 2 = 0 := by omega
      simp [this]
theorem bsum_pc {T n m : Nat} (h : T < 2 ^ n) (hm : n ≤ m) : pcN T m = pcN T n := by
  have h1 := bsum_ext (f := fun _ => 1) h hm
  rw [pcN_bsum, pcN_bsum] at h1
  omega
theorem sm12 : ∀ i : Fin 12, ((nI i.val &&& 31).toBitVec.smod 32).toNat = i.val := by decide +kernel
theorem shr_ti {x : Int32} {i : Nat} (hi : i < 12) : (x >>> (nI i &&& 31)).toInt = x.toInt >>> i := by
  have e : ((nI i &&& 31).toBitVec.smod 32).toNat = i := sm12 ⟨i, hi⟩
  show (x.toBitVec.sshiftRight ((nI i &&& 31).toBitVec.smod 32).toNat).toInt = _
  rw [e, BitVec.toInt_sshiftRight]
  rfl
theorem nI_bv {m : Nat} : (nI m).toBitVec.toNat = m % 2 ^ 32 := rfl
theorem and1 {m : Nat} (hm : m < 2147483648) : (nI m &&& (1 : Int32)) = nI (m % 2) := by
  refine Int32.toBitVec_inj.mp (BitVec.eq_of_toNat_eq ?_)
  rw [Int32.toBitVec_and, BitVec.toNat_and, nI_bv, nI_bv, show (1 : Int32).toBitVec.toNat = 1 from by decide, Nat.and_one_is_mod]
  omega
theorem bit_at {T i : Nat} (hT : T < 4096) (hi : i < 12) : (((nI T >>> (nI i &&& 31)) &&& (1 : Int32)) = (1 : Int32)) ↔ T.testBit i = true := by
  have e1 : (nI T >>> (nI i &&& 31)).toInt = ((T / 2 ^ i : Nat) : Int) := by
    rw [shr_ti hi, nI_ti (by omega), ← Nat.shiftRight_eq_div_pow]
    rfl
  have hle : T / 2 ^ i ≤ T := Nat.div_le_self _ _
  rw [of_ti e1, and1 (by omega), Nat.testBit_eq_decide_div_mod_eq]
  generalize T / 2 ^ i = z at hle
  rcases (show z % 2 = 0 ∨ z % 2 = 1 by omega) with q | q
  · rw [q]; decide
  · rw [q]; decide
theorem shl_n : ∀ n : Fin 13, ((1 : Int32) <<< (nI n.val &&& 31)) = nI (2 ^ n.val) := by decide +kernel
theorem rX10_ones {S : gS} {T : Nat} {Q : Int32 → gS → Prop} (hT : T < 4096) (h : Q (nI (pcN T 12)) S) : qX10_ones S (nI T) Q := by
  have l0 : (0 : Int32).toInt = 0 := by decide
  have l2 : (2 : Int32).toInt = 2 := by decide
  refine lp_inv (fun a => ∃ t n : Nat, t < 4096 ∧ n + pcN t 12 = pcN T 12 ∧ a = (nI n, nI t, S)) (fun a => a.2.1.toNatClampNeg) ?_ _ ⟨T, 0, hT, by omega, rfl⟩
  rintro K a ⟨t, n, ht, hn, rfl⟩ hK
  have et := nI_ti (n := t) (by omega)
  have hb := pcN_le (T := T) (n := 12)
  refine br_le (fun q => ?_) (fun q => ?_)
  · have q : (nI t).toInt ≤ (0 : Int32).toInt := q
    have z : t = 0 := by omega
    subst z
    rw [pcN_zero] at hn
    have hn : n = pcN T 12 := by omega
    rw [← hn] at h
    exact h
  · have q : (0 : Int32).toInt < (nI t).toInt := q
    have hh := pcN_half ht
    rintro x rfl y rfl
    have e1 : (nI t - nI t / 2 * 2).toInt = t % 2 := by rw [ti_rem (by omega) (by omega), et, l2]
    have e2 : (nI t / 2).toInt = (t / 2 : Nat) := by rw [ti_div (by omega) (by omega), et, l2]; omega
    have e3 : (nI n + (nI t - nI t / 2 * 2)).toInt = (n + t % 2 : Nat) := by
      have := nI_ti (n := n) (by omega)
      rw [ti_add] <;> rw [e1, this] <;> omega
    refine hK _ ⟨t / 2, n + t % 2, by omega, by omega, ?_⟩ ?_
    · rw [of_ti e3, of_ti e2]
    · show (nI t / 2).toNatClampNeg < (nI t).toNatClampNeg
      rw [of_ti e2, tN_nI (by omega), tN_nI (by omega)]
      omega
