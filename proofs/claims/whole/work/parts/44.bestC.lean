/-! the class's table of best scores -/
theorem bsum_b2 {c : Nat → Int} {T n : Nat} (h : ∀ i, i < n → -2000000000 ≤ c i ∧ c i ≤ 2000000000) : -(2000000000 * (n : Int)) ≤ bsum c T n ∧ bsum c T n ≤ 2000000000 * (n : Int) := by
  induction n with
  | zero => exact ⟨Int.le_refl _, Int.le_refl _⟩
  | succ n ih =>
    have := ih fun i hi => h i (by omega)
    have := h n (by omega)
    unfold bsum
    by_cases q : T.testBit n = true
    · rw [if_pos q]; omega
    · rw [if_neg q]; omega
theorem sh20 : ∀ g : Fin 1000, ((nI g.val).toInt64 <<< ((20 : Int32).toInt64 &&& 63)).toInt = (g.val : Int) * 1048576 := by decide +kernel
theorem sh1 : ∀ h : Fin 12, ((1 : Int64) <<< ((nI h.val).toInt64 &&& 63)).toInt = ((2 ^ h.val : Nat) : Int) := by decide +kernel
theorem p12 : ∀ h : Fin 12, 2 ^ h.val ≤ 2048 := by decide
theorem mask_set {x : Int64} {q : Int} {T : Nat} (hT : T < 4096) (h : x.toInt = 8192 * q + T) : (x &&& (8191 : Int64)).toInt32 = nI T := by
  have e : x.toBitVec.toNat % 8192 = T := by
    have h1 : x.toInt = x.toBitVec.toInt := rfl
    rw [BitVec.toInt_eq_toNat_cond] at h1
    split at h1 <;> omega
  have e2 : (x &&& (8191 : Int64)).toBitVec.toNat = T := by
    rw [Int64.toBitVec_and, BitVec.toNat_and, show (8191 : Int64).toBitVec.toNat = 2 ^ 13 - 1 from by decide, Nat.and_two_pow_sub_one_eq_mod]
    exact e
  refine Int32.toBitVec_inj.mp (BitVec.eq_of_toNat_eq ?_)
  rw [Int64.toBitVec_toInt32, BitVec.signExtend_eq_setWidth_of_le _ (by decide), BitVec.toNat_setWidth, e2]
  show T % 2 ^ 32 = T % 2 ^ 32
  rfl
theorem mxS_bd {c s : Nat → Int} (hs : ∀ k, k < 12 → -2000000000 ≤ s k ∧ s k ≤ 2000000000) {k : Nat} {j v : Int} (hk : k ≤ 12) (m : mxS c s k j v) : -24000000000 ≤ v ∧ v ≤ 24000000000 := by
  obtain ⟨⟨T, t1, t2, t3⟩, -⟩ := m
  have := bsum_b2 (c := s) (T := T) (n := k) (fun i hi => hs i (by omega))
  omega
theorem gain_ti {x : Int32} {h0 : Nat} (hh : h0 < 12) (hg : 0 ≤ x.toInt ∧ x.toInt ≤ 999) : (((x.toInt64 <<< ((20 : Int32).toInt64 &&& 63)) - (8192 : Int64)) - ((1 : Int64) <<< ((nI h0).toInt64 &&& 63))).toInt = x.toInt * 1048576 - 8192 - ((2 ^ h0 : Nat) : Int) := by
  have l8192 : (8192 : Int64).toInt = 8192 := by decide
  have s1 : ((1 : Int64) <<< ((nI h0).toInt64 &&& 63)).toInt = ((2 ^ h0 : Nat) : Int) := sh1 ⟨h0, hh⟩
  have q : 2 ^ h0 ≤ 2048 := p12 ⟨h0, hh⟩
  obtain ⟨w, hw⟩ : ∃ w : Nat, x.toInt = w := ⟨x.toInt.toNat, by omega⟩
  have s2 : (x.toInt64 <<< ((20 : Int32).toInt64 &&& 63)).toInt = x.toInt * 1048576 := by
    have := sh20 ⟨w, by omega⟩
    rw [hw, of_ti hw]
    exact this
  generalize ((1 : Int64) <<< ((nI h0).toInt64 &&& 63)) = p at s1 ⊢
  generalize (x.toInt64 <<< ((20 : Int32).toInt64 &&& 63)) = r at s2 ⊢
  generalize 2 ^ h0 = z at q s1 ⊢
  have s3 : (r - (8192 : Int64)).toInt = x.toInt * 1048576 - 8192 := by
    rw [tl_sub, s2, l8192] <;> rw [s2, l8192] <;> omega
  rw [tl_sub, s3, s1] <;> rw [s3, s1] <;> omega
theorem vL_at {f : Nat → Int64} {k : Nat} {w : Int64} : vp_updL f k w k = w := if_pos rfl
theorem vL_ne {f : Nat → Int64} {k j : Nat} {w : Int64} (h : j ≠ k) : vp_updL f k w j = f j := if_neg h
theorem rX3_L60 {S : gS} {a1 : Int32} {Q : Int32 → gS → Prop} {K29 : Int32 × Int32 × gS → Prop} {c s : Nat → Int} {h0 : Nat} {gain : Int64} {f : Nat → Int64} (hh : h0 < 12) (ha : 0 ≤ a1.toInt ∧ a1.toInt ≤ 100) (hc : ∀ k, k < 12 → (ga S 31 k).toInt = c k) (hcb : ∀ k, k < 12 → 0 ≤ c k ∧ c k ≤ 20) (hs : ∀ k, k < 12 → -2000000000 ≤ s k ∧ s k ≤ 2000000000) (eg : gain.toInt = s h0) (hf : ∀ j : Nat, (j : Int) ≤ a1.toInt → mxS c s h0 j (f j).toInt)
    (kk : ∀ f' : Nat → Int64, (∀ j : Nat, (j : Int) ≤ a1.toInt → mxS c s (h0 + 1) j (f' j).toInt) → K29 (a1, nI (h0 + 1), sC S f')) : lp (qX3_bestSet_L60 a1 Q K29) (a1, nI h0, gain, a1, sC S f) := by
  have lm1 : (-1 : Int32).toInt = -1 := by decide
  have ta := tn_ti ha.1
  refine lp_up (a1.toNatClampNeg + 1) (fun k a => ∃ (f : Nat → Int64) (v : Int32), v.toInt = a1.toInt - k ∧ (∀ j : Nat, (j : Int) ≤ a1.toInt → (v.toInt < j → mxS c s (h0 + 1) j (f j).toInt) ∧ ((j : Int) ≤ v.toInt → mxS c s h0 j (f j).toInt)) ∧ a = (a1, nI h0, gain, v, sC S f)) ?_ _ ⟨f, a1, by omega, fun j hj => ⟨fun z => absurd hj (Int.not_le.mpr z), fun _ => hf j hj⟩, rfl⟩
  rintro K3 k3 _ hk3 ⟨f, v, ev, hf, rfl⟩ hK3
  have h0i := nI_ti (n := h0) (by omega)
  show vp_in (nI h0) 12 ∧ ((v < ga S 31 (nI h0).toNatClampNeg → ∀ x3 : Int32, x3 = nI h0 + (1 : Int32) → K29 (a1, x3, sC S f)) ∧ (¬ v < ga S 31 (nI h0).toNatClampNeg → vp_in v 101 ∧ (vp_in (v - ga S 31 (nI h0).toNatClampNeg) 101 ∧ ∀ S6 : gS, S6 = sC (sC S f) (vp_updL f v.toNatClampNeg (if f (v - ga S 31 (nI h0).toNatClampNeg).toNatClampNeg + gain < f v.toNatClampNeg then f v.toNatClampNeg else f (v - ga S 31 (nI h0).toNatClampNeg).toNatClampNeg + gain)) → ∀ x7 : Int32, x7 = v + (-1 : Int32) → K3 (a1, nI h0, gain, x7, S6))))
  rw [tN_nI (k := h0) (by omega)]
  have ec := hc h0 hh
  have hc0 := hcb h0 hh
  have hs0 := hs h0 hh
  generalize ga S 31 h0 = cc at ec ⊢
  refine ⟨in_of (by omega) (by omega), br_lt (fun q3 => ?_) (fun q3 => ?_)⟩
  · rintro x rfl
    rw [show nI h0 + (1 : Int32) = nI (h0 + 1) from (nI_succ h0).symm]
    refine kk f (fun j hj => ?_)
    rcases Int.lt_or_le v.toInt j with z | z
    · exact (hf j hj).1 z
    · exact mxS_out (fun i hi => (hcb i (by omega)).1) (by omega) ((hf j hj).2 z)
  · obtain ⟨d, hd⟩ : ∃ d : Int32, d = v - cc := ⟨_, rfl⟩
    rw [← hd]
    have ed : d.toInt = v.toInt - c h0 := by
      rw [hd, ti_sub, ec] <;> rw [ec] <;> omega
    clear hd
    have tv := tn_ti (show 0 ≤ v.toInt by omega)
    have td := tn_ti (show 0 ≤ d.toInt by omega)
    refine ⟨in_of (by omega) (by omega), in_of (by omega) (by omega), ?_⟩
    rintro S6 rfl x ex
    have e5 : x.toInt = v.toInt - 1 := by
      rw [ex, ti_add] <;> rw [lm1] <;> omega
    clear ex
    have m := (hf v.toNatClampNeg (by omega)).2 (by omega)
    have m' := (hf d.toNatClampNeg (by omega)).2 (by omega)
    generalize d.toNatClampNeg = dd at td m' ⊢
    generalize v.toNatClampNeg = vv at tv m ⊢
    have b := mxS_bd hs (by omega) m
    have b' := mxS_bd hs (by omega) m'
    rw [show (dd : Int) = (vv : Int) - c h0 by omega] at m'
    have r := mxS_in m m'
    obtain ⟨w, ew⟩ : ∃ w : Int64, w = f dd + gain := ⟨_, rfl⟩
    have ea : w.toInt = (f dd).toInt + s h0 := by
      rw [ew, tl_add, eg] <;> rw [eg] <;> omega
    rw [← ew]
    clear ew
    refine hK3 _ (by omega) ⟨vp_updL f vv (if w < f vv then f vv else w), x, by omega, fun j hj => ⟨fun z => ?_, fun z => ?_⟩, rfl⟩
    · by_cases q4 : j = vv
      · subst q4
        rw [vL_at]
        by_cases q5 : w < f j
        · have q6 : (f dd).toInt + s h0 < (f j).toInt := by rw [← ea]; exact Int64.lt_iff_toInt_lt.mp q5
          rw [if_pos q5]
          rw [if_pos q6] at r
          exact r
        · have q6 : ¬ (f dd).toInt + s h0 < (f j).toInt := by rw [← ea]; exact fun z => q5 (Int64.lt_iff_toInt_lt.mpr z)
          rw [if_neg q5]
          rw [if_neg q6, ← ea] at r
          exact r
      · rw [vL_ne q4]
        exact (hf j hj).1 (by omega)
    · rw [vL_ne (by omega)]
      exact (hf j hj).2 (by omega)
theorem rX3_L29 {S : gS} {a1 : Int32} {Q : Int32 → gS → Prop} {c g : Nat → Int} {n : Nat} {f : Nat → Int64} (hn : gi S 5 = nI n) (hn12 : n ≤ 12) (ha : 0 ≤ a1.toInt ∧ a1.toInt ≤ 100) (hc : ∀ k, k < 12 → (ga S 31 k).toInt = c k) (hcb : ∀ k, k < 12 → 0 ≤ c k ∧ c k ≤ 20) (hg : ∀ k, k < 12 → (ga S 32 k).toInt = g k) (hgb : ∀ k, k < 12 → 0 ≤ g k ∧ g k ≤ 999) (hf : ∀ j : Nat, (j : Int) ≤ a1.toInt → f j = 0)
    (h : ∀ (f : Nat → Int64) (T : Nat), T < 2 ^ n → bsum c T n ≤ a1.toInt → (∀ U, U < 2 ^ n → bsum c U n ≤ a1.toInt → bsum (fun i => g i * 1048576 - 8192 - ((2 ^ i : Nat) : Int)) U n ≤ bsum (fun i => g i * 1048576 - 8192 - ((2 ^ i : Nat) : Int)) T n) → Q (nI T) (sC S f)) : lp (qX3_bestSet_L29 a1 Q) (a1, (0 : Int32), sC S f) := by
  have l0 : (0 : Int32).toInt = 0 := by decide
  have l64 : (0 : Int64).toInt = 0 := by decide
  have ta := tn_ti ha.1
  have p : (2 : Nat) ^ n ≤ 2 ^ 12 := Nat.pow_le_pow_right (by decide) hn12
  have p2 : (2 : Nat) ^ 12 = 4096 := by decide
  obtain ⟨s, es⟩ : ∃ s : Nat → Int, s = fun i => g i * 1048576 - 8192 - ((2 ^ i : Nat) : Int) := ⟨_, rfl⟩
  have hs : ∀ k, k < 12 → -2000000000 ≤ s k ∧ s k ≤ 2000000000 := by
    intro i hi
    have h1 := hgb i hi
    have q : 2 ^ i ≤ 2048 := p12 ⟨i, hi⟩
    rw [es]
    show -2000000000 ≤ g i * 1048576 - 8192 - ((2 ^ i : Nat) : Int) ∧ g i * 1048576 - 8192 - ((2 ^ i : Nat) : Int) ≤ 2000000000
    generalize 2 ^ i = z at q ⊢
    omega
  rw [← es] at h
  have en := nI_ti (n := n) (by omega)
  refine lp_up n (fun k a => ∃ f : Nat → Int64, (∀ j : Nat, (j : Int) ≤ a1.toInt → mxS c s k j (f j).toInt) ∧ a = (a1, nI k, sC S f)) ?_ _ ⟨f, fun j hj => by rw [hf j hj, l64]; exact mxS_zero (by omega), rfl⟩
  rintro K2 h0 _ hh ⟨f, hf, rfl⟩ hK2
  have eh := nI_ti (n := h0) (by omega)
  show (gi S 5 ≤ nI h0 → ((0 ≤ a1 → vp_in a1 101 ∧ Q ((-(f a1.toNatClampNeg)) &&& (8191 : Int64)).toInt32 (sC S f)) ∧ (¬ 0 ≤ a1 → Q (0 : Int32) (sC S f)))) ∧ (¬ gi S 5 ≤ nI h0 → vp_in (nI h0) 12 ∧ ∀ x12 : Int64, x12 = ((((ga S 32 (nI h0).toNatClampNeg).toInt64 <<< ((20 : Int32).toInt64 &&& 63)) - (8192 : Int64)) - ((1 : Int64) <<< ((nI h0).toInt64 &&& 63))) → lp (qX3_bestSet_L60 a1 Q K2) (a1, nI h0, x12, a1, sC S f))
  rw [hn, tN_nI (k := h0) (by omega)]
  refine br_le (fun q2 => ?_) (fun q2 => ?_)
  · obtain rfl : h0 = n := by omega
    refine br_le (fun _ => ⟨in_of (by omega) (by omega), ?_⟩) (fun z => ?_)
    · have m := hf a1.toNatClampNeg (by omega)
      rw [ta] at m
      have b := mxS_bd hs (by omega) m
      obtain ⟨⟨T, t1, t2, t3⟩, m2⟩ := m
      have sc := bsum_score (g := g) t1
      rw [← es] at sc
      have e3 : (-(f a1.toNatClampNeg)).toInt = 8192 * (bsum (fun _ => 1) T h0 - 128 * bsum g T h0) + T := by
        rw [tl_neg (by omega), ← t3, sc]
        omega
      rw [mask_set (by omega) e3]
      exact h f T t1 t2 (fun U u1 u2 => by rw [t3]; exact m2 U u1 u2)
    · omega
  · refine ⟨in_of (by omega) (by omega), ?_⟩
    rintro gain eg
    have eg0 := hg h0 (by omega)
    have gb := hgb h0 (by omega)
    have eg2 : gain.toInt = s h0 := by
      rw [eg, gain_ti (by omega) (by omega), eg0, es]
    exact rX3_L60 (by omega) ha hc hcb hs eg2 hf (fun f' hf' => hK2 _ (by omega) ⟨f', hf', rfl⟩)
theorem rX3_bestSet {S : gS} {a1 : Int32} {Q : Int32 → gS → Prop} {c g : Nat → Int} {n : Nat} (hn : gi S 5 = nI n) (hn12 : n ≤ 12) (ha : 0 ≤ a1.toInt ∧ a1.toInt ≤ 100) (hc : ∀ k, k < 12 → (ga S 31 k).toInt = c k) (hcb : ∀ k, k < 12 → 0 ≤ c k ∧ c k ≤ 20) (hg : ∀ k, k < 12 → (ga S 32 k).toInt = g k) (hgb : ∀ k, k < 12 → 0 ≤ g k ∧ g k ≤ 999)
    (h : ∀ (f : Nat → Int64) (T : Nat), T < 2 ^ n → bsum c T n ≤ a1.toInt → (∀ U, U < 2 ^ n → bsum c U n ≤ a1.toInt → bsum (fun i => g i * 1048576 - 8192 - ((2 ^ i : Nat) : Int)) U n ≤ bsum (fun i => g i * 1048576 - 8192 - ((2 ^ i : Nat) : Int)) T n) → Q (nI T) (sC S f)) : qX3_bestSet S a1 Q := by
  have l100 : (100 : Int32).toInt = 100 := by decide
  have ta := tn_ti ha.1
  rintro v rfl
  have e1 : (if (100 : Int32) < a1 then (100 : Int32) else a1) = a1 := by
    rw [if_neg]
    intro z
    have := Int32.lt_iff_toInt_lt.mp z
    omega
  rw [e1]
  refine lp_up (a1.toNatClampNeg + 1) (fun k a => ∃ f : Nat → Int64, (∀ j, j < k → f j = 0) ∧ a = (a1, nI k, sC S f)) ?_ _ ⟨gc S, fun j hj => by omega, rfl⟩
  rintro K k _ hk ⟨f, hf, rfl⟩ hK
  have ek := nI_ti (n := k) (by omega)
  show (a1 < nI k → lp (qX3_bestSet_L29 a1 Q) (a1, (0 : Int32), sC S f)) ∧ (¬ a1 < nI k → vp_in (nI k) 101 ∧ ∀ S14 : gS, S14 = sC (sC S f) (vp_updL f (nI k).toNatClampNeg (0 : Int64)) → ∀ x16 : Int32, x16 = nI k + (1 : Int32) → K (a1, x16, S14))
  rw [tN_nI (k := k) (by omega)]
  refine br_lt (fun q => ?_) (fun q => ⟨in_of (by omega) (by omega), ?_⟩)
  · exact rX3_L29 hn hn12 ha hc hcb hg hgb (fun j hj => hf j (by omega)) h
  · rintro S2 rfl x rfl
    rw [show nI k + (1 : Int32) = nI (k + 1) from (nI_succ k).symm]
    refine hK _ (by omega) ⟨vp_updL f k 0, fun j hj => ?_, rfl⟩
    by_cases z : j = k
    · rw [z, vL_at]
    · rw [vL_ne z]; exact hf j (by omega)
