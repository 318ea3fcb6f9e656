/-! the class's table of best scores -/
theorem bsum_b2 {c : Nat → Int} {T n : Nat} (h : ∀ i, i < n → -2000000000 ≤ c i ∧ c i ≤ 2000000000) : -(2000000000 * (n : Int)) ≤ bsum c T n ∧ bsum c T n ≤ 2000000000 * (n : Int) := by
  induction n with
  | zero => exact ⟨Int.le_refl _, Int.le_refl _⟩
  | succ n ih =>
    have := ih fun i hi => h i (by omega)
    have := h n (by omega)
    unfold bsum
    by_cases q : T.testBit n = true
    · rw [if_pos q]; omega
    · rw [if_neg q]; omega
theorem sh20 : ∀ g : Fin 1000, ((nI g.val).toInt64 <<< ((20 : Int32).toInt64 &&& 63)).toInt = (g.val : Int) * 1048576 := by decide +kernel
theorem sh1 : ∀ h : Fin 12, ((1 : Int64) <<< ((nI h.val).toInt64 &&& 63)).toInt = ((2 ^ h.val : Nat) : Int) := by decide +kernel
theorem p12 : ∀ h : Fin 12, 2 ^ h.val ≤ 2048 := by decide
theorem mask_set {x : Int64} {q : Int} {T : Nat} (hT : T < 4096) (h : x.toInt = 8192 * q + T) : (x &&& (8191 : Int64)).toInt32 = nI T := by
  have e : x.toBitVec.toNat % 8192 = T := by
    have h1 : x.toInt = x.toBitVec.toInt := rfl
    rw [BitVec.toInt_eq_toNat_cond] at h1
    split at h1 <;> omega
  have e2 : (x &&& (8191 : Int64)).toBitVec.toNat = T := by
    rw [Int64.toBitVec_and, BitVec.toNat_and, show (8191 : Int64).toBitVec.toNat = 2 ^ 13 - 1 from by decide, Nat.and_two_pow_sub_one_eq_mod]
    exact e
  refine Int32.toBitVec_inj.mp (BitVec.eq_of_toNat_eq ?_)
  rw [Int64.toBitVec_toInt32, BitVec.signExtend_eq_setWidth_of_le _ (by decide), BitVec.toNat_setWidth, e2]
  show T % 2 ^ 32 = T % 2 ^ 32
  rfl
abbrev cC (S : gS) : Nat → Int := fun i => (ga S 31 i).toInt
abbrev gW (S : gS) : Nat → Int := fun i => (ga S 32 i).toInt
abbrev sS (S : gS) : Nat → Int := fun i => gW S i * 1048576 - 8192 - ((2 ^ i : Nat) : Int)
theorem rX3_bestSet {S : gS} {a1 : Int32} {Q : Int32 → gS → Prop} (ha : 0 ≤ a1.toInt ∧ a1.toInt ≤ 100) (hn : 0 ≤ (gi S 5).toInt ∧ (gi S 5).toInt ≤ 12) (hc : ∀ k, k < 12 → 0 ≤ (ga S 31 k).toInt ∧ (ga S 31 k).toInt ≤ 20) (hg : ∀ k, k < 12 → 0 ≤ (ga S 32 k).toInt ∧ (ga S 32 k).toInt ≤ 999) (h : ∀ (f : Nat → Int64) (T : Nat), T < 2 ^ (gi S 5).toNatClampNeg → bsum (cC S) T (gi S 5).toNatClampNeg ≤ a1.toInt → (∀ U, U < 2 ^ (gi S 5).toNatClampNeg → bsum (cC S) U (gi S 5).toNatClampNeg ≤ a1.toInt → bsum (sS S) U (gi S 5).toNatClampNeg ≤ bsum (sS S) T (gi S 5).toNatClampNeg) → Q (nI T) (sC S f)) : qX3_bestSet S a1 Q := by
  have l100 : (100 : Int32).toInt = 100 := by decide
  have l0 : (0 : Int32).toInt = 0 := by decide
  have lm1 : (-1 : Int32).toInt = -1 := by decide
  have l64 : (0 : Int64).toInt = 0 := by decide
  have l8192 : (8192 : Int64).toInt = 8192 := by decide
  have tn := tn_ti hn.1
  have ta := tn_ti ha.1
  have p : (2 : Nat) ^ (gi S 5).toNatClampNeg ≤ 2 ^ 12 := Nat.pow_le_pow_right (by decide) (by omega)
  have p2 : (2 : Nat) ^ 12 = 4096 := by decide
  have hs : ∀ i, i < 12 → -2000000000 ≤ sS S i ∧ sS S i ≤ 2000000000 := by
    intro i hi
    have := hg i hi
    have q := p12 ⟨i, hi⟩
    show -2000000000 ≤ (ga S 32 i).toInt * 1048576 - 8192 - ((2 ^ i : Nat) : Int) ∧ (ga S 32 i).toInt * 1048576 - 8192 - ((2 ^ i : Nat) : Int) ≤ 2000000000
    have q : 2 ^ i ≤ 2048 := q
    generalize 2 ^ i = z at q ⊢
    omega
  have bd : ∀ {k : Nat} {j v : Int}, k ≤ 12 → mxS (cC S) (sS S) k j v → -24000000000 ≤ v ∧ v ≤ 24000000000 := by
    rintro k j v hk ⟨⟨T, t1, t2, t3⟩, -⟩
    have := bsum_b2 (c := sS S) (T := T) (n := k) (fun i hi => hs i (by omega))
    omega
  rintro v rfl
  have e1 : (if (100 : Int32) < a1 then (100 : Int32) else a1) = a1 := by
    rw [if_neg]
    intro z
    have := Int32.lt_iff_toInt_lt.mp z
    omega
  rw [e1]
  refine lp_up (a1.toNatClampNeg + 1) (fun k a => ∃ f : Nat → Int64, (∀ j, j < k → f j = 0) ∧ a = (a1, nI k, sC S f)) ?_ _ ⟨gc S, fun j hj => by omega, rfl⟩
  rintro K k _ hk ⟨f, hf, rfl⟩ hK
  have ek : (nI k).toInt = k := nI_ti (by omega)
  refine br_lt (fun q => ?_) (fun q => ⟨in_of (by omega) (by omega), ?_⟩)
  · -- the hides
    refine lp_up (gi S 5).toNatClampNeg (fun k a => ∃ f : Nat → Int64, (∀ j : Nat, (j : Int) ≤ a1.toInt → mxS (cC S) (sS S) k j (f j).toInt) ∧ a = (a1, nI k, sC S f)) ?_ _ ⟨f, fun j hj => by rw [hf j (by omega), l64]; exact mxS_zero (by omega), rfl⟩
    rintro K2 h0 _ hh ⟨f, hf, rfl⟩ hK2
    have eh : (nI h0).toInt = h0 := nI_ti (by omega)
    refine br_le (fun q2 => ?_) (fun q2 => ⟨in_of (by omega) (by have q2 : (nI h0).toInt < (gi S 5).toInt := q2; omega), ?_⟩)
    · have q2 : (gi S 5).toInt ≤ (nI h0).toInt := q2
      obtain rfl : h0 = (gi S 5).toNatClampNeg := by omega
      refine br_le (fun _ => ⟨in_of (by omega) (by omega), ?_⟩) (fun z => ?_)
      · have m := hf a1.toNatClampNeg (by omega)
        rw [ta] at m
        have b := bd (by omega) m
        obtain ⟨⟨T, t1, t2, t3⟩, m2⟩ := m
        have e3 : (-(f a1.toNatClampNeg)).toInt = 8192 * (bsum (fun _ => 1) T (gi S 5).toNatClampNeg - 128 * bsum (gW S) T (gi S 5).toNatClampNeg) + T := by
          rw [tl_neg (by omega), ← t3, bsum_score t1]
          omega
        have e4 := mask_set (by omega) e3
        show Q (((-(f a1.toNatClampNeg)) &&& (8191 : Int64)).toInt32) (sC S f)
        rw [e4]
        exact h f T t1 t2 (fun U u1 u2 => by rw [t3]; exact m2 U u1 u2)
      · omega
    · have q2 : (nI h0).toInt < (gi S 5).toInt := q2
      rw [show (nI h0).toNatClampNeg = h0 from tN_nI (by omega)]
      intro gain hgain
      have hgain : gain = (((ga S 32 h0).toInt64 <<< ((20 : Int32).toInt64 &&& 63)) - (8192 : Int64)) - ((1 : Int64) <<< ((nI h0).toInt64 &&& 63)) := hgain
      have hg0 := hg h0 (by omega)
      have hc0 := hc h0 (by omega)
      have eg : ((((ga S 32 h0).toInt64 <<< ((20 : Int32).toInt64 &&& 63)) - (8192 : Int64)) - ((1 : Int64) <<< ((nI h0).toInt64 &&& 63))).toInt = sS S h0 := by
        have s1 : ((1 : Int64) <<< ((nI h0).toInt64 &&& 63)).toInt = ((2 ^ h0 : Nat) : Int) := sh1 ⟨h0, by omega⟩
        have q : 2 ^ h0 ≤ 2048 := p12 ⟨h0, by omega⟩
        obtain ⟨w, hw⟩ : ∃ w : Nat, (ga S 32 h0).toInt = w := ⟨(ga S 32 h0).toInt.toNat, by omega⟩
        have s2 : ((ga S 32 h0).toInt64 <<< ((20 : Int32).toInt64 &&& 63)).toInt = (ga S 32 h0).toInt * 1048576 := by
          have := sh20 ⟨w, by omega⟩
          rw [hw, of_ti hw]
          exact this
        show _ = (ga S 32 h0).toInt * 1048576 - 8192 - ((2 ^ h0 : Nat) : Int)
        generalize 2 ^ h0 = z at q s1 ⊢
        have s3 : (((ga S 32 h0).toInt64 <<< ((20 : Int32).toInt64 &&& 63)) - (8192 : Int64)).toInt = (ga S 32 h0).toInt * 1048576 - 8192 := by
          rw [tl_sub, s2, l8192] <;> rw [s2, l8192] <;> omega
        rw [tl_sub, s3, s1] <;> rw [s3, s1] <;> omega
      rw [← hgain] at eg
      clear hgain
      refine lp_up (a1.toNatClampNeg + 1) (fun k a => ∃ (f : Nat → Int64) (v : Int32), v.toInt = a1.toInt - k ∧ (∀ j : Nat, (j : Int) ≤ a1.toInt → (v.toInt < j → mxS (cC S) (sS S) (h0 + 1) j (f j).toInt) ∧ ((j : Int) ≤ v.toInt → mxS (cC S) (sS S) h0 j (f j).toInt)) ∧ a = (a1, nI h0, gain, v, sC S f)) ?_ _ ⟨f, a1, by omega, fun j hj => ⟨fun z => absurd hj (Int.not_le.mpr z), fun _ => hf j hj⟩, rfl⟩
      rintro K3 k3 _ hk3 ⟨f, v, ev, hf, rfl⟩ hK3
      refine ⟨in_of (by omega) (by omega), ?_⟩
      rw [show (nI h0).toNatClampNeg = h0 from tN_nI (by omega)]
      refine br_lt (fun q3 => ?_) (fun q3 => ?_)
      · have q3 : v.toInt < (ga S 31 h0).toInt := q3
        rintro x rfl
        rw [nI_1]
        refine hK2 _ (by omega) ⟨f, fun j hj => ?_, rfl⟩
        rcases Int.lt_or_le v.toInt j with z | z
        · exact (hf j hj).1 z
        · exact mxS_out (fun i hi => (hc i (by omega)).1) (show (j : Int) < cC S h0 by show (j : Int) < (ga S 31 h0).toInt; omega) ((hf j hj).2 z)
      · have q3 : (ga S 31 h0).toInt ≤ v.toInt := q3
        have ed : (v - ga S 31 h0).toInt = v.toInt - (ga S 31 h0).toInt := by rw [ti_sub] <;> omega
        have e5 : (v + (-1 : Int32)).toInt = v.toInt - 1 := by rw [ti_add] <;> omega
        have tv := tn_ti (show 0 ≤ v.toInt by omega)
        have td := tn_ti (show 0 ≤ (v - ga S 31 h0).toInt by omega)
        refine ⟨in_of (by omega) (by omega), in_of (by show 0 ≤ (v - ga S 31 h0).toInt; omega) (by show (v - ga S 31 h0).toInt < _; omega), ?_⟩
        rintro S6 rfl x rfl
        refine hK3 _ (by omega) ⟨vp_updL f v.toNatClampNeg (if f (v - ga S 31 h0).toNatClampNeg + gain < f v.toNatClampNeg then f v.toNatClampNeg else f (v - ga S 31 h0).toNatClampNeg + gain), v + (-1 : Int32), by omega, fun j hj => ?_, rfl⟩
        have eU : ∀ w : Int64, vp_updL f v.toNatClampNeg w j = if j = v.toNatClampNeg then w else f j := fun _ => rfl
        rw [eU]
        refine ⟨fun z => ?_, fun z => ?_⟩
        · by_cases q4 : j = v.toNatClampNeg
          · subst q4
            rw [if_pos rfl]
            have m := (hf v.toNatClampNeg hj).2 (by omega)
            have m' := (hf (v - ga S 31 h0).toNatClampNeg (by omega)).2 (by omega)
            have b := bd (by omega) m
            have b' := bd (by omega) m'
            have hs0 := hs h0 (by omega)
            rw [td, ed, ← tv] at m'
            have r := mxS_in m m'
            have ea : (f (v - ga S 31 h0).toNatClampNeg + gain).toInt = (f (v - ga S 31 h0).toNatClampNeg).toInt + sS S h0 := by rw [tl_add, eg] <;> rw [eg] <;> omega
            by_cases q5 : f (v - ga S 31 h0).toNatClampNeg + gain < f v.toNatClampNeg
            · rw [if_pos q5]
              rwa [if_pos (by rw [← ea]; exact Int64.lt_iff_toInt_lt.mp q5)] at r
            · rw [if_neg q5]
              rwa [if_neg (by rw [← ea]; exact fun z => q5 (Int64.lt_iff_toInt_lt.mpr z)), ← ea] at r
          · rw [if_neg q4]
            exact (hf j hj).1 (by omega)
        · rw [if_neg (by omega)]
          exact (hf j hj).2 (by omega)
  · rw [show (nI k).toNatClampNeg = k from tN_nI (by omega)]
    rintro S2 rfl x rfl
    rw [nI_1]
    refine hK _ (by omega) ⟨_, fun j hj => ?_, rfl⟩
    show (if j = k then (0 : Int64) else f j) = 0
    by_cases z : j = k
    · rw [if_pos z]
    · rw [if_neg z]; exact hf j (by omega)
