/-! products of doubts: over words, and over informers -/
def prC (F : Int32 → Int64) (I N C : Nat → Int32) (t c : Int32) : Nat → Int64
  | 0 => 1
  | n + 1 => if N n = t ∧ C n = c then prC F I N C t c n * F (I n) else prC F I N C t c n
def tB (I N C : Nat → Int32) (t c : Int32) (i : Int32) : Nat → Bool
  | 0 => false
  | n + 1 => tB I N C t c i n || (decide (I n = i) && decide (N n = t) && decide (C n = c))
def prM (F : Int32 → Int64) (T : Int32 → Bool) : Nat → Int64
  | 0 => 1
  | m + 1 => prM F T m * (if T (nI m) then F (nI m) else 1)
theorem tB_iff {I N C : Nat → Int32} {t c i : Int32} {n : Nat} : tB I N C t c i n = true ↔ ∃ k, k < n ∧ I k = i ∧ N k = t ∧ C k = c := by
  induction n with
  | zero => simp [tB]
  | succ n ih =>
    unfold tB
    rw [Bool.or_eq_true, ih]
    constructor
    · rintro (⟨k, h1, h2⟩ | h)
      · exact ⟨k, by omega, h2⟩
      · simp at h
        exact ⟨n, by omega, h.1.1, h.1.2, h.2⟩
    · rintro ⟨k, h1, h2⟩
      by_cases q : k = n
      · subst q; right; simp [h2]
      · exact Or.inl ⟨k, by omega, h2⟩
theorem prM_congr {F : Int32 → Int64} {T U : Int32 → Bool} {m : Nat} (h : ∀ i, i < m → T (nI i) = U (nI i)) : prM F T m = prM F U m := by
  induction m with
  | zero => rfl
  | succ m ih =>
    unfold prM
    rw [ih (fun i hi => h i (by omega)), h m (by omega)]
theorem prM_one {F : Int32 → Int64} {T U : Int32 → Bool} {j m : Nat} (hm : m < 2147483648) (hj : j < m) (hT : T (nI j) = false) (hU : U (nI j) = true) (h : ∀ i, i < m → i ≠ j → U (nI i) = T (nI i)) : prM F U m = prM F T m * F (nI j) := by
  induction m with
  | zero => omega
  | succ m ih =>
    unfold prM
    by_cases q : j = m
    · subst q
      rw [hT, hU, prM_congr (T := U) (U := T) (fun i hi => h i (by omega) (by omega))]
      simp
    · rw [ih (by omega) (by omega) (fun i hi hn => h i (by omega) hn), h m (by omega) (by omega)]
      rw [Int64.mul_assoc, Int64.mul_assoc, Int64.mul_comm (F (nI j))]
/-- the two products are one -/
theorem pr_eq {F : Int32 → Int64} {I N C : Nat → Int32} {t c : Int32} {n : Nat} (hI : ∀ k, k < n → 0 ≤ (I k).toInt ∧ (I k).toInt ≤ 5) (hu : ∀ i j, i < j → j < n → ¬ (I i = I j ∧ N i = N j ∧ C i = C j)) : prC F I N C t c n = prM F (fun i => tB I N C t c i n) 6 := by
  induction n with
  | zero => simp [prC, prM, tB]
  | succ n ih =>
    have ih := ih (fun k hk => hI k (by omega)) (fun i j h1 h2 => hu i j h1 (by omega))
    unfold prC
    rw [ih]
    by_cases q : N n = t ∧ C n = c
    · rw [if_pos q]
      have hb := hI n (by omega)
      have hl := cl_lt hb.1 (n := 6) (by omega)
      have hT : tB I N C t c (nI (I n).toNatClampNeg) n = false := by
        rw [← hl.2.2, Bool.eq_false_iff]
        intro z
        obtain ⟨k, h1, h2, h3, h4⟩ := tB_iff.mp z
        exact hu k n h1 (by omega) ⟨h2, by rw [h3, q.1], by rw [h4, q.2]⟩
      have hU : tB I N C t c (nI (I n).toNatClampNeg) (n + 1) = true := by
        rw [← hl.2.2]
        exact tB_iff.mpr ⟨n, by omega, rfl, q.1, q.2⟩
      have hO : ∀ i, i < 6 → i ≠ (I n).toNatClampNeg → tB I N C t c (nI i) (n + 1) = tB I N C t c (nI i) n := by
        intro i hi hn
        have : ¬ I n = nI i := fun z => hn (by rw [z, tN_nI (by omega)])
        simp [tB, this]
      have key := prM_one (F := F) (T := fun i => tB I N C t c i n) (U := fun i => tB I N C t c i (n + 1)) (j := (I n).toNatClampNeg) (m := 6) (by omega) hl.1 hT hU hO
      rw [key, ← hl.2.2]
    · rw [if_neg q]
      refine prM_congr (fun i hi => ?_)
      have : (decide (I n = nI i) && decide (N n = t) && decide (C n = c)) = false := by
        rw [Bool.eq_false_iff]
        intro z
        simp at z
        exact q ⟨z.1.2, z.2⟩
      simp only [tB, this, Bool.or_false]
theorem prM_bd {F : Int32 → Int64} {T : Int32 → Bool} {m : Nat} (hm : m ≤ 6) (h : ∀ i, i < 6 → 1 ≤ (F (nI i)).toInt ∧ (F (nI i)).toInt ≤ 62) : 1 ≤ (prM F T m).toInt ∧ (prM F T m).toInt ≤ 62 ^ m := by
  induction m with
  | zero =>
    show 1 ≤ (1 : Int64).toInt ∧ (1 : Int64).toInt ≤ 62 ^ 0
    exact ⟨by decide, by decide⟩
  | succ m ih =>
    have ih := ih (by omega)
    unfold prM
    have h1 : (1 : Int64).toInt = 1 := by decide
    have hp : (62 : Int) ^ m ≤ 62 ^ 5 := by
      have : ∀ m : Nat, m ≤ 5 → (62 : Int) ^ m ≤ 62 ^ 5 := by decide
      exact this m (by omega)
    have hp : (62 : Int) ^ m ≤ 916132832 := hp
    generalize hX : (if T (nI m) = true then F (nI m) else 1) = X
    have hX2 : 1 ≤ X.toInt ∧ X.toInt ≤ 62 := by
      rw [← hX]
      split
      · exact h m (by omega)
      · rw [h1]; exact ⟨by omega, by omega⟩
    have u1 : 1 * 1 ≤ (prM F T m).toInt * X.toInt := Int.mul_le_mul ih.1 hX2.1 (by omega) (by omega)
    have u2 : (prM F T m).toInt * X.toInt ≤ 62 ^ m * 62 := Int.mul_le_mul ih.2 hX2.2 (by omega) (by omega)
    rw [tl_mul (by omega) (by omega), Int.pow_succ]
    exact ⟨by omega, u2⟩
theorem rX8_doubtAbove {S : gS} {t c : Int32} {Q : Int64 → gS → Prop} (hb : 0 ≤ (gi S 8).toInt ∧ (gi S 8).toInt ≤ 60) (hI : ∀ k, k < 60 → 0 ≤ (ga S 43 k).toInt ∧ (ga S 43 k).toInt ≤ 5) (h : Q (prC (fun i => (ga S 47 i.toNatClampNeg + 1).toInt64) (ga S 43) (ga S 44) (ga S 45) t c (gi S 8).toNatClampNeg) S) : qX8_doubtAbove S t c Q := by
  have tn := tn_ti hb.1
  refine lp_up (gi S 8).toNatClampNeg (fun k x => x = (prC (fun i => (ga S 47 i.toNatClampNeg + 1).toInt64) (ga S 43) (ga S 44) (ga S 45) t c k, nI k, S)) ?_ _ rfl
  rintro K k _ hk rfl hK
  have e : (nI k).toInt = k := nI_ti (by omega)
  refine br_le (fun q => ?_) (fun q => ?_)
  · obtain rfl : k = (gi S 8).toNatClampNeg := by omega
    exact h
  · refine rX8_names (by omega) (by omega) (fun q2 q3 => ⟨fun z => absurd z (by decide), fun _ => ⟨in_of (by omega) (by omega), ?_⟩⟩) (fun q2 => ⟨fun _ => ?_, fun z => absurd rfl z⟩)
    · rw [tN_nI (by omega)] at q2 q3 ⊢
      have := hI k (by omega)
      refine ⟨in_of this.1 (by omega), ?_⟩
      rintro x rfl y rfl
      exact hK _ (by omega) (by rw [nI_1]; simp [prC, q2, q3])
    · rw [tN_nI (by omega)] at q2
      rintro y rfl
      exact hK _ (by omega) (by rw [nI_1]; simp only [prC, if_neg q2])
theorem rX8_doubtBelow {S : gS} {t c : Int32} {Q : Int64 → gS → Prop} (hb : 0 ≤ (gi S 8).toInt ∧ (gi S 8).toInt ≤ 60) (hI : ∀ k, k < 60 → 0 ≤ (ga S 43 k).toInt ∧ (ga S 43 k).toInt ≤ 5) (h : Q (prC (fun i => (ga S 46 i.toNatClampNeg + ga S 47 i.toNatClampNeg + 2).toInt64) (ga S 43) (ga S 44) (ga S 45) t c (gi S 8).toNatClampNeg) S) : qX8_doubtBelow S t c Q := by
  have tn := tn_ti hb.1
  refine lp_up (gi S 8).toNatClampNeg (fun k x => x = (prC (fun i => (ga S 46 i.toNatClampNeg + ga S 47 i.toNatClampNeg + 2).toInt64) (ga S 43) (ga S 44) (ga S 45) t c k, nI k, S)) ?_ _ rfl
  rintro K k _ hk rfl hK
  have e : (nI k).toInt = k := nI_ti (by omega)
  refine br_le (fun q => ?_) (fun q => ?_)
  · obtain rfl : k = (gi S 8).toNatClampNeg := by omega
    exact h
  · refine rX8_names (by omega) (by omega) (fun q2 q3 => ⟨fun z => absurd z (by decide), fun _ => ⟨in_of (by omega) (by omega), ?_⟩⟩) (fun q2 => ⟨fun _ => ?_, fun z => absurd rfl z⟩)
    · rw [tN_nI (by omega)] at q2 q3 ⊢
      have := hI k (by omega)
      refine ⟨in_of this.1 (by omega), ?_⟩
      rintro x rfl y rfl
      exact hK _ (by omega) (by rw [nI_1]; simp [prC, q2, q3])
    · rw [tN_nI (by omega)] at q2
      rintro y rfl
      exact hK _ (by omega) (by rw [nI_1]; simp only [prC, if_neg q2])
theorem rX10_belief_L {M : gS} {a1 a2 a3 : Int32} {Q : Int64 → gS → Prop} (hb : 0 ≤ (gi M 8).toInt ∧ (gi M 8).toInt ≤ 60) (h : qX10_side M (prM (fun i => (ga M 34 i.toNatClampNeg + ga M 35 i.toNatClampNeg + 2).toInt64) (fun i => tB (ga M 31) (ga M 32) (ga M 33) a2 a1 i (gi M 8).toNatClampNeg) 6 - prM (fun i => (ga M 35 i.toNatClampNeg + 1).toInt64) (fun i => tB (ga M 31) (ga M 32) (ga M 33) a2 a1 i (gi M 8).toNatClampNeg) 6) (prM (fun i => (ga M 34 i.toNatClampNeg + ga M 35 i.toNatClampNeg + 2).toInt64) (fun i => tB (ga M 31) (ga M 32) (ga M 33) a2 a1 i (gi M 8).toNatClampNeg) 6) a3 (fun r S' => Q r S')) : lp (qX10_belief_L67 a1 a2 a3 Q) (1, 1, 0, M) := by
  have tn := tn_ti hb.1
  have l6 : (6 : Int32).toInt = 6 := by decide
  refine lp_up 6 (fun m x => x = (prM (fun i => (ga M 35 i.toNatClampNeg + 1).toInt64) (fun i => tB (ga M 31) (ga M 32) (ga M 33) a2 a1 i (gi M 8).toNatClampNeg) m, prM (fun i => (ga M 34 i.toNatClampNeg + ga M 35 i.toNatClampNeg + 2).toInt64) (fun i => tB (ga M 31) (ga M 32) (ga M 33) a2 a1 i (gi M 8).toNatClampNeg) m, nI m, M)) ?_ _ rfl
  rintro K m _ hm rfl hK
  have e : (nI m).toInt = m := nI_ti (by omega)
  refine br_le (fun q => ?_) (fun q => ?_)
  · obtain rfl : m = 6 := by omega
    exact h
  · refine lp_up (gi M 8).toNatClampNeg (fun k x => x = (prM (fun i => (ga M 35 i.toNatClampNeg + 1).toInt64) (fun i => tB (ga M 31) (ga M 32) (ga M 33) a2 a1 i (gi M 8).toNatClampNeg) m, prM (fun i => (ga M 34 i.toNatClampNeg + ga M 35 i.toNatClampNeg + 2).toInt64) (fun i => tB (ga M 31) (ga M 32) (ga M 33) a2 a1 i (gi M 8).toNatClampNeg) m, nI m, (if tB (ga M 31) (ga M 32) (ga M 33) a2 a1 (nI m) k then 1 else 0), nI k, M)) ?_ _ rfl
    rintro K2 k _ hk rfl hK2
    have e2 : (nI k).toInt = k := nI_ti (by omega)
    refine br_le (fun q2 => ?_) (fun q2 => ?_)
    · obtain rfl : k = (gi M 8).toNatClampNeg := by omega
      by_cases z : tB (ga M 31) (ga M 32) (ga M 33) a2 a1 (nI m) (gi M 8).toNatClampNeg = true
      · rw [if_pos z]
        refine ⟨fun w => absurd w (by decide), fun _ => ⟨in_of (by omega) (by omega), ?_⟩⟩
        rintro x rfl
        refine ⟨fun w => absurd w (by decide), fun _ => ⟨in_of (by omega) (by omega), ?_⟩⟩
        rintro y rfl u rfl
        exact hK _ (by omega) (by rw [nI_1]; simp only [prM, z, if_true])
      · rw [if_neg z]
        refine ⟨fun _ => ?_, fun w => absurd rfl w⟩
        rintro x rfl
        refine ⟨fun _ => ?_, fun w => absurd rfl w⟩
        rintro y rfl u rfl
        exact hK _ (by omega) (by rw [nI_1]; simp only [prM, if_neg z])
    · by_cases z : tB (ga M 31) (ga M 32) (ga M 33) a2 a1 (nI m) k = true
      · rw [if_pos z]
        refine ⟨fun w => absurd w (by decide), fun _ => ?_⟩
        rintro y rfl
        exact hK2 _ (by omega) (by rw [nI_1]; simp [tB, z])
      · rw [if_neg z]
        have z2 : tB (ga M 31) (ga M 32) (ga M 33) a2 a1 (nI m) k = false := by simpa using z
        refine ⟨fun _ => ⟨in_of (by omega) (by omega), ?_⟩, fun w => absurd rfl w⟩
        rw [tN_nI (by omega)]
        refine ⟨fun w1 => ⟨fun w2 => ⟨fun w3 => ?_, fun w3 => ?_⟩, fun w2 => ?_⟩, fun w1 => ?_⟩
        · rintro y rfl
          exact hK2 _ (by omega) (by rw [nI_1]; simp [tB, z2, w1, w2, w3])
        · rintro y rfl
          exact hK2 _ (by omega) (by rw [nI_1]; simp [tB, z2, w1, w2, w3])
        · rintro y rfl
          exact hK2 _ (by omega) (by rw [nI_1]; simp [tB, z2, w1, w2])
        · rintro y rfl
          exact hK2 _ (by omega) (by rw [nI_1]; simp [tB, z2, w1])
theorem cntW_le {I N : Nat → Int32} {i t : Int32} {n : Nat} : cntW I N i t n ≤ n := by
  induction n with
  | zero => exact Nat.le_refl _
  | succ n ih =>
    unfold cntW
    split <;> omega
/-- what is right and what is wrong of an informer, in numbers -/
theorem RS_rw {S M : gS} (hR : RS S M) {i : Nat} (hi : i < 6) : 0 ≤ (ga S 46 i).toInt ∧ 0 ≤ (ga S 47 i).toInt ∧ (ga S 46 i).toInt + (ga S 47 i).toInt ≤ 60 ∧ (ga S 46 i + 1).toInt64.toInt = (ga S 46 i).toInt + 1 ∧ (ga S 47 i + 1).toInt64.toInt = (ga S 47 i).toInt + 1 ∧ (ga S 46 i + ga S 47 i + 2).toInt64.toInt = (ga S 46 i).toInt + (ga S 47 i).toInt + 2 := by
  have h := hR.2.2.2.2.2.2.2.2.2.2 i hi
  have b8 := RS_bi hR (i := 8) (lo := 0) (hi := 60) (by decide)
  have tn := tn_ti b8.1
  have c := cntW_le (I := ga S 43) (N := ga S 44) (i := nI i) (t := gi S 0) (n := (gi S 8).toNatClampNeg)
  have l1 : (1 : Int32).toInt = 1 := by decide
  have l2 : (2 : Int32).toInt = 2 := by decide
  have e1 : (ga S 46 i + 1).toInt = (ga S 46 i).toInt + 1 := by rw [ti_add] <;> omega
  have e2 : (ga S 47 i + 1).toInt = (ga S 47 i).toInt + 1 := by rw [ti_add] <;> omega
  have e3 : (ga S 46 i + ga S 47 i).toInt = (ga S 46 i).toInt + (ga S 47 i).toInt := by rw [ti_add] <;> omega
  have e4 : (ga S 46 i + ga S 47 i + 2).toInt = (ga S 46 i).toInt + (ga S 47 i).toInt + 2 := by rw [ti_add] <;> omega
  rw [Int32.toInt_toInt64, Int32.toInt_toInt64, Int32.toInt_toInt64, e1, e2, e4]
  omega
