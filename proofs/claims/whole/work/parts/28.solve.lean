/-! the game's two walks -/
theorem cmp_i {x y : Int64} : (lg_cmp x y < 0 ↔ x.toInt < y.toInt) ∧ (lg_cmp x y ≤ 0 ↔ x.toInt ≤ y.toInt) ∧ (0 < lg_cmp x y ↔ y.toInt < x.toInt) := by
  unfold lg_cmp
  by_cases h : x > y
  · rw [if_pos h]
    have := Int64.lt_iff_toInt_lt.mp h
    exact ⟨⟨fun q => absurd q (by decide), fun q => by omega⟩, ⟨fun q => absurd q (by decide), fun q => by omega⟩, ⟨fun _ => this, fun _ => by decide⟩⟩
  · rw [if_neg h]
    have h3 : ¬ y.toInt < x.toInt := fun q => h (Int64.lt_iff_toInt_lt.mpr q)
    by_cases h2 : x = y
    · rw [if_pos h2, h2]
      exact ⟨⟨fun q => absurd q (by decide), fun q => by omega⟩, ⟨fun _ => Int.le_refl _, fun _ => by decide⟩, ⟨fun q => absurd q (by decide), fun q => by omega⟩⟩
    · rw [if_neg h2]
      have h4 : x.toInt ≠ y.toInt := fun q => h2 (Int64.toInt_inj.mp q)
      exact ⟨⟨fun _ => by omega, fun _ => by decide⟩, ⟨fun _ => by omega, fun _ => by decide⟩, ⟨fun q => absurd q (by decide), fun q => by omega⟩⟩
theorem sL_2 {S : gS} {a b c d : Int64} : sL (sL (sL (sL S 0 a) 1 b) 0 c) 1 d = sL (sL S 0 c) 1 d := by
  unfold sL
  simp only [Prod.mk.injEq, true_and, and_true]
  funext j
  by_cases h1 : j = 1
  · simp [h1]
  · by_cases h0 : j = 0
    · simp [h0]
    · simp [h0, h1]
/-- the numbers of a game: worths that fall, fine, watchers -/
def gOk (w : Nat → Nat) (f k : Nat) : Prop := (∀ i, i < 6 → 1 ≤ w i ∧ w i ≤ 99) ∧ (∀ i j, i < j → j < 6 → w j ≤ w i) ∧ 1 ≤ f ∧ f ≤ 99 ∧ k ≤ 6
theorem g_all {w : Nat → Nat} {f k m : Nat} (h : gOk w f k) (hm : m ≤ 6) : 1 ≤ gP w f m ∧ gP w f m ≤ 60254729561664 ∧ gR w f m ≤ 1825900895808 ∧ gG w f m ≤ 180764188684992 ∧ (1 ≤ m → 1 ≤ gR w f m) := by
  have hw : ∀ i, i < m → w i ≤ 99 := fun i hi => (h.1 i (by omega)).2
  have hf : 1 ≤ f ∧ f ≤ 99 := ⟨h.2.2.1, h.2.2.2.1⟩
  have p1 := gP_bd hw hf
  have p2 := gR_bd hw hf
  have p3 := gG_le (w := w) (f := f) hw
  have t : ∀ m, m ≤ 6 → 198 ^ m ≤ 60254729561664 ∧ m * 198 ^ m ≤ 361528377369984 := by decide
  have t := t m hm
  exact ⟨p1.1, by omega, by omega, by omega, fun q => gR_pos q hw hf⟩
/-- above and below, as longs -/
def gU (w : Nat → Nat) (f k m : Nat) : Int64 := lN (gG w f m) - lN k * lN (gP w f m)
theorem gU_ti {w : Nat → Nat} {f k m : Nat} (h : gOk w f k) (hm : m ≤ 6) : (gU w f k m).toInt = gA w f k m ∧ -400000000000000 ≤ gA w f k m ∧ gA w f k m ≤ 400000000000000 := by
  have b := g_all h hm
  have hk : k ≤ 6 := h.2.2.2.2
  have hkp : k * gP w f m ≤ 6 * 60254729561664 := Nat.mul_le_mul hk b.2.1
  have e1 : (lN (gG w f m)).toInt = gG w f m := pk_lT (by omega)
  have e2 : (lN (k * gP w f m)).toInt = ((k * gP w f m : Nat) : Int) := pk_lT (by omega)
  have e3 : gA w f k m = (gG w f m : Int) - ((k * gP w f m : Nat) : Int) := by unfold gA; push_cast; rfl
  unfold gU
  rw [lN_mul, tl_sub (by omega) (by omega), e1, e2, e3]
  omega
theorem gW_ti {w : Nat → Nat} {f k m i : Nat} (h : gOk w f k) (hm : m ≤ 6) (hi : i < 6) : (lN (w i) * lN (gR w f m)).toInt = (w i : Int) * gR w f m := by
  have b := g_all h hm
  have c := h.1 i hi
  have : w i * gR w f m ≤ 99 * 1825900895808 := Nat.mul_le_mul c.2 b.2.2.1
  rw [lN_mul, pk_lT (by omega)]
  push_cast
  rfl
theorem rX2_solve {S : gS} {w : Nat → Nat} {f k : Nat} (hg : gOk w f k) (hw : ∀ i, i < 6 → srtF (ga S 51) (ga S 8) 6 i = nI (w i)) {Q : gS → Prop}
    (h : ∀ m, 1 ≤ m → m ≤ 6 → gLast w f k m → (∀ j, 1 ≤ j → j < m → ¬ gLast w f k j) → Q (sL (sL (sA S 51 (srtF (ga S 51) (ga S 8) 6)) 0 (gU w f k m)) 1 (lN (gR w f m)))) : qX2_solve S (nI k) (nI f) Q := by
  have l6 : (6 : Int32).toInt = 6 := by decide
  obtain ⟨hg1, hg2, hg3, hg4, hg5⟩ := id hg
  refine rX2_sortDown ?_
  generalize hr : srtF (ga S 51) (ga S 8) 6 = r at hw h ⊢
  refine lp_up 6 (fun m x => (∀ j, 1 ≤ j → j ≤ m → j < 6 → ¬ gLast w f k j) ∧ ∃ X : gS, x = (lN (gP w f m), lN (gG w f m), lN (gR w f m), nI m, X) ∧ (m = 0 ∧ X = sA S 51 r ∨ 1 ≤ m ∧ X = sL (sL (sA S 51 r) 0 (gU w f k m)) 1 (lN (gR w f m)))) ?_ _ ⟨fun j h1 h2 => by omega, _, rfl, Or.inl ⟨rfl, rfl⟩⟩
  rintro K m _ hm ⟨hno, X, rfl, hX⟩ hK
  have e : (nI m).toInt = m := nI_ti (by omega)
  refine br_le (fun q => ?_) (fun q => ⟨in_of (by omega) (by omega), ?_⟩)
  · have m6 : m = 6 := by omega
    subst m6
    rcases hX with ⟨z, -⟩ | ⟨-, rfl⟩
    · omega
    · exact h 6 (by omega) (by omega) (Or.inl rfl) (fun j h1 h2 => hno j h1 (by omega) h2)
  · have hr0 : ga X 51 = r := by rcases hX with ⟨-, rfl⟩ | ⟨-, rfl⟩ <;> rfl
    have hwm := hg1 m (by omega)
    rw [tN_nI (by omega), hr0, hw m (by omega), nI_add, nI_l (by omega), nI_l (by omega), nI_l (by omega)]
    rintro x3 rfl x4 rfl x5 rfl x6 rfl S7 rfl S8 rfl
    rw [lN_mul, lN_mul, lN_mul, lN_mul, lN_add, lN_add, nI_1]
    have hX2 : sL (sL X 0 (lN (gG w f m * (w m + f) + w m * gP w f m) - lN k * lN (gP w f m * (w m + f)))) 1 (lN (gR w f m * (w m + f) + gP w f m)) = sL (sL (sA S 51 r) 0 (gU w f k (m + 1))) 1 (lN (gR w f (m + 1))) := by
      rcases hX with ⟨-, rfl⟩ | ⟨-, rfl⟩
      · rfl
      · rw [sL_2]; rfl
    rw [hX2]
    have e2 : (nI (m + 1)).toInt = ((m + 1 : Nat) : Int) := nI_ti (by omega)
    refine br_le (fun q2 => ?_) (fun q2 => ⟨in_of (by omega) (by omega), ?_⟩)
    · rintro y rfl
      refine hK _ (by omega) ⟨fun j h1 h2 h3 => ?_, _, rfl, Or.inr ⟨by omega, rfl⟩⟩
      exact hno j h1 (by omega) h3
    · have g0 : ∀ a b : Int64, gl (sL (sL (sA S 51 r) 0 a) 1 b) 0 = a := fun _ _ => rfl
      have g1 : ∀ a b : Int64, gl (sL (sL (sA S 51 r) 0 a) 1 b) 1 = b := fun _ _ => rfl
      have g2 : ∀ a b : Int64, ga (sL (sL (sA S 51 r) 0 a) 1 b) 51 = r := fun _ _ => rfl
      have hwn := hg1 (m + 1) (by omega)
      rw [g0, g1, g2, tN_nI (by omega), hw (m + 1) (by omega), nI_l (by omega)]
      have c1 := gU_ti hg (m := m + 1) (by omega)
      have c2 := gW_ti hg (m := m + 1) (i := m + 1) (by omega) (by omega)
      refine ⟨fun q3 => ?_, fun q3 => ?_⟩
      · have q3 := cmp_i.1.mp q3
        rw [c1.1, c2] at q3
        rintro y rfl
        refine hK _ (by omega) ⟨fun j h1 h2 h3 => ?_, _, rfl, Or.inr ⟨by omega, rfl⟩⟩
        by_cases z : j = m + 1
        · subst z
          rintro (z | z)
          · omega
          · omega
        · exact hno j h1 (by omega) h3
      · have q3 : ¬ (gU w f k (m + 1)).toInt < (lN (w (m + 1)) * lN (gR w f (m + 1))).toInt := fun z => q3 (cmp_i.1.mpr z)
        rw [c1.1, c2] at q3
        exact h (m + 1) (by omega) (by omega) (Or.inr (by omega)) (fun j h1 h2 => hno j h1 (by omega) (by omega))
/-- the reference's own sums: of the first t coves, out of the product of m lines -/
def hG (w : Nat → Nat) (f m : Nat) : Nat → Nat
  | 0 => 0
  | t + 1 => hG w f m t + w t * (gP w f m / (w t + f))
def hR (w : Nat → Nat) (f m : Nat) : Nat → Nat
  | 0 => 0
  | t + 1 => hR w f m t + gP w f m / (w t + f)
theorem gP_dvd {w : Nat → Nat} {f i m : Nat} (h : i < m) : (w i + f) ∣ gP w f m := by
  induction m with
  | zero => omega
  | succ m ih =>
    rw [gP_s]
    by_cases q : i = m
    · subst q; exact Nat.dvd_mul_left _ _
    · exact Nat.dvd_trans (ih (by omega)) (Nat.dvd_mul_right _ _)
theorem gP_div {w : Nat → Nat} {f i m : Nat} (hf : 1 ≤ f) (h : i < m) : gP w f (m + 1) / (w i + f) = gP w f m / (w i + f) * (w m + f) := by
  rw [gP_s]
  exact (Nat.div_mul_right_comm (gP_dvd h) _).symm
theorem hGR_s {w : Nat → Nat} {f m t : Nat} (hf : 1 ≤ f) (h : t ≤ m) : hG w f (m + 1) t = hG w f m t * (w m + f) ∧ hR w f (m + 1) t = hR w f m t * (w m + f) := by
  induction t with
  | zero => simp [hG, hR]
  | succ t ih =>
    have ih := ih (by omega)
    have a1 : hG w f (m + 1) (t + 1) = hG w f (m + 1) t + w t * (gP w f (m + 1) / (w t + f)) := rfl
    have a2 : hG w f m (t + 1) = hG w f m t + w t * (gP w f m / (w t + f)) := rfl
    have a3 : hR w f (m + 1) (t + 1) = hR w f (m + 1) t + gP w f (m + 1) / (w t + f) := rfl
    have a4 : hR w f m (t + 1) = hR w f m t + gP w f m / (w t + f) := rfl
    rw [a1, a2, a3, a4, ih.1, ih.2, gP_div hf (by omega), Nat.add_mul (hG w f m t), Nat.add_mul (hR w f m t), Nat.mul_assoc (w t)]
    exact ⟨rfl, rfl⟩
theorem hGR {w : Nat → Nat} {f m : Nat} (hf : 1 ≤ f) : hG w f m m = gG w f m ∧ hR w f m m = gR w f m := by
  induction m with
  | zero => exact ⟨rfl, rfl⟩
  | succ m ih =>
    have s := hGR_s (w := w) (f := f) (m := m) (t := m) hf (Nat.le_refl _)
    have d : gP w f (m + 1) / (w m + f) = gP w f m := by rw [gP_s]; exact Nat.mul_div_cancel _ (by omega)
    have a1 : hG w f (m + 1) (m + 1) = hG w f (m + 1) m + w m * (gP w f (m + 1) / (w m + f)) := rfl
    have a3 : hR w f (m + 1) (m + 1) = hR w f (m + 1) m + gP w f (m + 1) / (w m + f) := rfl
    rw [a1, a3, s.1, s.2, d, ih.1, ih.2, gG_s, gR_s]
    exact ⟨rfl, rfl⟩

theorem rX10_lines {M : gS} {w : Nat → Nat} {f k : Nat} (hg : gOk w f k) {a1 : Int32} {Q : gS → Prop} {K : Int32 × gS → Prop} {m : Nat} (hm : m ≤ 6) (hw : ∀ i, i < 6 → ga M 42 i = nI (w i)) (h : lp (qX10_play_L150 a1 (nI f) Q K) (nI m, lN (gP w f m), (-a1).toInt64 * lN (gP w f m), 0, 0, M)) : lp (qX10_play_L109 a1 (nI f) Q K) (nI m, 1, 0, M) := by
  have em : (nI m).toInt = m := nI_ti (by omega)
  refine lp_up m (fun i x => x = (nI m, lN (gP w f i), nI i, M)) ?_ _ rfl
  rintro K2 i _ hi rfl hK
  have e : (nI i).toInt = i := nI_ti (by omega)
  refine br_le (fun q => ?_) (fun q => ⟨in_of (by omega) (by omega), ?_⟩)
  · obtain rfl : i = m := by omega
    rintro x rfl
    exact h
  · have := hg.1 i (by omega)
    have := hg.2.2.2.1
    rw [tN_nI (by omega), hw i (by omega), nI_add, nI_l (by omega), lN_mul]
    rintro x rfl y rfl
    rw [nI_1]
    exact hK _ (by omega) rfl
theorem rX10_sums {M : gS} {w : Nat → Nat} {f k : Nat} (hg : gOk w f k) {a1 : Int32} {Q : gS → Prop} {K : Int32 × gS → Prop} {m : Nat} {c0 : Int64} (hm : m ≤ 6) (hm1 : 1 ≤ m) (hw : ∀ i, i < 6 → ga M 42 i = nI (w i)) (h0 : (lN (w (m - 1)) * lN (gR w f m)).toInt ≤ (c0 + lN (gG w f m)).toInt → qX10_play_J223 a1 (nI f) Q K (nI m, c0 + lN (gG w f m), lN (gR w f m), 0, M)) (h1 : (c0 + lN (gG w f m)).toInt < (lN (w (m - 1)) * lN (gR w f m)).toInt → qX10_play_J223 a1 (nI f) Q K (nI m, c0 + lN (gG w f m), lN (gR w f m), 1, M)) : lp (qX10_play_L150 a1 (nI f) Q K) (nI m, lN (gP w f m), c0, 0, 0, M) := by
  have em : (nI m).toInt = m := nI_ti (by omega)
  have hf1 := hg.2.2.1
  have hf9 := hg.2.2.2.1
  refine lp_up m (fun i x => x = (nI m, lN (gP w f m), c0 + lN (hG w f m i), lN (hR w f m i), nI i, M)) ?_ _ (by show _ = (nI m, lN (gP w f m), c0 + 0, (0 : Int64), (0 : Int32), M); rw [Int64.add_zero])
  rintro K2 i _ hi rfl hK
  have e : (nI i).toInt = i := nI_ti (by omega)
  refine br_le (fun q => ?_) (fun q => ⟨in_of (by omega) (by omega), ?_⟩)
  · obtain rfl : i = m := by omega
    obtain ⟨i, rfl⟩ : ∃ k, i = k + 1 := ⟨i - 1, by omega⟩
    have hh := hGR (w := w) (f := f) (m := i + 1) hf1
    rw [hh.1, hh.2]
    have e3 : nI (i + 1) - 1 = nI i := nI_pred i
    have hwi := hg.1 i (by omega)
    have ei : (nI i).toInt = i := nI_ti (by omega)
    rw [e3]
    refine ⟨in_of (by omega) (by omega), ?_⟩
    rw [tN_nI (by omega), hw i (by omega), nI_l (by omega)]
    refine ⟨fun z => h0 (cmp_i.2.1.mp z), fun z => h1 ?_⟩
    have z : ¬ _ ≤ _ := fun y => z (cmp_i.2.1.mpr y)
    simp only [Nat.add_sub_cancel]
    omega
  · have hwi := hg.1 i (by omega)
    have b := g_all hg hm
    rw [tN_nI (by omega), hw i (by omega), nI_add, nI_l (by omega), nI_l (by omega)]
    refine ⟨fun z => ?_, ?_⟩
    · have := (lN_0 (n := w i + f) (by omega)).mp z
      omega
    · rintro x rfl y rfl u rfl v rfl
      rw [pk_lDiv (by omega) (by omega) (by omega), lN_mul, Int64.add_assoc, lN_add, lN_add, nI_1]
      exact hK _ (by omega) rfl
theorem neg_l : ∀ k, k < 7 → (-nI k).toInt64 = -lN k := by decide
theorem g_c0 {w : Nat → Nat} {f k m : Nat} (hk : k ≤ 6) : (-nI k).toInt64 * lN (gP w f m) + lN (gG w f m) = gU w f k m := by
  unfold gU
  rw [neg_l k (by omega), Int64.neg_mul, Int64.sub_eq_add_neg, Int64.add_comm]
theorem rX10_play_L {M : gS} {w : Nat → Nat} {f k : Nat} (hg : gOk w f k) (hk : 1 ≤ k) {r : Nat → Int32} (hw : ∀ i, i < 6 → r i = nI (w i)) {Q : gS → Prop} {p q : Int64}
    (h : ∀ m, 1 ≤ m → m ≤ 6 → gLast w f k m → (∀ j, 1 ≤ j → j < m → ¬ gLast w f k j) → Q (sL (sL (sA M 42 r) 0 (gU w f k m)) 1 (lN (gR w f m)))) : lp (qX10_play_L93 (nI k) (nI f) Q) (1, sL (sL (sA M 42 r) 0 p) 1 q) := by
  have l6 : (6 : Int32).toInt = 6 := by decide
  have l0 : (0 : Int32).toInt = 0 := by decide
  have ek : (nI k).toInt = k := nI_ti (by have := hg.2.2.2.2; omega)
  refine lp_up 6 (fun c x => ∃ p q : Int64, x = (nI (c + 1), sL (sL (sA M 42 r) 0 p) 1 q) ∧ ((∀ j, 1 ≤ j → j ≤ c → ¬ gLast w f k j) ∨ ∃ j, 1 ≤ j ∧ j ≤ c ∧ gLast w f k j ∧ (∀ i, 1 ≤ i → i < j → ¬ gLast w f k i) ∧ p = gU w f k j ∧ q = lN (gR w f j) ∧ (c < 6 → (w c : Int) * gR w f c ≤ gA w f k c))) ?_ _ ⟨p, q, rfl, Or.inl (fun j h1 h2 => by omega)⟩
  rintro K c _ hc ⟨p, q, rfl, hc2⟩ hK
  have e : (nI (c + 1)).toInt = ((c + 1 : Nat) : Int) := nI_ti (by omega)
  refine br_lt (fun z => ?_) (fun z => br_le (fun z2 => by omega) (fun _ => ?_))
  · obtain rfl : c = 6 := by omega
    rcases hc2 with hno | ⟨j, j1, j2, j3, j4, rfl, rfl, -⟩
    · exact absurd (Or.inl rfl) (hno 6 (by omega) (by omega))
    · exact h j j1 j2 j3 j4
  · have hr : ga (sL (sL (sA M 42 r) 0 p) 1 q) 42 = r := rfl
    have hwr : ∀ i, i < 6 → ga (sL (sL (sA M 42 r) 0 p) 1 q) 42 i = nI (w i) := fun i hi => by rw [hr]; exact hw i hi
    have c1 := gU_ti hg (m := c + 1) (by omega)
    have c2 := gW_ti hg (m := c + 1) (i := c) (by omega) (by omega)
    have fin : ∀ s : Bool, (s = true ↔ gLast w f k (c + 1)) → ∀ t : Bool, (t = true ↔ gA w f k (c + 1) < (w c : Int) * gR w f (c + 1)) → qX10_play_J252 (nI k) (nI f) Q K (nI (c + 1), gU w f k (c + 1), lN (gR w f (c + 1)), (if t then 1 else 0), (if s then 1 else 0), sL (sL (sA M 42 r) 0 p) 1 q) := by
      intro s hs t ht
      have stay : (t = false ∨ s = false) → K (nI (c + 1) + 1, sL (sL (sA M 42 r) 0 p) 1 q) := by
        intro hst
        rw [nI_1]
        refine hK _ (by omega) ⟨p, q, rfl, ?_⟩
        rcases hc2 with hno | ⟨j, j1, j2, j3, j4, j5, j6, j7⟩
        · left
          intro j j1 j2
          by_cases z3 : j = c + 1
          · subst z3
            intro hl
            rcases hst with y | y
            · have : gA w f k (c + 1) < (w c : Int) * gR w f (c + 1) := by
                by_cases c0 : c = 0
                · subst c0; exact g_one hg.2.2.1 hk
                · have := hno c (by omega) (by omega)
                  refine g_below hg.2.2.1 ?_
                  unfold gLast at this
                  have := fun y => this (Or.inr y)
                  omega
              rw [ht.mpr this] at y; cases y
            · rw [hs.mpr hl] at y; cases y
          · exact hno j j1 (by omega)
        · right
          refine ⟨j, j1, by omega, j3, j4, j5, j6, fun hc6 => ?_⟩
          have a1 := g_above (j7 (by omega))
          have a2 := hg.2.1 c (c + 1) (by omega) hc6
          have a3 : ((w (c + 1) : Nat) : Int) * gR w f (c + 1) ≤ (w c : Int) * gR w f (c + 1) := Int.mul_le_mul_of_nonneg_right (by omega) (by omega)
          omega
      cases t
      · refine ⟨fun _ => ?_, fun y => absurd rfl y⟩
        rintro x rfl
        exact stay (Or.inl rfl)
      · refine ⟨fun y => absurd y (by decide), fun _ => ?_⟩
        cases s
        · refine ⟨fun _ => ?_, fun y => absurd rfl y⟩
          rintro x rfl
          exact stay (Or.inr rfl)
        · refine ⟨fun y => absurd y (by decide), fun _ => ?_⟩
          rintro S5 rfl S6 rfl x rfl
          rw [sL_2, nI_1]
          refine hK _ (by omega) ⟨_, _, rfl, Or.inr ?_⟩
          have ht2 := ht.mp rfl
          have hs2 := hs.mp rfl
          refine ⟨c + 1, by omega, by omega, hs2, ?_, rfl, rfl, fun hc6 => ?_⟩
          · rcases hc2 with hno | ⟨j, j1, j2, j3, j4, j5, j6, j7⟩
            · exact fun i i1 i2 => hno i i1 (by omega)
            · have := g_above (j7 (by omega))
              omega
          · rcases hs2 with y | y
            · omega
            · exact y
    refine rX10_lines hg (by omega) hwr ?_
    have tail : ∀ t : Bool, (t = true ↔ gA w f k (c + 1) < (w c : Int) * gR w f (c + 1)) → qX10_play_J223 (nI k) (nI f) Q K (nI (c + 1), gU w f k (c + 1), lN (gR w f (c + 1)), (if t then 1 else 0), sL (sL (sA M 42 r) 0 p) 1 q) := by
      intro t ht
      refine br_eq (fun _ y => ?_) (fun _ y => ⟨in_of (by omega) (by omega), ?_⟩)
      · exact fin true ⟨fun _ => Or.inl (by omega), fun _ => rfl⟩ t ht
      · have c3 := gW_ti hg (m := c + 1) (i := c + 1) (by omega) (by omega)
        have hwn := hg.1 (c + 1) (by omega)
        rw [tN_nI (by omega), hwr (c + 1) (by omega), nI_l (by omega)]
        refine ⟨fun y2 => ?_, fun y2 => ?_⟩
        · have y2 := cmp_i.2.2.mp y2
          rw [c1.1, c3] at y2
          refine fin false ⟨fun y3 => (by cases y3), fun y3 => ?_⟩ t ht
          rcases y3 with y3 | y3
          · omega
          · omega
        · have y2 : ¬ (gU w f k (c + 1)).toInt < (lN (w (c + 1)) * lN (gR w f (c + 1))).toInt := fun y3 => y2 (cmp_i.2.2.mpr y3)
          rw [c1.1, c3] at y2
          exact fin true ⟨fun _ => Or.inr (by omega), fun _ => rfl⟩ t ht
    refine rX10_sums hg (by omega) (by omega) hwr (fun y => ?_) (fun y => ?_)
    · rw [g_c0 hg.2.2.2.2, show c + 1 - 1 = c by omega, c1.1, c2] at y
      rw [g_c0 hg.2.2.2.2]
      exact tail false ⟨fun y2 => (by cases y2), fun y2 => by omega⟩
    · rw [g_c0 hg.2.2.2.2, show c + 1 - 1 = c by omega, c1.1, c2] at y
      rw [g_c0 hg.2.2.2.2]
      exact tail true ⟨fun _ => y, fun _ => rfl⟩
