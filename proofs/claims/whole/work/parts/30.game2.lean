/-! value and chance: what both walks find, said once -/
def FG (S : gS) (k f : Int32) (a b : Int64) : Prop := ∃ (w : Nat → Nat) (m kn fn : Nat), k = nI kn ∧ f = nI fn ∧ gOk w fn kn ∧ (∀ i, i < 6 → srtF (ga S 51) (ga S 8) 6 i = nI (w i)) ∧ 1 ≤ m ∧ m ≤ 6 ∧ gLast w fn kn m ∧ (∀ j, 1 ≤ j → j < m → ¬ gLast w fn kn j) ∧ a = gU w fn kn m ∧ b = lN (gR w fn m)
theorem rX2_solve2 {S M : gS} (hR : RS S M) {k f : Int32} (hk : 0 ≤ k.toInt) (hk6 : k.toInt ≤ 6) (hf : 1 ≤ f.toInt) (hf9 : f.toInt ≤ 99) {Q : gS → Prop}
    (h : ∀ (S2 : gS) (a b : Int64), FG S k f a b → RS S2 M → gl S2 0 = a → gl S2 1 = b → ga S2 8 = ga S 8 → (-400000000000000 ≤ a.toInt ∧ a.toInt ≤ 400000000000000) → (1 ≤ b.toInt ∧ b.toInt ≤ 1825900895808) → Q S2) : qX2_solve S k f Q := by
  obtain ⟨kn, k1, k2, k3, k4⟩ := ex_nI hk
  obtain ⟨fn, f1, f2, f3, f4⟩ := ex_nI (x := f) (by omega)
  obtain ⟨w, hg, w1, w2⟩ := RS_w hR (f := fn) (k := kn) ⟨by omega, by omega⟩ (by omega)
  subst k2; subst f2
  refine rX2_solve hg w1 (fun m m1 m6 hl hn => ?_)
  have c := gU_ti hg m6
  have b := g_all hg m6
  have e := pk_lT (n := gR w fn m) (by omega)
  exact h _ _ _ ⟨w, m, kn, fn, rfl, rfl, hg, w1, m1, m6, hl, hn, rfl, rfl⟩ (RS_al hR (i := 51) (by decide) (by decide) (by decide)) rfl rfl rfl ⟨by omega, by omega⟩ ⟨by omega, by omega⟩
theorem rX10_play2 {S M S2 : gS} (hR : RS S M) {k f : Int32} {a b : Int64} (fg : FG S k f a b) (hS2 : RS S2 M) {Q : gS → Prop}
    (h : ∀ M2 : gS, RS S2 M2 → gl M2 0 = a → gl M2 1 = b → ga M2 1 = ga M 1 → Q M2) : qX10_play M k f Q := by
  obtain ⟨w, m, kn, fn, rfl, rfl, hg, w1, m1, m6, hl, hn, rfl, rfl⟩ := fg
  have w2 : ∀ i, i < 6 → srtF (ga M 42) (ga M 1) 6 i = nI (w i) := fun i hi => by
    rw [← w1 i hi, ← RS_a hR (i := 8) (j := 1) (by decide)]
    exact srtF_eq i hi
  refine rX10_play hg w2 (fun n n1 n6 hl2 hn2 => ?_)
  obtain rfl := g_uniq m1 n1 hl hn hl2 hn2
  exact h _ (RS_ar hS2 (by decide) (by decide)) rfl rfl rfl
/-- a chance's upper number: not below 0 -/
def chZ (x : Int64) : Int64 := if 0 ≤ x.toInt then x else 0
theorem rC_ch {S : gS} {X Y : Int64} {p : Int32} {Q : Int64 → gS → Prop} (hY : 0 < Y.toInt) (hY2 : Y.toInt < 562949953421312) (h1 : p = 0 → Q (chZ X / gN (chZ X) Y) S) (h2 : ¬ p = 0 → Q (Y / gN (chZ X) Y) S) : (0 ≤ lg_cmp X 0 → qX9_lowest S X Y p Q) ∧ (¬ 0 ≤ lg_cmp X 0 → qX9_lowest S 0 Y p Q) := by
  have e0 : (0 : Int64).toInt = 0 := by decide
  unfold chZ at h1 h2
  refine ⟨fun q => ?_, fun q => ?_⟩
  · have q := cmp_ge.mp q
    rw [if_pos q] at h1 h2
    exact rX9_lowest (by omega) hY hY2 h1 h2
  · have q : ¬ 0 ≤ X.toInt := fun z => q (cmp_ge.mpr z)
    rw [if_neg q] at h1 h2
    exact rX9_lowest (by omega) hY hY2 h1 h2
theorem rM_ch {M : gS} {a1 a2 a3 p : Int32} {X : Int64} {Q : Int64 → gS → Prop} (hc : 0 ≤ a1.toInt ∧ a1.toInt ≤ 5) (hX : -9223372036854775808 < X.toInt) (hY : 0 < (gl M 1 * (ga M 1 a1.toNatClampNeg + a3).toInt64).toInt) (h1 : p = 0 → Q (chZ X / gN (chZ X) (gl M 1 * (ga M 1 a1.toNatClampNeg + a3).toInt64)) M) (h2 : ¬ p = 0 → Q ((gl M 1 * (ga M 1 a1.toNatClampNeg + a3).toInt64) / gN (chZ X) (gl M 1 * (ga M 1 a1.toNatClampNeg + a3).toInt64)) M) : (lg_cmp X 0 ≤ 0 → qX10_chance_J103 a1 a2 a3 p Q (0, M)) ∧ (¬ lg_cmp X 0 ≤ 0 → qX10_chance_J103 a1 a2 a3 p Q (X, M)) := by
  have e0 : (0 : Int64).toInt = 0 := by decide
  unfold chZ at h1 h2
  refine ⟨fun q => ⟨in_of hc.1 (by omega), ?_⟩, fun q => ⟨in_of hc.1 (by omega), ?_⟩⟩
  · have q := cmp_i.2.1.mp q
    have e : (if 0 ≤ X.toInt then X else 0) = 0 := by
      split
      · exact Int64.toInt_inj.mp (by omega)
      · rfl
    rw [e] at h1 h2
    exact rX10_side (by omega) hY h1 h2
  · have q : ¬ X.toInt ≤ (0 : Int64).toInt := fun z => q (cmp_i.2.1.mpr z)
    rw [if_pos (by omega)] at h1 h2
    exact rX10_side hX hY h1 h2
/-- the numbers of a chance stay small -/
theorem ch_bd {a b : Int64} {w f : Int32} (ha : -400000000000000 ≤ a.toInt ∧ a.toInt ≤ 400000000000000) (hb : 1 ≤ b.toInt ∧ b.toInt ≤ 1825900895808) (hw : 1 ≤ w.toInt ∧ w.toInt ≤ 99) (hf : 1 ≤ f.toInt ∧ f.toInt ≤ 99) : -9223372036854775808 < (w.toInt64 * b - a).toInt ∧ 0 < ((w + f).toInt64 * b).toInt ∧ ((w + f).toInt64 * b).toInt < 562949953421312 := by
  have e1 : (w + f).toInt = w.toInt + f.toInt := by rw [ti_add] <;> omega
  have m1 : 1 * 1 ≤ w.toInt * b.toInt := Int.mul_le_mul hw.1 hb.1 (by omega) (by omega)
  have m2 : w.toInt * b.toInt ≤ 99 * 1825900895808 := Int.mul_le_mul hw.2 hb.2 (by omega) (by omega)
  have m3 : 1 * 1 ≤ (w.toInt + f.toInt) * b.toInt := Int.mul_le_mul (by omega) hb.1 (by omega) (by omega)
  have m4 : (w.toInt + f.toInt) * b.toInt ≤ 198 * 1825900895808 := Int.mul_le_mul (by omega) hb.2 (by omega) (by omega)
  have e2 : (w.toInt64 * b).toInt = w.toInt * b.toInt := by rw [tl_mul] <;> rw [Int32.toInt_toInt64] <;> omega
  have e3 : ((w + f).toInt64 * b).toInt = (w.toInt + f.toInt) * b.toInt := by rw [tl_mul] <;> rw [Int32.toInt_toInt64, e1] <;> omega
  rw [tl_sub (by omega) (by omega), e2, e3]
  omega
