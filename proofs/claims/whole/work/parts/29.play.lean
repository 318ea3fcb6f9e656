/-! the reference's play whole; worths as numbers -/
theorem rX10_sort {M : gS} {a1 a2 : Int32} {Q : gS → Prop} (h : lp (qX10_play_L93 a1 a2 Q) (1, sL (sL (sA M 42 (srtF (ga M 42) (ga M 1) 6)) 0 (srtF (ga M 42) (ga M 1) 6 0).toInt64) 1 1)) : qX10_play M a1 a2 Q := by
  have l6 : (6 : Int32).toInt = 6 := by decide
  have l0 : (0 : Int32).toInt = 0 := by decide
  refine lp_up 6 (fun c x => x = (nI c, sA M 42 (srtF (ga M 42) (ga M 1) c))) ?_ _ (by simp only [srtF, sA_self]; rfl)
  rintro K c _ hc rfl hK
  have e : (nI c).toInt = c := nI_ti (by omega)
  refine br_le (fun q => ?_) (fun q => ?_)
  · obtain rfl : c = 6 := by omega
    refine ⟨in_of (by decide) (by decide), ?_⟩
    rintro S40 rfl S41 rfl
    rw [ga_at, show (0 : Int32).toNatClampNeg = 0 from rfl]
    exact h
  · have inner : ∀ (i : Nat) (f : Nat → Int32), i ≤ c → insF f (ga M 1 c) i = srtF (ga M 42) (ga M 1) (c + 1) → lp (qX10_play_L11 a1 a2 Q K) (nI c, nI i, sA M 42 f) := by
      intro i f hi hf
      refine lp_inv (fun x => ∃ (i : Nat) (f : Nat → Int32), i ≤ c ∧ insF f (ga M 1 c) i = srtF (ga M 42) (ga M 1) (c + 1) ∧ x = (nI c, nI i, sA M 42 f)) (fun x => x.2.1.toNatClampNeg) ?_ _ ⟨i, f, hi, hf, rfl⟩
      rintro K2 _ ⟨i, f, hi, hf, rfl⟩ hK2
      have ei : (nI i).toInt = i := nI_ti (by omega)
      have stop : ∀ z : insF f (ga M 1 c) i = upd f i (ga M 1 c), qX10_play_J56 a1 a2 Q K (nI c, nI i, sA M 42 f) := by
        intro z
        refine ⟨in_of (by omega) (by omega), in_of (by omega) (by omega), ?_⟩
        rintro S2 rfl x rfl
        rw [nI_1, tN_nI (by omega), tN_nI (by omega), ga_at, sA_sA, ga_ne (by decide), ← z, hf]
        exact hK _ (by omega) rfl
      refine br_le (fun q2 => stop ?_) (fun q2 => ?_)
      · obtain rfl : i = 0 := by omega
        rfl
      · obtain ⟨i, rfl⟩ : ∃ k, i = k + 1 := ⟨i - 1, by omega⟩
        have e3 : nI (i + 1) - 1 = nI i := nI_pred i
        have e4 : nI (i + 1) + -1 = nI i := pk_m1 i
        have ei2 : (nI i).toInt = i := nI_ti (by omega)
        rw [e3, e4]
        refine ⟨in_of (by omega) (by omega), in_of (by omega) (by omega), ?_⟩
        rw [tN_nI (by omega), tN_nI (by omega), tN_nI (by omega), ga_at, ga_ne (by decide)]
        refine ⟨fun q3 => stop ?_, fun q3 => ⟨in_of (by omega) (by omega), ?_⟩⟩
        · show (if ga M 1 c ≤ f i then _ else _) = _
          rw [if_pos q3]
        · rintro S9 rfl y rfl
          rw [sA_sA]
          refine hK2 _ ⟨i, upd f (i + 1) (f i), by omega, ?_, rfl⟩ ?_
          · rw [← hf]
            show _ = (if ga M 1 c ≤ f i then _ else _)
            rw [if_neg q3]
          · show (nI i).toNatClampNeg < (nI (i + 1)).toNatClampNeg
            rw [tN_nI (by omega), tN_nI (by omega)]; omega
    exact inner c _ (Nat.le_refl _) rfl
theorem rX10_play {M : gS} {w : Nat → Nat} {f k : Nat} (hg : gOk w f k) (hw : ∀ i, i < 6 → srtF (ga M 42) (ga M 1) 6 i = nI (w i)) {Q : gS → Prop}
    (h : ∀ m, 1 ≤ m → m ≤ 6 → gLast w f k m → (∀ j, 1 ≤ j → j < m → ¬ gLast w f k j) → Q (sL (sL (sA M 42 (srtF (ga M 42) (ga M 1) 6)) 0 (gU w f k m)) 1 (lN (gR w f m)))) : qX10_play M (nI k) (nI f) Q := by
  refine rX10_sort ?_
  by_cases hk : 1 ≤ k
  · exact rX10_play_L hg hk hw h
  · obtain rfl : k = 0 := by omega
    have l0 : (0 : Int32).toInt = 0 := by decide
    have l1 : (1 : Int32).toInt = 1 := by decide
    have l6 : (6 : Int32).toInt = 6 := by decide
    have hw0 := hg.1 0 (by omega)
    have hl : gLast w f 0 1 := by
      right
      have := hg.2.1 0 1 (by omega) (by omega)
      simp [gA, gG, gP, gR]
      omega
    have := h 1 (by omega) (by omega) hl (fun j h1 h2 => by omega)
    have e1 : gU w f 0 1 = (srtF (ga M 42) (ga M 1) 6 0).toInt64 := by
      rw [hw 0 (by omega), nI_l (by omega)]
      show lN (0 * (w 0 + f) + w 0 * 1) - lN 0 * lN (1 * (w 0 + f)) = _
      rw [lN_mul, Nat.zero_mul, Nat.zero_mul, Nat.zero_add, Nat.mul_one]
      exact Int64.sub_zero _
    have e2 : lN (gR w f 1) = 1 := by
      show lN (0 * (w 0 + f) + 1) = _
      rw [Nat.zero_mul]
      rfl
    rw [e1, e2] at this
    refine lp_up 1 (fun c x => c = 0 ∧ x = ((1 : Int32), sL (sL (sA M 42 (srtF (ga M 42) (ga M 1) 6)) 0 (srtF (ga M 42) (ga M 1) 6 0).toInt64) 1 1)) ?_ _ ⟨rfl, rfl⟩
    rintro K c _ hc ⟨rfl, rfl⟩ hK
    exact br_lt (fun z => by omega) (fun z => ⟨fun _ => this, fun y => absurd (Int32.le_refl _) y⟩)
/-- the sorted worths, as numbers, the same on both sides -/
theorem RS_w {S M : gS} (hR : RS S M) {f k : Nat} (hf : 1 ≤ f ∧ f ≤ 99) (hk : k ≤ 6) : ∃ w : Nat → Nat, gOk w f k ∧ (∀ i, i < 6 → srtF (ga S 51) (ga S 8) 6 i = nI (w i)) ∧ (∀ i, i < 6 → srtF (ga M 42) (ga M 1) 6 i = nI (w i)) := by
  have ok := srtF_ok (f := ga S 51) (W := ga S 8) (c := 6) (P := fun x => 1 ≤ x.toInt ∧ x.toInt ≤ 99) (fun i hi => RS_ba hR (i := 8) (n := 6) (lo := 1) (hi := 99) (by decide) hi)
  have h1 : ∀ i, i < 6 → srtF (ga S 51) (ga S 8) 6 i = nI (srtF (ga S 51) (ga S 8) 6 i).toNatClampNeg := fun i hi => by
    have := ok.2 i hi
    exact (cl_lt (n := 100) (by omega) (by omega)).2.2
  refine ⟨fun i => (srtF (ga S 51) (ga S 8) 6 i).toNatClampNeg, ⟨fun i hi => ?_, fun i j hij hj => ?_, hf.1, hf.2, hk⟩, h1, fun i hi => ?_⟩
  · have := ok.2 i hi
    have := tn_ti (x := srtF (ga S 51) (ga S 8) 6 i) (by omega)
    show 1 ≤ (srtF (ga S 51) (ga S 8) 6 i).toNatClampNeg ∧ (srtF (ga S 51) (ga S 8) 6 i).toNatClampNeg ≤ 99
    omega
  · have a := ok.1 i j hij hj
    have := ok.2 i (by omega)
    have := ok.2 j hj
    have := tn_ti (x := srtF (ga S 51) (ga S 8) 6 i) (by omega)
    have := tn_ti (x := srtF (ga S 51) (ga S 8) 6 j) (by omega)
    show (srtF (ga S 51) (ga S 8) 6 j).toNatClampNeg ≤ (srtF (ga S 51) (ga S 8) 6 i).toNatClampNeg
    omega
  · rw [← h1 i hi, ← RS_a hR (i := 8) (j := 1) (by decide)]
    exact srtF_eq i hi
/-- the first m of the class's walk is that of the reference's -/
theorem g_uniq {w : Nat → Nat} {f k m n : Nat} (m1 : 1 ≤ m) (n1 : 1 ≤ n) (hm : gLast w f k m) (hm2 : ∀ j, 1 ≤ j → j < m → ¬ gLast w f k j) (hn : gLast w f k n) (hn2 : ∀ j, 1 ≤ j → j < n → ¬ gLast w f k j) : m = n := by
  rcases Nat.lt_trichotomy m n with z | z | z
  · exact absurd hm (hn2 m m1 z)
  · exact z
  · exact absurd hn (hm2 n n1 z)
theorem rX10_refuseBig {S : gS} {a : Int32} {Q : Int64 → gS → Prop} (k : Nat) (hk : k < 8) (ha : -a = nI k) (h : Q (4000000000000000000 - a.toInt64) (rfM S k)) : qX10_refuseBig S a Q := by
  have e : (nI k).toInt = k := nI_ti (by omega)
  have e2 : (nI k).toNatClampNeg = k := nI_clamp (by omega)
  refine ⟨by rw [ha]; exact in_of (by omega) (by omega), ?_⟩
  intro S1 h1
  subst h1
  rw [ha, e2]
  exact h
/-- both games give the same value, with the relation kept -/
theorem s_game {S M : gS} (hR : RS S M) {k f : Int32} (hk : 0 ≤ k.toInt ∧ k.toInt ≤ 6) (hf : 1 ≤ f.toInt ∧ f.toInt ≤ 99) {Q : gS → gS → Prop}
    (h : ∀ (S' M' : gS) (a b : Int64), RS S' M' → gl S' 0 = a → gl S' 1 = b → gl M' 0 = a → gl M' 1 = b → ga S' 8 = ga S 8 → -400000000000000 ≤ a.toInt ∧ a.toInt ≤ 400000000000000 → 1 ≤ b.toInt ∧ b.toInt ≤ 1825900895808 → Q S' M') : qX2_solve S k f (fun S' => qX10_play M k f (fun M' => Q S' M')) := by
  obtain ⟨kn, k1, k2, k3, k4⟩ := ex_nI hk.1
  obtain ⟨fn, f1, f2, f3, f4⟩ := ex_nI (x := f) (by omega)
  obtain ⟨w, hg, w1, w2⟩ := RS_w hR (f := fn) (k := kn) ⟨by omega, by omega⟩ (by omega)
  rw [k2, f2]
  refine rX2_solve hg w1 (fun m m1 m6 hl hn => rX10_play hg w2 (fun n n1 n6 hl2 hn2 => ?_))
  obtain rfl := g_uniq m1 n1 hl hn hl2 hn2
  have c := gU_ti hg m6
  have b := g_all hg m6
  have e := pk_lT (n := gR w fn m) (by omega)
  refine h _ _ (gU w fn kn m) (lN (gR w fn m)) ?_ rfl rfl rfl rfl rfl ⟨by omega, by omega⟩ ⟨by omega, by omega⟩
  exact RS_al (RS_ar hR (by decide) (by decide)) (by decide) (by decide) (by decide)
