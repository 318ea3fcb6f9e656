/-! the reference's best set, and that both name the same -/
def bet (g : Nat → Int) (n U B : Nat) : Prop := bsum g U n < bsum g B n ∨ (bsum g U n = bsum g B n ∧ (pcN B 12 < pcN U 12 ∨ (pcN B 12 = pcN U 12 ∧ B ≤ U)))
theorem rX10_L51 {M : gS} {a1 : Int32} {Q : Int32 → gS → Prop} {K31 : Int32 × Int32 × Int32 × gS → Prop} {c g : Nat → Int} {n B T : Nat} {v3 : Int32} (hn : gi M 3 = nI n) (hn12 : n ≤ 12) (hT : T < 4096) (hB : B < 4096) (hc : ∀ k, k < 12 → (ga M 15 k).toInt = c k) (hcb : ∀ k, k < 12 → 0 ≤ c k ∧ c k ≤ 20) (hg : ∀ k, k < 12 → (ga M 16 k).toInt = g k) (hgb : ∀ k, k < 12 → 0 ≤ g k ∧ g k ≤ 999)
    (k1 : a1.toInt < bsum c T n → K31 (nI B, v3, nI (T + 1), M))
    (k2 : ∀ sm : Int32, bsum c T n ≤ a1.toInt → sm.toInt = bsum g T n → (v3.toInt < sm.toInt ∨ (sm = v3 ∧ pcN T 12 < pcN B 12)) → K31 (nI T, sm, nI (T + 1), M))
    (k3 : bsum c T n ≤ a1.toInt → (bsum g T n < v3.toInt ∨ (bsum g T n = v3.toInt ∧ pcN B 12 ≤ pcN T 12)) → K31 (nI B, v3, nI (T + 1), M)) : lp (qX10_best_L51 a1 Q K31) (nI B, v3, nI T, (0 : Int32), (0 : Int32), (0 : Int32), M) := by
  have l0 : (0 : Int32).toInt = 0 := by decide
  have en := nI_ti (n := n) (by omega)
  have eT1 : nI T + (1 : Int32) = nI (T + 1) := (nI_succ T).symm
  refine lp_up n (fun i a => ∃ cs sm : Int32, cs.toInt = bsum c T i ∧ sm.toInt = bsum g T i ∧ a = (nI B, v3, nI T, cs, sm, nI i, M)) ?_ _ ⟨0, 0, rfl, rfl, rfl⟩
  rintro K51 i _ hi ⟨cs, sm, hcs, hsm, rfl⟩ hK
  have ei := nI_ti (n := i) (by omega)
  have c1 := bsum_nn (c := c) (T := T) (n := i) (fun k hk => (hcb k (by omega)).1)
  have c2 := bsum_bd (c := c) (T := T) (n := i) (m := 20) (by decide) (fun k hk => hcb k (by omega))
  have g1 := bsum_nn (c := g) (T := T) (n := i) (fun k hk => (hgb k (by omega)).1)
  have g2 := bsum_bd (c := g) (T := T) (n := i) (m := 999) (by decide) (fun k hk => hgb k (by omega))
  show (gi M 3 ≤ nI i → ((a1 < cs → (∀ x10 : Int32, x10 = nI T + (1 : Int32) → (K31 (nI B, v3, x10, M)))) ∧ (¬ a1 < cs → ((v3 < sm → (∀ x12 : Int32, x12 = nI T + (1 : Int32) → (K31 (nI T, sm, x12, M)))) ∧ (¬ v3 < sm → ((sm = v3 → (qX10_ones M (nI T) (fun r16 S15 => qX10_ones S15 (nI B) (fun r18 S17 => (r18 ≤ r16 → (∀ x20 : Int32, x20 = nI T + (1 : Int32) → (K31 (nI B, v3, x20, S17)))) ∧ (¬ r18 ≤ r16 → (∀ x21 : Int32, x21 = nI T + (1 : Int32) → (K31 (nI T, sm, x21, S17)))))))) ∧ (¬ sm = v3 → (∀ x14 : Int32, x14 = nI T + (1 : Int32) → (K31 (nI B, v3, x14, M)))))))))) ∧ (¬ gi M 3 ≤ nI i → ((((nI T >>> (nI i &&& 31)) &&& (1 : Int32)) = (1 : Int32) → (vp_in (nI i) 12 ∧ (qX10_best_J84 a1 Q K31 K51 (nI B, v3, nI T, sm, nI i, (ga M 15 (nI i).toNatClampNeg), cs, M)))) ∧ (¬ ((nI T >>> (nI i &&& 31)) &&& (1 : Int32)) = (1 : Int32) → (qX10_best_J84 a1 Q K31 K51 (nI B, v3, nI T, sm, nI i, (0 : Int32), cs, M)))))
  rw [hn, eT1, tN_nI (k := i) (by omega)]
  refine br_le (fun q => ?_) (fun q => ?_)
  · obtain rfl : i = n := by omega
    refine br_lt (fun q2 => ?_) (fun q2 => ?_)
    · rintro x rfl
      exact k1 (by omega)
    · refine br_lt (fun q3 => ?_) (fun q3 => ?_)
      · rintro x rfl
        exact k2 sm (by omega) hsm (Or.inl q3)
      · refine br_eq (fun q4 q5 => ?_) (fun q4 q5 => ?_)
        · refine rX10_ones hT (rX10_ones hB ?_)
          have b1 := pcN_le (T := T) (n := 12)
          have b2 := pcN_le (T := B) (n := 12)
          have e1 := nI_ti (n := pcN T 12) (by omega)
          have e2 := nI_ti (n := pcN B 12) (by omega)
          refine br_le (fun q6 => ?_) (fun q6 => ?_)
          · rintro x rfl
            exact k3 (by omega) (Or.inr ⟨by omega, by omega⟩)
          · rintro x rfl
            exact k2 sm (by omega) hsm (Or.inr ⟨q4, by omega⟩)
        · rintro x rfl
          exact k3 (by omega) (Or.inl (by omega))
  · have hb := bit_at (T := T) (i := i) hT (by omega)
    have ei1 : nI i + (1 : Int32) = nI (i + 1) := (nI_succ i).symm
    have ec := hc i (by omega)
    have cb := hcb i (by omega)
    have eg := hg i (by omega)
    have gb := hgb i (by omega)
    have sc := bsum_step (f := c) (T := T) (n := i)
    have sg := bsum_step (f := g) (T := T) (n := i)
    refine ⟨fun q2 => ⟨in_of (by omega) (by omega), ?_⟩, fun q2 => ?_⟩
    · have tb := hb.mp q2
      rw [if_pos tb] at sc sg
      rintro x1 rfl
      refine ⟨fun _ => ⟨in_of (by omega) (by omega), ?_⟩, fun z => absurd q2 z⟩
      rw [tN_nI (k := i) (by omega)]
      rintro x6 rfl x7 rfl
      rw [ei1]
      exact hK _ (by omega) ⟨_, _, by rw [ti_add] <;> omega, by rw [ti_add] <;> omega, rfl⟩
    · have tb : ¬ T.testBit i = true := fun z => q2 (hb.mpr z)
      rw [if_neg tb] at sc sg
      rintro x1 rfl
      refine ⟨fun z => absurd z q2, fun _ => ?_⟩
      rintro x6 rfl x7 rfl
      rw [ei1]
      exact hK _ (by omega) ⟨_, _, by rw [ti_add] <;> omega, by rw [ti_add] <;> omega, rfl⟩
theorem bet_rf {g : Nat → Int} {n B : Nat} : bet g n B B := Or.inr ⟨rfl, Or.inr ⟨rfl, Nat.le_refl _⟩⟩
theorem rX10_L31 {M : gS} {a1 : Int32} {Q : Int32 → gS → Prop} {c g : Nat → Int} {n : Nat} (hn : gi M 3 = nI n) (hn12 : n ≤ 12) (ha : 0 ≤ a1.toInt ∧ a1.toInt ≤ 100) (hc : ∀ k, k < 12 → (ga M 15 k).toInt = c k) (hcb : ∀ k, k < 12 → 0 ≤ c k ∧ c k ≤ 20) (hg : ∀ k, k < 12 → (ga M 16 k).toInt = g k) (hgb : ∀ k, k < 12 → 0 ≤ g k ∧ g k ≤ 999)
    (h : ∀ B, B < 2 ^ n → bsum c B n ≤ a1.toInt → (∀ U, U < 2 ^ n → bsum c U n ≤ a1.toInt → bet g n U B) → Q (nI B) M) : lp (qX10_best_L31 a1 Q) ((0 : Int32), (0 : Int32), (1 : Int32), M) := by
  have p : (2 : Nat) ^ n ≤ 2 ^ 12 := Nat.pow_le_pow_right (by decide) hn12
  have p2 : (2 : Nat) ^ 12 = 4096 := by decide
  have p3 : 0 < (2 : Nat) ^ n := Nat.two_pow_pos n
  have es : ((1 : Int32) <<< (nI n &&& 31)) = nI (2 ^ n) := shl_n ⟨n, by omega⟩
  have ep := nI_ti (n := 2 ^ n) (by omega)
  refine lp_up (2 ^ n - 1) (fun k a => ∃ (B : Nat) (v3 : Int32), B ≤ k ∧ bsum c B n ≤ a1.toInt ∧ v3.toInt = bsum g B n ∧ (∀ U, U ≤ k → bsum c U n ≤ a1.toInt → bet g n U B) ∧ a = (nI B, v3, nI (k + 1), M)) ?_ _ ⟨0, 0, Nat.le_refl _, by rw [bsum_zero]; exact ha.1, by rw [bsum_zero]; rfl, fun U hU _ => by rw [Nat.le_zero.mp hU]; exact bet_rf, rfl⟩
  rintro K k _ hk ⟨B, v3, b1, b2, b3, b4, rfl⟩ hK
  have ek := nI_ti (n := k + 1) (by omega)
  show (((1 : Int32) <<< (gi M 3 &&& 31)) ≤ nI (k + 1) → Q (nI B) M) ∧ (¬ ((1 : Int32) <<< (gi M 3 &&& 31)) ≤ nI (k + 1) → lp (qX10_best_L51 a1 Q K) (nI B, v3, nI (k + 1), (0 : Int32), (0 : Int32), (0 : Int32), M))
  rw [hn, es]
  refine br_le (fun q => ?_) (fun q => ?_)
  · exact h B (by omega) b2 (fun U hU => b4 U (by omega))
  · refine rX10_L51 hn hn12 (by omega) (by omega) hc hcb hg hgb (fun q1 => ?_) (fun sm q1 q2 q3 => ?_) (fun q1 q2 => ?_)
    · refine hK _ (by omega) ⟨B, v3, by omega, b2, b3, fun U hU hc2 => ?_, rfl⟩
      rcases Nat.lt_or_ge k U with z | z
      · obtain rfl : U = k + 1 := by omega
        omega
      · exact b4 U z hc2
    · refine hK _ (by omega) ⟨k + 1, sm, Nat.le_refl _, q1, q2, fun U hU hc2 => ?_, rfl⟩
      rcases Nat.lt_or_ge k U with z | z
      · obtain rfl : U = k + 1 := by omega
        exact bet_rf
      · have old := b4 U z hc2
        unfold bet at old ⊢
        rcases q3 with q3 | ⟨q3, q4⟩
        · left; omega
        · rw [q3] at q2
          omega
    · refine hK _ (by omega) ⟨B, v3, by omega, b2, b3, fun U hU hc2 => ?_, rfl⟩
      rcases Nat.lt_or_ge k U with z | z
      · obtain rfl : U = k + 1 := by omega
        unfold bet
        omega
      · exact b4 U z hc2
theorem s_best {S M : gS} (hR : RS S M) (a1 : Int32) : qX9_best S a1 (fun r S' => qX10_best M a1 (fun r' M' => r = r' ∧ RS S' M')) := by
  have l0 : (0 : Int32).toInt = 0 := by decide
  have l100 : (100 : Int32).toInt = 100 := by decide
  obtain ⟨n, hn, en, en2, -⟩ := ex_nI (x := gi S 5) (RS_bi hR (lo := 0) (hi := 12) (by decide)).1
  have hb5 := RS_bi hR (i := 5) (lo := 0) (hi := 12) (by decide)
  have n12 : n ≤ 12 := by omega
  have em : gi M 3 = nI n := by rw [← RS_i hR (i := 5) (j := 3) (by decide), en]
  have e15 : ga S 31 = ga M 15 := RS_a hR (by decide)
  have e16 : ga S 32 = ga M 16 := RS_a hR (by decide)
  obtain ⟨c, hc⟩ : ∃ c : Nat → Int, ∀ k, (ga S 31 k).toInt = c k := ⟨fun k => (ga S 31 k).toInt, fun _ => rfl⟩
  obtain ⟨g, hg⟩ : ∃ g : Nat → Int, ∀ k, (ga S 32 k).toInt = g k := ⟨fun k => (ga S 32 k).toInt, fun _ => rfl⟩
  have hcb : ∀ k, k < 12 → 0 ≤ c k ∧ c k ≤ 20 := fun k hk => by rw [← hc]; exact RS_ba hR (i := 31) (n := 12) (lo := 0) (hi := 20) (by decide) hk
  have hgb : ∀ k, k < 12 → 0 ≤ g k ∧ g k ≤ 999 := fun k hk => by rw [← hg]; exact RS_ba hR (i := 32) (n := 12) (lo := 0) (hi := 999) (by decide) hk
  have p : (2 : Nat) ^ n ≤ 2 ^ 12 := Nat.pow_le_pow_right (by decide) n12
  have p2 : (2 : Nat) ^ 12 = 4096 := by decide
  refine br_le (fun q => br_le (fun q2 => ?_) (fun q2 => ?_)) (fun q => ?_)
  · refine rX3_bestSet en n12 ⟨by omega, by omega⟩ (c := c) (g := g) (fun k _ => hc k) hcb (fun k _ => hg k) hgb (fun f T t1 t2 t3 => ?_)
    refine br_le (fun _ => br_le (fun _ => ?_) (fun z => by omega)) (fun z => by omega)
    refine rX10_L31 em n12 ⟨by omega, by omega⟩ (c := c) (g := g) (fun k _ => by rw [← e15]; exact hc k) hcb (fun k _ => by rw [← e16]; exact hg k) hgb (fun B u1 u2 u3 => ?_)
    have x1 := u3 T t1 t2
    have x2 := score_le n12 u1 t1 (t3 B u1 u2)
    unfold bet at x1
    rw [pcN_bsum, pcN_bsum, ← bsum_pc t1 n12, ← bsum_pc u1 n12] at x2
    have e : T = B := by omega
    subst e
    exact ⟨rfl, RS_sC hR f⟩
  · refine rX9_refuse 6 (by decide) (by decide) ?_
    refine br_le (fun _ => br_le (fun z => by omega) (fun _ => ?_)) (fun z => by omega)
    refine rX10_refuse 6 (by decide) (by decide) ?_
    exact ⟨rfl, RS_rf hR 6⟩
  · refine rX9_refuse 4 (by decide) (by decide) ?_
    refine br_le (fun z => by omega) (fun _ => ?_)
    refine rX10_refuse 4 (by decide) (by decide) ?_
    exact ⟨rfl, RS_rf hR 4⟩
