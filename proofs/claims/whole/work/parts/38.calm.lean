/-! a night: fears calm down -/
def dn (x : Int32) : Int32 := if x ≤ 0 then x else x - 1
theorem sub0 (x : Int32) : x - 0 = x := Int32.sub_zero x
theorem rX10_calm {M : gS} {Q : gS → Prop} (h : qX10_prove (sA M 12 (fun j => if j < 48 then dn (ga M 12 j) else ga M 12 j)) (fun S2 => Q S2)) : lp (qX10_pass_L91 Q) (0, M) := by
  have l48 : (48 : Int32).toInt = 48 := by decide
  refine lp_up 48 (fun k a => a = (nI k, sA M 12 (fun j => if j < k then dn (ga M 12 j) else ga M 12 j))) ?_ _ ?_
  · rintro K k _ hk rfl hK
    have e : (nI k).toInt = k := nI_ti (by omega)
    refine br_le (fun q => ?_) (fun q => ⟨in_of (by omega) (by omega), ?_⟩)
    · obtain rfl : k = 48 := by omega
      exact h
    · rw [tN_nI (by omega), ga_at, if_neg (Nat.lt_irrefl k)]
      have nx : ∀ v : Int32, v = dn (ga M 12 k) → upd (fun j => if j < k then dn (ga M 12 j) else ga M 12 j) k v = (fun j => if j < k + 1 then dn (ga M 12 j) else ga M 12 j) := by
        intro v hv
        funext j
        unfold upd
        by_cases q1 : j = k
        · subst q1; simp [hv]
        · by_cases q2 : j < k
          · simp [q1, q2, show j < k + 1 by omega]
          · simp [q1, q2, show ¬ j < k + 1 by omega]
      refine ⟨fun q1 => ?_, fun q1 => ?_⟩
      · rintro S5 rfl x rfl
        rw [nI_1, sA_sA, sub0, nx _ (by unfold dn; rw [if_pos q1])]
        exact hK _ (by omega) rfl
      · rintro S5 rfl x rfl
        rw [nI_1, sA_sA, nx _ (by unfold dn; rw [if_neg q1])]
        exact hK _ (by omega) rfl
  · have : (fun j => if j < 0 then dn (ga M 12 j) else ga M 12 j) = ga M 12 := by funext j; simp
    rw [this, sA_self]; rfl
/-- a state that is another but for the rows of fears -/
def rowsOf (S X : gS) : Prop := (∀ i, i < 21 ∨ 28 < i → ga X i = ga S i) ∧ (∀ k, gi X k = gi S k)
theorem rX0_calm {S : gS} {Q : gS → Prop} (hb : 0 ≤ (gi S 4).toInt ∧ (gi S 4).toInt ≤ 8) (h : ∀ X : gS, rowsOf S X → (∀ b c : Nat, (b : Int) < (gi S 4).toInt → c < 6 → ga X (21 + b) c = dn (ga S (21 + b) c)) → (∀ b c : Nat, b < 8 → (gi S 4).toInt ≤ b → ga X (21 + b) c = ga S (21 + b) c) → Q X) : qX0_calm S Q := by
  have tn := tn_ti hb.1
  have l6 : (6 : Int32).toInt = 6 := by decide
  refine lp_up (gi S 4).toNatClampNeg (fun b a => ∃ X : gS, a = (nI b, X) ∧ rowsOf S X ∧ (∀ d c : Nat, d < b → c < 6 → ga X (21 + d) c = dn (ga S (21 + d) c)) ∧ (∀ d c : Nat, d < 8 → b ≤ d → ga X (21 + d) c = ga S (21 + d) c)) ?_ _ ⟨S, rfl, ⟨fun _ _ => rfl, fun _ => rfl⟩, fun d c h => by omega, fun _ _ _ _ => rfl⟩
  rintro K b _ hbk ⟨X, rfl, hX, hlo, hhi⟩ hK
  have e : (nI b).toInt = b := nI_ti (by omega)
  have e4 := hX.2 4
  refine br_le (fun q => ?_) (fun q => ?_)
  · rw [e4] at q
    obtain rfl : b = (gi S 4).toNatClampNeg := by omega
    exact h X hX (fun d c h1 h2 => hlo d c (by omega) h2) (fun d c h1 h2 => hhi d c h1 (by omega))
  · rw [e4] at q
    refine lp_up 6 (fun c a => ∃ X : gS, a = (nI b, nI c, X) ∧ rowsOf S X ∧ (∀ d c : Nat, d < b → c < 6 → ga X (21 + d) c = dn (ga S (21 + d) c)) ∧ (∀ d c : Nat, d < 8 → b < d → ga X (21 + d) c = ga S (21 + d) c) ∧ (∀ j, j < c → ga X (21 + b) j = dn (ga S (21 + b) j)) ∧ (∀ j, c ≤ j → ga X (21 + b) j = ga S (21 + b) j)) ?_ _ ⟨X, rfl, hX, hlo, fun d c h1 h2 => hhi d c h1 (by omega), fun j hj => by omega, fun j _ => hhi b j (by omega) (Nat.le_refl _)⟩
    rintro K2 c _ hc ⟨X, rfl, hX, hlo, hhi, hm, hr⟩ hK2
    have e2 : (nI c).toInt = c := nI_ti (by omega)
    refine br_le (fun q2 => ?_) (fun q2 => ⟨in_of (by omega) (by omega), in_of (by omega) (by omega), ?_⟩)
    · obtain rfl : c = 6 := by omega
      rintro x rfl
      rw [nI_1]
      refine hK _ (by omega) ⟨X, rfl, hX, fun d c h1 h2 => ?_, fun d c h1 h2 => hhi d c h1 (by omega)⟩
      by_cases z : d = b
      · rw [z]; exact hm c h2
      · exact hlo d c (by omega) h2
    · rw [tN_nI (by omega), tN_nI (by omega), hr c (Nat.le_refl _)]
      refine ⟨fun q3 => ?_, fun q3 => ?_⟩
      · rintro x rfl
        rw [nI_1]
        refine hK2 _ (by omega) ⟨X, rfl, hX, hlo, hhi, fun j hj => ?_, fun j hj => hr j (by omega)⟩
        by_cases z : j = c
        · rw [z, hr c (Nat.le_refl _)]; unfold dn; rw [if_pos q3]
        · exact hm j (by omega)
      · rintro S7 rfl x rfl
        rw [nI_1]
        refine hK2 _ (by omega) ⟨_, rfl, ⟨fun i hi => ?_, fun k => hX.2 k⟩, fun d c h1 h2 => ?_, fun d c h1 h2 => ?_, fun j hj => ?_, fun j hj => ?_⟩
        · rw [ga_ne (by omega)]; exact hX.1 i hi
        · rw [ga_ne (by omega)]; exact hlo d c h1 h2
        · rw [ga_ne (by omega)]; exact hhi d c h1 h2
        · rw [ga_at]
          by_cases z : j = c
          · rw [z, upd_at]; unfold dn; rw [if_neg q3]
          · rw [upd_ne z]; exact hm j (by omega)
        · rw [ga_at, upd_ne (by omega)]; exact hr j (by omega)
theorem RN_calm {S M X : gS} (hN : RN S M) (hX : rowsOf S X) (h1 : ∀ b c : Nat, (b : Int) < (gi S 4).toInt → c < 6 → ga X (21 + b) c = dn (ga S (21 + b) c)) (h2 : ∀ b c : Nat, b < 8 → (gi S 4).toInt ≤ b → ga X (21 + b) c = ga S (21 + b) c) : RN X (sA M 12 (fun j => if j < 48 then dn (ga M 12 j) else ga M 12 j)) := by
  obtain ⟨hR, hC, hW⟩ := hN
  obtain ⟨g1, g2, g3, g4, g5, g6, g7, g8, g9, g10, g11⟩ := hR
  have hp : ∀ p ∈ pA, p.1 < 21 ∨ 28 < p.1 := by decide
  have hl : ∀ p ∈ lA, p.1 < 21 ∨ 28 < p.1 := by decide
  have r0 := hX.2
  refine ⟨⟨?_, ?_, ?_, ?_, ?_, ?_, ?_, ?_, ?_, ?_, ?_⟩, ?_, ?_⟩
  · intro p hq; rw [r0]; exact g1 p hq
  · refine RA_r (fun p hq => ?_) (by decide)
    rw [hX.1 p.1 (hp p hq)]; exact g2 p hq
  · intro p hq; rw [r0]; exact g3 p hq
  · intro p hq; rw [hX.1 p.1 (hl p hq)]; exact g4 p hq
  · intro b c hb hc
    rw [ga_at, if_pos (by omega)]
    rcases Int.lt_or_le (b : Int) (gi S 4).toInt with z | z
    · rw [h1 b c z hc, g5 b c hb hc]
    · rw [h2 b c hb z, ← g5 b c hb hc, g9.1 b c hb hc z]; rfl
  · intro t k ht hk
    rw [hX.1 6 (by decide)] at hk
    rw [hX.1 (2 + t) (by omega), ga_ne (by decide)]
    exact g6 t k ht hk
  · intro k hk
    rw [hX.1 38 (by decide), hX.1 39 (by decide), ga_ne (by decide)]
    exact g7 k hk
  · intro k hk
    rw [hX.1 33 (by decide), hX.1 38 (by decide), hX.1 39 (by decide), hX.1 35 (by decide), r0]
    exact g8 k hk
  · refine ⟨fun b c hb hc hs => ?_, fun k hk => ?_⟩
    · rw [r0] at hs
      rw [h2 b c hb hs]; exact g9.1 b c hb hc hs
    · rw [r0] at hk
      rw [hX.1 36 (by decide), r0]; exact g9.2 k hk
  · intro i j hij hj
    rw [r0] at hj
    rw [hX.1 43 (by decide), hX.1 44 (by decide), hX.1 45 (by decide)]
    exact g10 i j hij hj
  · intro i hi
    rw [hX.1 43 (by decide), hX.1 44 (by decide), hX.1 46 (by decide), hX.1 47 (by decide), r0, r0]
    exact g11 i hi
  · intro c hc
    rw [ga_ne (by decide), hX.1 37 (by decide), hX.1 36 (by decide), r0, r0]
    exact hC c hc
  · intro i hi
    rw [hX.1 43 (by decide), hX.1 44 (by decide), hX.1 46 (by decide), hX.1 47 (by decide), r0, r0]
    exact hW i hi
