/-! a search -/
theorem pr3 {α β γ : Type} {a a2 : α} {b b2 : β} {c c2 : γ} (h1 : a = a2) (h2 : b = b2) (h3 : c = c2) : (a, b, c) = (a2, b2, c2) := by rw [h1, h2, h3]
def fndS (P Hd C : Nat → Int32) (a : Int32) : Nat → Int32
  | 0 => 0
  | n + 1 => if P n = 0 ∧ Hd n = a then fndS P Hd C a n + C n else fndS P Hd C a n
def plcS (P Hd : Nat → Int32) (a : Int32) (n : Nat) : Nat → Int32 := fun j => if j < n ∧ P j = 0 ∧ Hd j = a then 2 else P j
def purS (P Hd C : Nat → Int32) (a : Int32) (g : Int32 → (Nat → Int32) → (Nat → Int32)) (W : Nat → Int32) : Nat → (Nat → Int32)
  | 0 => W
  | n + 1 => if P n = 0 ∧ Hd n = a then g (C n) (purS P Hd C a g W n) else purS P Hd C a g W n
theorem sA_comm {S : gS} {i j : Nat} {f g : Nat → Int32} (h : i ≠ j) : sA (sA S i f) j g = sA (sA S j g) i f := by
  unfold sA
  simp only [Prod.mk.injEq, true_and, and_true]
  funext k
  by_cases q : k = j
  · subst q; simp [Ne.symm h]
  · simp [q]
theorem plcS_0 {P Hd : Nat → Int32} {a : Int32} : plcS P Hd a 0 = P := by
  funext j
  simp [plcS]
theorem plcS_y {P Hd : Nat → Int32} {a : Int32} {n : Nat} (h : P n = 0 ∧ Hd n = a) : upd (plcS P Hd a n) n 2 = plcS P Hd a (n + 1) := by
  funext j
  unfold upd plcS
  by_cases q : j = n
  · subst q; simp [h]
  · by_cases q2 : j < n
    · simp [q, q2, show j < n + 1 by omega]
    · simp [q, q2, show ¬ j < n + 1 by omega]
theorem plcS_n {P Hd : Nat → Int32} {a : Int32} {n : Nat} (h : ¬ (P n = 0 ∧ Hd n = a)) : plcS P Hd a n = plcS P Hd a (n + 1) := by
  funext j
  unfold plcS
  by_cases q : j = n
  · subst q; simp [h]
  · by_cases q2 : j < n
    · simp [q2, show j < n + 1 by omega]
    · simp [q2, show ¬ j < n + 1 by omega]
theorem plcS_at {P Hd : Nat → Int32} {a : Int32} {n : Nat} : plcS P Hd a n n = P n := by
  simp [plcS]
theorem rX5_liesIn {S : gS} {w a : Int32} {Q : Int32 → gS → Prop} (h0 : 0 ≤ w.toInt) (h1 : w.toInt < 100) (hy : ga S 38 w.toNatClampNeg = 0 ∧ ga S 39 w.toNatClampNeg = a → Q 1 S) (hn : ¬ (ga S 38 w.toNatClampNeg = 0 ∧ ga S 39 w.toNatClampNeg = a) → Q 0 S) : qX5_liesIn S w a Q :=
  ⟨in_of h0 (by omega), fun q => ⟨fun r => hy ⟨q, r⟩, fun r => hn (fun z => r z.2)⟩, fun q => hn (fun z => q z.1)⟩
/-- what a seizure without an informer makes of the purses -/
abbrev gC (S : gS) : Int32 → (Nat → Int32) → (Nat → Int32) := fun c f => purV c (gi S 3) (ga S 40) (ga S 41) (ga S 42) (gi S 0) (gi S 7).toNatClampNeg (-1) f
theorem rX9_search_L {S : gS} {a : Int32} {Q : Int32 → gS → Prop} (ha : 0 ≤ a.toInt ∧ a.toInt < 12) (hb : 0 ≤ (gi S 6).toInt ∧ (gi S 6).toInt ≤ 100) (hb7 : 0 ≤ (gi S 7).toInt ∧ (gi S 7).toInt ≤ 20)
    (h : Q (fndS (ga S 38) (ga S 39) (ga S 35) a (gi S 6).toNatClampNeg) (sA (sA (sA (sA S 38 (plcS (ga S 38) (ga S 39) a (gi S 6).toNatClampNeg)) 1 (purS (ga S 38) (ga S 39) (ga S 35) a (gC S) (ga S 1) (gi S 6).toNatClampNeg)) 33 (upd (ga S 33) a.toNatClampNeg 0)) 32 (upd (ga S 32) a.toNatClampNeg (ga S 32 a.toNatClampNeg / 2)))) : lp (qX9_search_L18 a Q) (0, 0, S) := by
  have tn := tn_ti hb.1
  refine lp_up (gi S 6).toNatClampNeg (fun k x => x = (fndS (ga S 38) (ga S 39) (ga S 35) a k, nI k, sA (sA S 38 (plcS (ga S 38) (ga S 39) a k)) 1 (purS (ga S 38) (ga S 39) (ga S 35) a (gC S) (ga S 1) k))) ?_ _ ?_
  · rintro K k _ hk rfl hK
    have e : (nI k).toInt = k := nI_ti (by omega)
    refine br_le (fun c => ?_) (fun c => ?_)
    · have c : (gi S 6).toInt ≤ (nI k).toInt := c
      obtain rfl : k = (gi S 6).toNatClampNeg := by omega
      refine ⟨in_of ha.1 (by omega), ?_⟩
      rintro S2 rfl S4 rfl
      exact h
    · have c : (nI k).toInt < (gi S 6).toInt := c
      refine rX5_liesIn (by omega) (by omega) (fun q => ⟨fun z => absurd z (by decide), fun _ => ⟨in_of (by omega) (by omega), ?_⟩⟩) (fun q => ⟨fun _ => ?_, fun z => absurd rfl z⟩)
      · rw [tN_nI (by omega)] at q ⊢
        have q : plcS (ga S 38) (ga S 39) a k k = 0 ∧ ga S 39 k = a := q
        rw [plcS_at] at q
        rintro S9 rfl x rfl
        refine rX9_partSeized hb7 (by decide) ?_
        rintro y rfl
        rw [nI_1]
        refine hK _ (by omega) ?_
        have e1 : ga (sA (sA S 38 (plcS (ga S 38) (ga S 39) a k)) 1 (purS (ga S 38) (ga S 39) (ga S 35) a (gC S) (ga S 1) k)) 38 = plcS (ga S 38) (ga S 39) a k := rfl
        rw [e1, plcS_y q]
        refine pr3 ?_ rfl ?_
        · show fndS (ga S 38) (ga S 39) (ga S 35) a k + ga S 35 k = _
          simp [fndS, q]
        · rw [sA_comm (i := 1) (j := 38) (by decide), sA_sA, sA_sA]
          congr 1
          show gC S (ga S 35 k) (purS (ga S 38) (ga S 39) (ga S 35) a (gC S) (ga S 1) k) = _
          simp only [purS, q, and_self, if_true]
      · rw [tN_nI (by omega)] at q
        have q : ¬ (plcS (ga S 38) (ga S 39) a k k = 0 ∧ ga S 39 k = a) := q
        rw [plcS_at] at q
        rintro y rfl
        rw [nI_1]
        refine hK _ (by omega) ?_
        rw [← plcS_n q]
        simp only [fndS, purS, if_neg q]
  · simp only [fndS, purS, plcS_0, sA_self]; rfl
abbrev gM (M : gS) : Int32 → (Nat → Int32) → (Nat → Int32) := fun c f => purV c (gi M 6) (ga M 28) (ga M 29) (ga M 30) (gi M 1) (gi M 7).toNatClampNeg (-1) f
theorem rX10_search_L {M : gS} {a : Int32} {Q : Int32 → gS → Prop} (ha : 0 ≤ a.toInt ∧ a.toInt < 12) (hb : 0 ≤ (gi M 4).toInt ∧ (gi M 4).toInt ≤ 100) (hb7 : 0 ≤ (gi M 7).toInt ∧ (gi M 7).toInt ≤ 20)
    (h : Q (fndS (ga M 21) (ga M 22) (ga M 18) a (gi M 4).toNatClampNeg) (sA (sA (sA M 21 (plcS (ga M 21) (ga M 22) a (gi M 4).toNatClampNeg)) 39 (purS (ga M 21) (ga M 22) (ga M 18) a (gM M) (ga M 39) (gi M 4).toNatClampNeg)) 16 (upd (ga M 16) a.toNatClampNeg (ga M 16 a.toNatClampNeg / 2)))) : lp (qX10_search_L24 a Q) (0, 0, M) := by
  have tn := tn_ti hb.1
  refine lp_up (gi M 4).toNatClampNeg (fun k x => x = (fndS (ga M 21) (ga M 22) (ga M 18) a k, nI k, sA (sA M 21 (plcS (ga M 21) (ga M 22) a k)) 39 (purS (ga M 21) (ga M 22) (ga M 18) a (gM M) (ga M 39) k))) ?_ _ ?_
  · rintro K k _ hk rfl hK
    have e : (nI k).toInt = k := nI_ti (by omega)
    refine br_le (fun c => ?_) (fun c => ?_)
    · have c : (gi M 4).toInt ≤ (nI k).toInt := c
      obtain rfl : k = (gi M 4).toNatClampNeg := by omega
      refine ⟨in_of ha.1 (by omega), ?_⟩
      rintro S2 rfl
      exact h
    · have c : (nI k).toInt < (gi M 4).toInt := c
      refine ⟨in_of (by omega) (by omega), ?_⟩
      rw [tN_nI (by omega)]
      have no : ¬ (ga M 21 k = 0 ∧ ga M 22 k = a) → K (fndS (ga M 21) (ga M 22) (ga M 18) a k, nI k + 1, sA (sA M 21 (plcS (ga M 21) (ga M 22) a k)) 39 (purS (ga M 21) (ga M 22) (ga M 18) a (gM M) (ga M 39) k)) := fun q => by
        rw [nI_1]
        refine hK _ (by omega) ?_
        rw [← plcS_n q]
        simp only [fndS, purS, if_neg q]
      refine ⟨fun q => ⟨fun q2 => ?_, fun q2 => ?_⟩, fun q => ?_⟩
      · have q : plcS (ga M 21) (ga M 22) a k k = 0 := q
        rw [plcS_at] at q
        have q2 : ga M 22 k = a := q2
        refine rX10_partCasks hb7 (by decide) ?_
        rintro S10 rfl x rfl y rfl
        rw [nI_1]
        refine hK _ (by omega) ?_
        refine pr3 ?_ rfl ?_
        · show fndS (ga M 21) (ga M 22) (ga M 18) a k + ga M 18 k = _
          simp [fndS, q, q2]
        · have e1 : ∀ f : Nat → Int32, ga (sA (sA (sA M 21 (plcS (ga M 21) (ga M 22) a k)) 39 (purS (ga M 21) (ga M 22) (ga M 18) a (gM M) (ga M 39) k)) 39 f) 21 = plcS (ga M 21) (ga M 22) a k := fun _ => rfl
          rw [e1, plcS_y ⟨q, q2⟩, sA_sA, sA_comm (i := 39) (j := 21) (by decide), sA_sA]
          congr 1
          show gM M (ga M 18 k) (purS (ga M 21) (ga M 22) (ga M 18) a (gM M) (ga M 39) k) = _
          simp only [purS, q, q2, and_self, if_true]
      · rintro y rfl
        exact no (fun z => q2 z.2)
      · have q : ¬ plcS (ga M 21) (ga M 22) a k k = 0 := q
        rw [plcS_at] at q
        rintro y rfl
        exact no (fun z => q z.1)
  · simp only [fndS, purS, plcS_0, sA_self]; rfl
theorem srch_congr {P Hd Hd2 C : Nat → Int32} {a : Int32} {g g2 : Int32 → (Nat → Int32) → (Nat → Int32)} {W : Nat → Int32} {n : Nat} (e : ∀ k, k < n → P k = 0 → Hd k = Hd2 k) (eg : g = g2) : fndS P Hd C a n = fndS P Hd2 C a n ∧ plcS P Hd a n = plcS P Hd2 a n ∧ purS P Hd C a g W n = purS P Hd2 C a g2 W n := by
  subst eg
  refine ⟨?_, ?_, ?_⟩
  · induction n with
    | zero => rfl
    | succ n ih =>
      unfold fndS
      rw [ih (fun k hk => e k (by omega))]
      by_cases q : P n = 0
      · rw [e n (by omega) q]
      · simp [q]
  · funext j
    unfold plcS
    by_cases q : P j = 0
    · by_cases q2 : j < n
      · rw [e j q2 q]
      · simp [q2]
    · simp [q]
  · induction n with
    | zero => rfl
    | succ n ih =>
      unfold purS
      rw [ih (fun k hk => e k (by omega))]
      by_cases q : P n = 0
      · rw [e n (by omega) q]
      · simp [q]
theorem lieS_plc {P Hd C : Nat → Int32} {a b : Int32} {n m : Nat} (hm : m ≤ n) : lieS (plcS P Hd a n) Hd C b m = if b = a then 0 else lieS P Hd C b m := by
  induction m with
  | zero => simp [lieS]
  | succ m ih =>
    unfold lieS
    rw [ih (by omega)]
    by_cases q : b = a
    · subst q
      have : ¬ (plcS P Hd b n m = 0 ∧ Hd m = b) := by
        rintro ⟨z1, z2⟩
        unfold plcS at z1
        by_cases z3 : P m = 0
        · rw [if_pos ⟨by omega, z3, z2⟩] at z1
          exact absurd z1 (by decide)
        · rw [if_neg (fun z => z3 z.2.1)] at z1
          exact z3 z1
      simp [this]
    · simp only [if_neg q]
      congr 1
      by_cases z2 : Hd m = b
      · have : plcS P Hd a n m = P m := by
          unfold plcS
          rw [if_neg (fun z => q (by rw [← z2]; exact z.2.2))]
        rw [this]
      · simp [z2]
theorem RS_search {S M : gS} (hR : RS S M) {a : Int32} (ha : 0 ≤ a.toInt ∧ a.toInt < 12) {W : Nat → Int32} {n : Nat} (hn : n = (gi S 6).toNatClampNeg) : RS (sA (sA (sA (sA S 38 (plcS (ga S 38) (ga S 39) a n)) 1 W) 33 (upd (ga S 33) a.toNatClampNeg 0)) 32 (upd (ga S 32) a.toNatClampNeg (ga S 32 a.toNatClampNeg / 2))) (sA (sA (sA M 21 (plcS (ga S 38) (ga S 39) a n)) 39 W) 16 (upd (ga M 16) a.toNatClampNeg (ga M 16 a.toNatClampNeg / 2))) := by
  have hl := cl_lt ha.1 (n := 12) (by omega)
  have l2 : (2 : Int32).toInt = 2 := by decide
  have bg := RS_ba hR (i := 32) (n := 12) (lo := 0) (hi := 999) (by decide) hl.1
  have eg : (ga S 32 a.toNatClampNeg / 2).toInt = (ga S 32 a.toNatClampNeg).toInt / 2 := by rw [ti_div bg.1 (by omega), l2]
  obtain ⟨h1, h2, h3, h4, h5, h6, h7, h8, h9, h10, h11⟩ := hR
  have e32 := h2 (32, 16) (by decide)
  have e32 : ga S 32 = ga M 16 := e32
  refine ⟨h1, ?_, h3, ?_, RF_nr (RF_nr (RF_nr (RF_no (RF_no (RF_no (RF_no h5 (by decide)) (by decide)) (by decide)) (by decide)) (by decide)) (by decide)) (by decide), RT_nr (RT_nr (RT_nr (RT_no (RT_no (RT_no (RT_no h6 (by decide)) (by decide)) (by decide)) (by decide)) (by decide)) (by decide)) (by decide), ?_, ?_, RB_no (RB_no (RB_no (RB_no h9 (by decide)) (by decide)) (by decide)) (by decide), RU_no (RU_no (RU_no (RU_no h10 (by decide)) (by decide)) (by decide)) (by decide), RW_no (RW_no (RW_no (RW_no h11 (by decide)) (by decide)) (by decide)) (by decide)⟩
  · exact RA_up (RA_l (RA_up (RA_up h2 (by decide) rfl) (by decide) rfl) (by decide)) (by decide) (by rw [e32])
  · refine BA_up (BA_no (BA_up (BA_up h4 (lA_at (n := 100) (lo := 0) (hi := 2) (by decide) (fun k hk => ?_))) (lA_no (by decide))) (by decide)) (lA_at (n := 12) (lo := 0) (hi := 999) (by decide) (bd_upd (h4 (32, 12, 0, 999) (by decide)) ⟨by omega, by omega⟩))
    unfold plcS
    split
    · exact ⟨by decide, by decide⟩
    · exact h4 (38, 100, 0, 2) (by decide) k hk
  · intro k hk
    have old := h7 k hk
    show (plcS (ga S 38) (ga S 39) a n k = 1 → ga M 22 k = -9) ∧ (¬ plcS (ga S 38) (ga S 39) a n k = 1 → ga M 22 k = ga S 39 k)
    unfold plcS
    split
    · rename_i q
      exact ⟨fun z => absurd z (by decide), fun _ => old.2 (by rw [q.2.1]; decide)⟩
    · exact old
  · intro k hk
    show upd (ga S 33) a.toNatClampNeg 0 k = lieS (plcS (ga S 38) (ga S 39) a n) (ga S 39) (ga S 35) (nI k) (gi S 6).toNatClampNeg
    rw [lieS_plc (by omega)]
    by_cases q : k = a.toNatClampNeg
    · rw [q, upd_at, ← hl.2.2, if_pos rfl]
    · have hne : ¬ nI k = a := fun z => q (by rw [← z, tN_nI (by omega)])
      rw [upd_ne q, if_neg hne]
      exact h8 k hk
