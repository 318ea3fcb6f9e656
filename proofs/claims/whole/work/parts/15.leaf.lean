/-! loops that count up, and the leaves of the class and of the reference -/
theorem lp_up {α : Type} {B : (α → Prop) → α → Prop} (N : Nat) (I : Nat → α → Prop) (hs : ∀ (K : α → Prop) (k : Nat) (a : α), k ≤ N → I k a → (∀ a', k < N → I (k + 1) a' → K a') → B K a) (a : α) (h : I 0 a) : lp B a := by
  suffices H : ∀ (j k : Nat) (a : α), k ≤ N → N - k < j → I k a → lpN B j a from ⟨N + 1, H (N + 1) 0 a (Nat.zero_le _) (by omega) h⟩
  intro j
  induction j with
  | zero => intro k a _ h; omega
  | succ j ih => intro k a hk hj hi; exact hs _ k a hk hi (fun a' hlt hi' => ih (k + 1) a' (by omega) (by omega) hi')
def sumF (f : Nat → Int32) : Nat → Int32
  | 0 => 0
  | n + 1 => sumF f n + f n
def sumP (p : Nat → Prop) [DecidablePred p] (f : Nat → Int32) : Nat → Int32
  | 0 => 0
  | n + 1 => sumP p f n + (if p n then f n else 0)
theorem rX8_rightOnes {S : gS} {Q : Int32 → gS → Prop} (h : Q (sumF (ga S 46) 6) S) : qX8_rightOnes S Q := by
  refine lp_up 6 (fun k a => a = (sumF (ga S 46) k, nI k, S)) ?_ _ rfl
  rintro K k _ hk rfl hK
  have e : (nI k).toInt = k := nI_ti (by omega)
  have l6 : (6 : Int32).toInt = 6 := by decide
  refine br_le (fun c => ?_) (fun c => ⟨in_of (by omega) (by omega), ?_⟩)
  · obtain rfl : k = 6 := by omega
    exact h
  · rintro x rfl y rfl
    exact hK _ (by omega) (by rw [nI_1, tN_nI (by omega)]; rfl)
theorem rX8_wrongOnes {S : gS} {Q : Int32 → gS → Prop} (h : Q (sumF (ga S 47) 6) S) : qX8_wrongOnes S Q := by
  refine lp_up 6 (fun k a => a = (sumF (ga S 47) k, nI k, S)) ?_ _ rfl
  rintro K k _ hk rfl hK
  have e : (nI k).toInt = k := nI_ti (by omega)
  have l6 : (6 : Int32).toInt = 6 := by decide
  refine br_le (fun c => ?_) (fun c => ⟨in_of (by omega) (by omega), ?_⟩)
  · obtain rfl : k = 6 := by omega
    exact h
  · rintro x rfl y rfl
    exact hK _ (by omega) (by rw [nI_1, tN_nI (by omega)]; rfl)
theorem rX1_sumOfShares {S : gS} {Q : Int32 → gS → Prop} (h : Q (sumF (ga S 11) 6) S) : qX1_sumOfShares S Q := by
  refine lp_up 6 (fun k a => a = (sumF (ga S 11) k, nI k, S)) ?_ _ rfl
  rintro K k _ hk rfl hK
  have e : (nI k).toInt = k := nI_ti (by omega)
  have l6 : (6 : Int32).toInt = 6 := by decide
  refine br_le (fun c => ?_) (fun c => ⟨in_of (by omega) (by omega), ?_⟩)
  · obtain rfl : k = 6 := by omega
    exact h
  · rintro x rfl y rfl
    exact hK _ (by omega) (by rw [nI_1, tN_nI (by omega)]; rfl)
theorem rX10_count_L83 {S : gS} {a : Int32} {Q : Int32 → gS → Prop} (h5 : a = 5 → Q (sumF (ga S 34) 6) S) (h6 : ¬ a = 5 → Q (sumF (ga S 35) 6) S) : lp (qX10_count_L83 a Q) (0, 0, S) := by
  by_cases ha : a = 5
  · refine lp_up 6 (fun k a => a = (sumF (ga S 34) k, nI k, S)) ?_ _ rfl
    rintro K k _ hk rfl hK
    have e : (nI k).toInt = k := nI_ti (by omega)
    have l6 : (6 : Int32).toInt = 6 := by decide
    refine br_le (fun c => ?_) (fun c => ⟨fun _ => ⟨in_of (by omega) (by omega), ?_⟩, fun q => absurd ha q⟩)
    · obtain rfl : k = 6 := by omega
      exact h5 ha
    · rintro x rfl y rfl
      exact hK _ (by omega) (by rw [nI_1, tN_nI (by omega)]; rfl)
  · refine lp_up 6 (fun k a => a = (sumF (ga S 35) k, nI k, S)) ?_ _ rfl
    rintro K k _ hk rfl hK
    have e : (nI k).toInt = k := nI_ti (by omega)
    have l6 : (6 : Int32).toInt = 6 := by decide
    refine br_le (fun c => ?_) (fun c => ⟨fun q => absurd q ha, fun _ => ⟨in_of (by omega) (by omega), ?_⟩⟩)
    · obtain rfl : k = 6 := by omega
      exact h6 ha
    · rintro x rfl y rfl
      exact hK _ (by omega) (by rw [nI_1, tN_nI (by omega)]; rfl)
/-- a night's light -/
def litI (n : Int) : Int := if 15 - n % 30 < 0 then -(15 - n % 30) else 15 - n % 30
theorem rX9_light {S : gS} {Q : Int32 → gS → Prop} (hn : 0 ≤ (gi S 0).toInt) (h : ∀ r : Int32, r.toInt = litI (gi S 0).toInt → Q r S) : qX9_light S Q := by
  have l15 : (15 : Int32).toInt = 15 := by decide
  have l30 : (30 : Int32).toInt = 30 := by decide
  have l0 : (0 : Int32).toInt = 0 := by decide
  rintro x rfl
  have e1 : (gi S 0 - gi S 0 / 30 * 30).toInt = (gi S 0).toInt % 30 := by rw [ti_rem hn (by omega), l30]
  have e2 : (15 - (gi S 0 - gi S 0 / 30 * 30)).toInt = 15 - (gi S 0).toInt % 30 := by rw [ti_sub] <;> rw [e1, l15] <;> omega
  refine br_le (fun c => h _ ?_) (fun c => h _ ?_)
  · rw [e2]; unfold litI; split <;> omega
  · rw [ti_neg (by omega), e2]; unfold litI; split <;> omega
theorem rX10_lightAt {S : gS} {a : Int32} {Q : Int32 → gS → Prop} (hn : 0 ≤ a.toInt) (h : ∀ r : Int32, r.toInt = litI a.toInt → Q r S) : qX10_lightAt S a Q := by
  have l15 : (15 : Int32).toInt = 15 := by decide
  have l30 : (30 : Int32).toInt = 30 := by decide
  rintro x rfl
  have e1 : (a - a / 30 * 30).toInt = a.toInt % 30 := by rw [ti_rem hn (by omega), l30]
  refine br_le (fun c => h _ ?_) (fun c => h _ ?_)
  · rw [ti_sub] <;> rw [e1, l15]
    · unfold litI; split <;> omega
    · omega
    · omega
  · rw [ti_sub] <;> rw [e1, l15]
    · unfold litI; split <;> omega
    · omega
    · omega
/-- a tide, of the class and of the reference -/
def tidP (c n : Int32) : Int32 := if 12 < 7 * n + 5 * c - (7 * n + 5 * c) / 24 * 24 then 24 - (7 * n + 5 * c - (7 * n + 5 * c) / 24 * 24) else 7 * n + 5 * c - (7 * n + 5 * c) / 24 * 24
def tidC (S : gS) (c n : Int32) : Int32 := if 0 ≤ (ga S 9 c.toNatClampNeg).toInt ∧ 0 < (ga S 6 (ga S 9 c.toNatClampNeg).toNatClampNeg).toInt then ga S (2 + (ga S 9 c.toNatClampNeg).toNatClampNeg) (n - n / ga S 6 (ga S 9 c.toNatClampNeg).toNatClampNeg * ga S 6 (ga S 9 c.toNatClampNeg).toNatClampNeg).toNatClampNeg else tidP c n
theorem rX9_tideAt {S : gS} {c n : Int32} {Q : Int32 → gS → Prop} (hB : BA S) (h0 : 0 ≤ c.toInt) (h5 : c.toInt ≤ 5) (hn : 0 ≤ n.toInt) (h : Q (tidC S c n) S) : qX9_tideAt S c n Q := by
  have l0 : (0 : Int32).toInt = 0 := by decide
  have l1 : (1 : Int32).toInt = 1 := by decide
  have hP : ¬ (0 ≤ (ga S 9 c.toNatClampNeg).toInt ∧ 0 < (ga S 6 (ga S 9 c.toNatClampNeg).toNatClampNeg).toInt) → qX9_tideAt_J51 c n Q S := by
    intro hno
    unfold tidC at h
    rw [if_neg hno] at h
    unfold tidP at h
    rintro x rfl
    refine ⟨fun q => ?_, fun q => ?_⟩
    · rwa [if_pos q] at h
    · rwa [if_neg q] at h
  have b9 := BA_get hB (i := 9) (n := 6) (lo := -1) (hi := 3) (by decide) (cl_lt h0 (by omega)).1
  refine ⟨in_of (by omega) (by omega), ?_⟩
  rintro x rfl
  refine rX9_isTable (fun q1 q2 => ?_) (fun q => br_eq (fun _ _ => hP (by omega)) (fun q2 _ => absurd rfl q2))
  refine br_eq (fun _ q => by omega) (fun _ _ => ⟨in_of (by omega) (by omega), ?_⟩)
  have b6 := BA_get hB (i := 6) (n := 4) (lo := -1) (hi := 30) (by decide) (cl_lt q1 (by omega)).1
  refine br_le (fun q => hP (by omega)) (fun q => ⟨fun z => by rw [z] at q; omega, ?_, ?_⟩)
  · have e := ti_rem (d := ga S 6 (ga S 9 c.toNatClampNeg).toNatClampNeg) hn (by omega)
    have := Int.emod_nonneg n.toInt (b := (ga S 6 (ga S 9 c.toNatClampNeg).toNatClampNeg).toInt) (by omega)
    have := Int.emod_lt_of_pos n.toInt (b := (ga S 6 (ga S 9 c.toNatClampNeg).toNatClampNeg).toInt) (by omega)
    exact in_of (by omega) (by omega)
  · unfold tidC at h
    rwa [if_pos ⟨q1, by omega⟩] at h
theorem rX10_tideAt {S M : gS} {c n : Int32} {Q : Int32 → gS → Prop} (hR : RS S M) (h0 : 0 ≤ c.toInt) (h5 : c.toInt ≤ 5) (hn : 0 ≤ n.toInt) (h : Q (tidC S c n) M) : qX10_tideAt M c n Q := by
  have l0 : (0 : Int32).toInt = 0 := by decide
  have l30 : (30 : Int32).toInt = (30 : Nat) := by decide
  have e9 := RS_a hR (i := 9) (j := 4) (by decide)
  have e6 := RS_a hR (i := 6) (j := 2) (by decide)
  have hP : ¬ (0 ≤ (ga S 9 c.toNatClampNeg).toInt ∧ 0 < (ga S 6 (ga S 9 c.toNatClampNeg).toNatClampNeg).toInt) → qX10_tideAt_J39 c n Q M := by
    intro hno
    unfold tidC at h
    rw [if_neg hno] at h
    unfold tidP at h
    rintro x rfl
    refine ⟨fun q => ?_, fun q => ?_⟩
    · rwa [if_pos q] at h
    · rwa [if_neg q] at h
  have b9 := RS_ba hR (i := 9) (n := 6) (lo := -1) (hi := 3) (by decide) (cl_lt h0 (by omega)).1
  refine ⟨in_of (by omega) (by omega), ?_⟩
  rintro x rfl
  rw [← e9, ← e6]
  refine br_lt (fun q => hP (by omega)) (fun q1 => ⟨in_of (by omega) (by omega), ?_⟩)
  have k9 := cl_lt (x := ga S 9 c.toNatClampNeg) (n := 4) (by omega) (by omega)
  have b6 := RS_ba hR (i := 6) (n := 4) (lo := -1) (hi := 30) (by decide) k9.1
  refine br_le (fun q => hP (by omega)) (fun q => ⟨fun z => by rw [z] at q; omega, ?_⟩)
  have e := ti_rem (d := ga S 6 (ga S 9 c.toNatClampNeg).toNatClampNeg) hn (by omega)
  have g1 := Int.emod_nonneg n.toInt (b := (ga S 6 (ga S 9 c.toNatClampNeg).toNatClampNeg).toInt) (by omega)
  have g2 := Int.emod_lt_of_pos n.toInt (b := (ga S 6 (ga S 9 c.toNatClampNeg).toNatClampNeg).toInt) (by omega)
  have i2 := ix2 (a := ga S 9 c.toNatClampNeg) (b := n - n / ga S 6 (ga S 9 c.toNatClampNeg).toNatClampNeg * ga S 6 (ga S 9 c.toNatClampNeg).toNatClampNeg) l30 (by omega) (by omega) (N := 120) (by omega) (by decide)
  refine ⟨i2.1, ?_⟩
  rw [i2.2]
  unfold tidC at h
  rw [if_pos ⟨by omega, by omega⟩] at h
  rw [← RS_RT hR _ _ k9.1 (by rw [tn_ti (by omega)]; omega)]
  exact h
