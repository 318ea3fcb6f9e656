/-! a night, the second part: leaves of a boat's way -/
def cntV (br w : Int32) : Int32 := if br = 0 then w else if w ≤ 0 then w else w - 1
theorem rX1_countingAt {S : gS} {c : Int32} {Q : Int32 → gS → Prop} (h0 : 0 ≤ c.toInt ∧ c.toInt ≤ 5) (h : Q (cntV (ga S 12 c.toNatClampNeg) (ga S 13 c.toNatClampNeg)) S) : qX1_countingAt S c Q := by
  unfold cntV at h
  refine ⟨in_of h0.1 (by omega), fun q => ?_, fun q => ⟨fun q2 => ?_, fun q2 => ?_⟩⟩
  · rwa [if_pos q] at h
  · rwa [if_neg q, if_pos q2] at h
  · rwa [if_neg q, if_neg q2] at h
theorem rX10_counting {M : gS} {c : Int32} {Q : Int32 → gS → Prop} (h0 : 0 ≤ c.toInt ∧ c.toInt ≤ 5) (h : Q (cntV (ga M 25 c.toNatClampNeg) (ga M 26 c.toNatClampNeg)) M) : qX10_counting M c Q := by
  unfold cntV at h
  refine ⟨in_of h0.1 (by omega), fun q => ?_, fun q => ⟨fun q2 => ?_, fun q2 => ?_⟩⟩
  · rwa [if_pos q] at h
  · rwa [if_neg q, if_pos q2] at h
  · rwa [if_neg q, if_neg q2] at h
/-- the informer of the first word of a night and a cove, or -1 -/
def fiF (I N C : Nat → Int32) (t c : Int32) : Nat → Nat → Int32
  | 0, _ => -1
  | f + 1, k => if N k = t ∧ C k = c then I k else fiF I N C t c f (k + 1)
theorem fiF_bd {I N C : Nat → Int32} {t c : Int32} : ∀ (f k : Nat), (∀ j, j < k + f → 0 ≤ (I j).toInt ∧ (I j).toInt ≤ 5) → -1 ≤ (fiF I N C t c f k).toInt ∧ (fiF I N C t c f k).toInt ≤ 5 := by
  intro f
  induction f with
  | zero => intro k _; exact ⟨by show -1 ≤ (-1 : Int32).toInt; decide, by show (-1 : Int32).toInt ≤ 5; decide⟩
  | succ f ih =>
    intro k h
    unfold fiF
    split
    · have := h k (by omega)
      omega
    · exact ih (k + 1) (fun j hj => h j (by omega))
theorem rX8_firstInformer {S : gS} {t c : Int32} {Q : Int32 → gS → Prop} (hb : 0 ≤ (gi S 8).toInt ∧ (gi S 8).toInt ≤ 60) (h : Q (fiF (ga S 43) (ga S 44) (ga S 45) t c (gi S 8).toNatClampNeg 0) S) : qX8_firstInformer S t c Q := by
  have tn := tn_ti hb.1
  generalize hr : fiF (ga S 43) (ga S 44) (ga S 45) t c (gi S 8).toNatClampNeg 0 = r at h
  refine lp_up (gi S 8).toNatClampNeg (fun k a => a = (nI k, S) ∧ fiF (ga S 43) (ga S 44) (ga S 45) t c ((gi S 8).toNatClampNeg - k) k = r) ?_ _ ⟨rfl, hr⟩
  rintro K k _ hk ⟨rfl, hf⟩ hK
  have e : (nI k).toInt = k := nI_ti (by omega)
  refine br_le (fun q => ?_) (fun q => ?_)
  · obtain rfl : k = (gi S 8).toNatClampNeg := by omega
    rw [Nat.sub_self] at hf
    rw [← hf] at h
    exact h
  · rw [show (gi S 8).toNatClampNeg - k = ((gi S 8).toNatClampNeg - (k + 1)) + 1 by omega] at hf
    unfold fiF at hf
    refine rX8_names (by omega) (by omega) (fun q2 q3 => ⟨fun z => absurd z (by decide), fun _ => ⟨in_of (by omega) (by omega), ?_⟩⟩) (fun q2 => ⟨fun _ => ?_, fun z => absurd rfl z⟩)
    · rw [tN_nI (by omega)] at q2 q3 ⊢
      rw [if_pos ⟨q2, q3⟩] at hf
      rw [hf]; exact h
    · rw [tN_nI (by omega)] at q2
      rw [if_neg q2] at hf
      rintro x rfl
      rw [nI_1]
      exact hK _ (by omega) ⟨rfl, hf⟩
theorem rX10_teller {M : gS} {c : Int32} {Q : Int32 → gS → Prop} (hb : 0 ≤ (gi M 8).toInt ∧ (gi M 8).toInt ≤ 60) (h : Q (fiF (ga M 31) (ga M 32) (ga M 33) (gi M 1) c (gi M 8).toNatClampNeg 0) M) : qX10_teller M c Q := by
  have tn := tn_ti hb.1
  generalize hr : fiF (ga M 31) (ga M 32) (ga M 33) (gi M 1) c (gi M 8).toNatClampNeg 0 = r at h
  refine lp_up (gi M 8).toNatClampNeg (fun k a => a = (nI k, M) ∧ fiF (ga M 31) (ga M 32) (ga M 33) (gi M 1) c ((gi M 8).toNatClampNeg - k) k = r) ?_ _ ⟨rfl, hr⟩
  rintro K k _ hk ⟨rfl, hf⟩ hK
  have e : (nI k).toInt = k := nI_ti (by omega)
  refine br_le (fun q => ?_) (fun q => ⟨in_of (by omega) (by omega), ?_⟩)
  · obtain rfl : k = (gi M 8).toNatClampNeg := by omega
    rw [Nat.sub_self] at hf
    rw [← hf] at h
    exact h
  · rw [show (gi M 8).toNatClampNeg - k = ((gi M 8).toNatClampNeg - (k + 1)) + 1 by omega] at hf
    unfold fiF at hf
    rw [tN_nI (by omega)]
    refine ⟨fun q2 => ⟨fun q3 => ?_, fun q3 => ?_⟩, fun q2 => ?_⟩
    · rw [if_pos ⟨q2, q3⟩] at hf
      rw [hf]; exact h
    · rw [if_neg (fun z => q3 z.2)] at hf
      rintro x rfl
      rw [nI_1]
      exact hK _ (by omega) ⟨rfl, hf⟩
    · rw [if_neg (fun z => q2 z.1)] at hf
      rintro x rfl
      rw [nI_1]
      exact hK _ (by omega) ⟨rfl, hf⟩
/-- the first hide from k on, of f, of which p; or -1 -/
def fhF (p : Nat → Prop) [DecidablePred p] : Nat → Nat → Int32
  | 0, _ => -1
  | f + 1, k => if p k then nI k else fhF p f (k + 1)
theorem fhF_in {p : Nat → Prop} [DecidablePred p] : ∀ (f k : Nat), fhF p f k = -1 ∨ ∃ j, j < k + f ∧ fhF p f k = nI j ∧ p j := by
  intro f
  induction f with
  | zero => intro k; exact Or.inl rfl
  | succ f ih =>
    intro k
    unfold fhF
    split
    · rename_i q; exact Or.inr ⟨k, by omega, rfl, q⟩
    · rcases ih (k + 1) with h | ⟨j, h1, h2⟩
      · exact Or.inl h
      · exact Or.inr ⟨j, by omega, h2⟩
theorem fhF_congr {p q : Nat → Prop} [DecidablePred p] [DecidablePred q] : ∀ (f k : Nat), (∀ j, j < k + f → (p j ↔ q j)) → fhF p f k = fhF q f k := by
  intro f
  induction f with
  | zero => intro k _; rfl
  | succ f ih =>
    intro k h
    unfold fhF
    rw [ih (k + 1) (fun j hj => h j (by omega))]
    by_cases z : p k
    · rw [if_pos z, if_pos ((h k (by omega)).mp z)]
    · rw [if_neg z, if_neg (fun w => z ((h k (by omega)).mpr w))]
theorem rX3_firstWithRoom {S : gS} {c x : Int32} {Q : Int32 → gS → Prop} (hb : 0 ≤ (gi S 5).toInt ∧ (gi S 5).toInt ≤ 12) (h : Q (fhF (fun k => ga S 29 k = c ∧ ¬ ga S 30 k - ga S 33 k < x) (gi S 5).toNatClampNeg 0) S) : qX3_firstWithRoom S c x Q := by
  have tn := tn_ti hb.1
  generalize hr : fhF (fun k => ga S 29 k = c ∧ ¬ ga S 30 k - ga S 33 k < x) (gi S 5).toNatClampNeg 0 = r at h
  refine lp_up (gi S 5).toNatClampNeg (fun k a => a = (nI k, S) ∧ fhF (fun k => ga S 29 k = c ∧ ¬ ga S 30 k - ga S 33 k < x) ((gi S 5).toNatClampNeg - k) k = r) ?_ _ ⟨rfl, hr⟩
  rintro K k _ hk ⟨rfl, hf⟩ hK
  have e : (nI k).toInt = k := nI_ti (by omega)
  refine br_le (fun q => ?_) (fun q => ⟨in_of (by omega) (by omega), ?_⟩)
  · obtain rfl : k = (gi S 5).toNatClampNeg := by omega
    rw [Nat.sub_self] at hf
    rw [← hf] at h
    exact h
  · rw [show (gi S 5).toNatClampNeg - k = ((gi S 5).toNatClampNeg - (k + 1)) + 1 by omega] at hf
    unfold fhF at hf
    rw [tN_nI (by omega)]
    refine ⟨fun q2 => ⟨fun q3 => ?_, fun q3 => ?_⟩, fun q2 => ?_⟩
    · rw [if_neg (fun z => z.2 q3)] at hf
      rintro x rfl
      rw [nI_1]
      exact hK _ (by omega) ⟨rfl, hf⟩
    · rw [if_pos ⟨q2, q3⟩] at hf
      rw [hf]; exact h
    · rw [if_neg (fun z => q2 z.1)] at hf
      rintro x rfl
      rw [nI_1]
      exact hK _ (by omega) ⟨rfl, hf⟩
theorem rX10_hideFor {M : gS} {c x : Int32} {Q : Int32 → gS → Prop} (hb : 0 ≤ (gi M 3).toInt ∧ (gi M 3).toInt ≤ 12) (hb4 : 0 ≤ (gi M 4).toInt ∧ (gi M 4).toInt ≤ 100) (h : Q (fhF (fun k => ga M 13 k = c ∧ ¬ ga M 14 k < lieS (ga M 21) (ga M 22) (ga M 18) (nI k) (gi M 4).toNatClampNeg + x) (gi M 3).toNatClampNeg 0) M) : qX10_hideFor M c x Q := by
  have tn := tn_ti hb.1
  generalize hr : fhF (fun k => ga M 13 k = c ∧ ¬ ga M 14 k < lieS (ga M 21) (ga M 22) (ga M 18) (nI k) (gi M 4).toNatClampNeg + x) (gi M 3).toNatClampNeg 0 = r at h
  refine lp_up (gi M 3).toNatClampNeg (fun k a => a = (nI k, M) ∧ fhF (fun k => ga M 13 k = c ∧ ¬ ga M 14 k < lieS (ga M 21) (ga M 22) (ga M 18) (nI k) (gi M 4).toNatClampNeg + x) ((gi M 3).toNatClampNeg - k) k = r) ?_ _ ⟨rfl, hr⟩
  rintro K k _ hk ⟨rfl, hf⟩ hK
  have e : (nI k).toInt = k := nI_ti (by omega)
  refine br_le (fun q => ?_) (fun q => ⟨in_of (by omega) (by omega), ?_⟩)
  · obtain rfl : k = (gi M 3).toNatClampNeg := by omega
    rw [Nat.sub_self] at hf
    rw [← hf] at h
    exact h
  · rw [show (gi M 3).toNatClampNeg - k = ((gi M 3).toNatClampNeg - (k + 1)) + 1 by omega] at hf
    unfold fhF at hf
    rw [tN_nI (by omega)]
    refine ⟨fun q2 => rX10_liesIn hb4 ?_, fun q2 => ?_⟩
    · refine ⟨fun q3 => ?_, fun q3 => ?_⟩
      · rw [if_neg (fun z => z.2 q3)] at hf
        rintro x rfl
        rw [nI_1]
        exact hK _ (by omega) ⟨rfl, hf⟩
      · rw [if_pos ⟨q2, q3⟩] at hf
        rw [hf]; exact h
    · rw [if_neg (fun z => q2 z.1)] at hf
      rintro x rfl
      rw [nI_1]
      exact hK _ (by omega) ⟨rfl, hf⟩
theorem lieS_bd {P Hd C : Nat → Int32} {h : Int32} {n : Nat} (hn : n ≤ 100) (hC : ∀ k, k < 100 → 0 ≤ (C k).toInt ∧ (C k).toInt ≤ 60) : 0 ≤ (lieS P Hd C h n).toInt ∧ (lieS P Hd C h n).toInt ≤ 60 * n := by
  induction n with
  | zero =>
    show 0 ≤ (0 : Int32).toInt ∧ (0 : Int32).toInt ≤ 60 * ((0 : Nat) : Int)
    exact ⟨by decide, by decide⟩
  | succ n ih =>
    have ih := ih (by omega)
    have := hC n (by omega)
    have l0 : (0 : Int32).toInt = 0 := by decide
    unfold lieS
    push_cast
    split
    · rw [ti_add] <;> omega
    · rw [ti_add] <;> rw [l0] <;> omega
/-- the hide that takes the casks: the same on both sides -/
theorem RS_hide {S M : gS} (hR : RS S M) {c x : Int32} (hx : 0 ≤ x.toInt ∧ x.toInt ≤ 60) : fhF (fun k => ga M 13 k = c ∧ ¬ ga M 14 k < lieS (ga M 21) (ga M 22) (ga M 18) (nI k) (gi M 4).toNatClampNeg + x) (gi M 3).toNatClampNeg 0 = fhF (fun k => ga S 29 k = c ∧ ¬ ga S 30 k - ga S 33 k < x) (gi S 5).toNatClampNeg 0 := by
  have i5 := RS_i hR (i := 5) (j := 3) (by decide)
  have b5 := RS_bi hR (i := 5) (lo := 0) (hi := 12) (by decide)
  have t5 := tn_ti b5.1
  rw [← i5]
  refine fhF_congr _ _ (fun k hk => ?_)
  have ek : (nI k).toInt = k := nI_ti (by omega)
  have hl := RS_lie hR (a := nI k) (by omega) (by omega)
  rw [tN_nI (by omega)] at hl
  have b30 := RS_ba hR (i := 30) (n := 12) (lo := 0) (hi := 200) (by decide) (k := k) (by omega)
  have b6 := RS_bi hR (i := 6) (lo := 0) (hi := 100) (by decide)
  have t6 := tn_ti b6.1
  have lb := lieS_bd (P := ga M 21) (Hd := ga M 22) (C := ga M 18) (h := nI k) (n := (gi M 4).toNatClampNeg) (by rw [← RS_i hR (i := 6) (j := 4) (by decide)]; omega) (fun j hj => by rw [← RS_a hR (i := 35) (j := 18) (by decide)]; exact RS_ba hR (i := 35) (n := 100) (lo := 0) (hi := 60) (by decide) hj)
  rw [← RS_i hR (i := 6) (j := 4) (by decide)] at lb hl ⊢
  rw [← hl] at lb ⊢
  rw [← RS_a hR (i := 29) (j := 13) (by decide), ← RS_a hR (i := 30) (j := 14) (by decide)]
  have e1 : (ga S 30 k - ga S 33 k).toInt = (ga S 30 k).toInt - (ga S 33 k).toInt := ti_sub (by omega) (by omega)
  have e2 : (ga S 33 k + x).toInt = (ga S 33 k).toInt + x.toInt := ti_add (by omega) (by omega)
  rw [Int32.lt_iff_toInt_lt, Int32.lt_iff_toInt_lt, e1, e2]
  constructor
  · rintro ⟨h1, h2⟩; exact ⟨h1, by omega⟩
  · rintro ⟨h1, h2⟩; exact ⟨h1, by omega⟩
/-- the cove that a boat chooses: of those that are open -/
def chF (o : Nat → Prop) [DecidablePred o] (fr wo : Nat → Int32) : Nat → Int32
  | 0 => -1
  | n + 1 => if o n then (if chF o fr wo n = -1 then nI n else if fr n < fr (chF o fr wo n).toNatClampNeg then nI n else if fr n = fr (chF o fr wo n).toNatClampNeg then (if wo n ≤ wo (chF o fr wo n).toNatClampNeg then chF o fr wo n else nI n) else chF o fr wo n) else chF o fr wo n
theorem chF_in {o : Nat → Prop} [DecidablePred o] {fr wo : Nat → Int32} : ∀ n : Nat, chF o fr wo n = -1 ∨ ∃ j, j < n ∧ chF o fr wo n = nI j := by
  intro n
  induction n with
  | zero => exact Or.inl rfl
  | succ n ih =>
    have ih2 : chF o fr wo n = -1 ∨ ∃ j, j < n + 1 ∧ chF o fr wo n = nI j := ih.imp id (fun ⟨j, h1, h2⟩ => ⟨j, by omega, h2⟩)
    have me : nI n = -1 ∨ ∃ j, j < n + 1 ∧ nI n = nI j := Or.inr ⟨n, by omega, rfl⟩
    unfold chF
    split
    · split
      · exact me
      · split
        · exact me
        · split
          · split
            · exact ih2
            · exact me
          · exact ih2
    · exact ih2
theorem chF_bd {o : Nat → Prop} [DecidablePred o] {fr wo : Nat → Int32} {n : Nat} (hn : n ≤ 6) : -1 ≤ (chF o fr wo n).toInt ∧ (chF o fr wo n).toInt < n ∧ (¬ chF o fr wo n = -1 → 0 ≤ (chF o fr wo n).toInt) := by
  rcases chF_in (o := o) (fr := fr) (wo := wo) n with h | ⟨j, h1, h2⟩
  · rw [h, show (-1 : Int32).toInt = -1 from rfl]
    exact ⟨by omega, by omega, fun z => absurd rfl z⟩
  · rw [h2, nI_ti (by omega)]
    exact ⟨by omega, by omega, fun _ => by omega⟩
/-- open for boat b now -/
abbrev opn (S : gS) (b : Int32) (c : Nat) : Prop := ¬ tidC S (nI c) (gi S 0) + ga S 7 c < ga S 14 b.toNatClampNeg
