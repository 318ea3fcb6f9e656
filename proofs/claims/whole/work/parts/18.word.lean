/-! words: told or not, and a new one -/
def toldA (I N C : Nat → Int32) (a1 a2 a3 : Int32) (k : Nat) : Prop := I k = a1 ∧ N k = a2 ∧ C k = a3
theorem rX8_names {S : gS} {w n c : Int32} {Q : Int32 → gS → Prop} (h0 : 0 ≤ w.toInt) (h1 : w.toInt < 60) (hy : ga S 44 w.toNatClampNeg = n → ga S 45 w.toNatClampNeg = c → Q 1 S) (hn : ¬ (ga S 44 w.toNatClampNeg = n ∧ ga S 45 w.toNatClampNeg = c) → Q 0 S) : qX8_names S w n c Q := by
  refine ⟨in_of h0 (by omega), fun q => ⟨fun r => hy q r, fun r => hn (fun z => r z.2)⟩, fun q => hn (fun z => q z.1)⟩
theorem rX8_isToldBy {S : gS} {a1 a2 a3 : Int32} {Q : Int32 → gS → Prop} (hb : 0 ≤ (gi S 8).toInt ∧ (gi S 8).toInt ≤ 60) (h1 : (∃ k, k < (gi S 8).toNatClampNeg ∧ toldA (ga S 43) (ga S 44) (ga S 45) a1 a2 a3 k) → Q 1 S) (h0 : (∀ k, k < (gi S 8).toNatClampNeg → ¬ toldA (ga S 43) (ga S 44) (ga S 45) a1 a2 a3 k) → Q 0 S) : qX8_isToldBy S a1 a2 a3 Q := by
  have tn := tn_ti hb.1
  refine lp_up (gi S 8).toNatClampNeg (fun k a => (∀ j, j < k → ¬ toldA (ga S 43) (ga S 44) (ga S 45) a1 a2 a3 j) ∧ a = (nI k, S)) ?_ _ ⟨fun j hj => by omega, rfl⟩
  rintro K k _ hk ⟨hno, rfl⟩ hK
  have e : (nI k).toInt = k := nI_ti (by omega)
  refine br_le (fun c => ?_) (fun c => ⟨in_of (by omega) (by omega), ?_⟩)
  · obtain rfl : k = (gi S 8).toNatClampNeg := by omega
    exact h0 hno
  · have step : ¬ toldA (ga S 43) (ga S 44) (ga S 45) a1 a2 a3 k → K (nI k + 1, S) := fun hn => by
      rw [nI_1]
      refine hK _ (by omega) ⟨fun j hj => ?_, rfl⟩
      by_cases q : j = k
      · rw [q]; exact hn
      · exact hno j (by omega)
    rw [tN_nI (by omega)]
    refine br_eq (fun q _ => ?_) (fun q _ => ?_)
    · refine rX8_names (by omega) (by omega) (fun q2 q3 => ?_) (fun q2 => ?_)
      · rw [tN_nI (by omega)] at q2 q3
        exact ⟨fun z => absurd z (by decide), fun _ => h1 ⟨k, by omega, q, q2, q3⟩⟩
      · rw [tN_nI (by omega)] at q2
        refine ⟨fun _ => ?_, fun z => absurd rfl z⟩
        rintro x rfl
        exact step (fun z => q2 z.2)
    · rintro x rfl
      exact step (fun z => q z.1)
theorem rX10_word_L {M : gS} {a1 a2 a3 : Int32} {Q : Int32 → gS → Prop} (hb : 0 ≤ (gi M 8).toInt ∧ (gi M 8).toInt < 60) (h1 : (∃ k, k < (gi M 8).toNatClampNeg ∧ toldA (ga M 31) (ga M 32) (ga M 33) a1 a2 a3 k) → qX10_refuse M (-3) Q) (h0 : (∀ k, k < (gi M 8).toNatClampNeg → ¬ toldA (ga M 31) (ga M 32) (ga M 33) a1 a2 a3 k) → Q (gi M 8) (sI (sA (sA (sA M 31 (upd (ga M 31) (gi M 8).toNatClampNeg a1)) 32 (upd (ga M 32) (gi M 8).toNatClampNeg a2)) 33 (upd (ga M 33) (gi M 8).toNatClampNeg a3)) 8 (gi M 8 + 1))) : lp (qX10_word_L63 a1 a2 a3 Q) (0, M) := by
  have tn := tn_ti hb.1
  refine lp_up (gi M 8).toNatClampNeg (fun k a => (∀ j, j < k → ¬ toldA (ga M 31) (ga M 32) (ga M 33) a1 a2 a3 j) ∧ a = (nI k, M)) ?_ _ ⟨fun j hj => by omega, rfl⟩
  rintro K k _ hk ⟨hno, rfl⟩ hK
  have e : (nI k).toInt = k := nI_ti (by omega)
  refine br_le (fun c => ?_) (fun c => ⟨in_of (by omega) (by omega), ?_⟩)
  · obtain rfl : k = (gi M 8).toNatClampNeg := by omega
    have v := in_of hb.1 (n := 60) (by omega)
    refine ⟨v, ?_⟩
    rintro S2 rfl
    refine ⟨v, ?_⟩
    rintro S4 rfl
    refine ⟨v, ?_⟩
    rintro S6 rfl S8 rfl
    have := h0 hno
    have e1 : gi M 8 + 1 - 1 = gi M 8 := Int32.add_sub_cancel _ _
    show Q (gi M 8 + 1 - 1) _
    rw [e1]
    exact this
  · have step : ¬ toldA (ga M 31) (ga M 32) (ga M 33) a1 a2 a3 k → K (nI k + 1, M) := fun hn => by
      rw [nI_1]
      refine hK _ (by omega) ⟨fun j hj => ?_, rfl⟩
      by_cases q : j = k
      · rw [q]; exact hn
      · exact hno j (by omega)
    rw [tN_nI (by omega)]
    refine ⟨fun q => ⟨fun q2 => ⟨fun q3 => h1 ⟨k, by omega, q, q2, q3⟩, fun q3 => ?_⟩, fun q2 => ?_⟩, fun q => ?_⟩
    · rintro x rfl; exact step (fun z => q3 z.2.2)
    · rintro x rfl; exact step (fun z => q2 z.2.1)
    · rintro x rfl; exact step (fun z => q z.1)
theorem cntW_congr {I N I2 N2 : Nat → Int32} {i t : Int32} {n : Nat} (h : ∀ k, k < n → I2 k = I k ∧ N2 k = N k) : cntW I2 N2 i t n = cntW I N i t n := by
  induction n with
  | zero => rfl
  | succ n ih =>
    unfold cntW
    rw [ih (fun k hk => h k (by omega)), (h n (by omega)).1, (h n (by omega)).2]
theorem RS_word {S M : gS} (hR : RS S M) {a1 a2 a3 : Int32} (h1 : 0 ≤ a1.toInt ∧ a1.toInt ≤ 5) (h2 : (gi S 0).toInt < a2.toInt) (h3 : 0 ≤ a3.toInt ∧ a3.toInt ≤ 5) (hs : (gi S 8).toInt < 60) (hno : ∀ k, k < (gi S 8).toNatClampNeg → ¬ toldA (ga S 43) (ga S 44) (ga S 45) a1 a2 a3 k) :
    RS (sI (sA (sA (sA S 43 (upd (ga S 43) (gi S 8).toNatClampNeg a1)) 44 (upd (ga S 44) (gi S 8).toNatClampNeg a2)) 45 (upd (ga S 45) (gi S 8).toNatClampNeg a3)) 8 (gi S 8 + 1)) (sI (sA (sA (sA M 31 (upd (ga M 31) (gi M 8).toNatClampNeg a1)) 32 (upd (ga M 32) (gi M 8).toNatClampNeg a2)) 33 (upd (ga M 33) (gi M 8).toNatClampNeg a3)) 8 (gi M 8 + 1)) := by
  have i8 := RS_i hR (i := 8) (j := 8) (by decide)
  have b8 := RS_bi hR (i := 8) (lo := 0) (hi := 60) (by decide)
  rw [← i8]
  have tn := tn_ti b8.1
  have l1 : (1 : Int32).toInt = 1 := by decide
  have e8 : (gi S 8 + 1).toInt = (gi S 8).toInt + 1 := by rw [ti_add] <;> omega
  have t8 := tn_ti (x := gi S 8 + 1) (by omega)
  have e9 : (gi S 8 + 1).toNatClampNeg = (gi S 8).toNatClampNeg + 1 := by omega
  obtain ⟨r1, r2, r3, r4, r5, r6, r7, r8, r9, r10, r11⟩ := hR
  refine ⟨RI_up r1 (by decide), ?_, BI_up r3 (lI_at (lo := 0) (hi := 60) (by decide) ⟨by omega, by omega⟩), ?_, RF_nr (RF_nr (RF_nr (RF_no (RF_no (RF_no r5 (by decide)) (by decide)) (by decide)) (by decide)) (by decide)) (by decide), RT_nr (RT_nr (RT_nr (RT_no (RT_no (RT_no r6 (by decide)) (by decide)) (by decide)) (by decide)) (by decide)) (by decide), RLo_nr (RLo_nr (RLo_nr (RLo_no (RLo_no (RLo_no r7 (by decide) (by decide)) (by decide) (by decide)) (by decide) (by decide)) (by decide)) (by decide)) (by decide), RY_no (RY_no (RY_no r8 (by decide) (by decide) (by decide) (by decide)) (by decide) (by decide) (by decide) (by decide)) (by decide) (by decide) (by decide) (by decide), RB_no (RB_no (RB_no r9 (by decide)) (by decide)) (by decide), ?_, ?_⟩
  · exact RA_up (RA_up (RA_up r2 (by decide) (by rw [r2 (43, 31) (by decide)])) (by decide) (by rw [r2 (44, 32) (by decide)])) (by decide) (by rw [r2 (45, 33) (by decide)])
  · exact BA_up (BA_up (BA_up r4 (lA_at (n := 60) (lo := 0) (hi := 5) (by decide) (bd_upd (r4 (43, 60, 0, 5) (by decide)) h1))) (lA_no (by decide))) (lA_at (n := 60) (lo := 0) (hi := 5) (by decide) (bd_upd (r4 (45, 60, 0, 5) (by decide)) h3))
  · intro i j hij hj
    have hj : (j : Int) < (gi S 8 + 1).toInt := hj
    show ¬ (upd (ga S 43) (gi S 8).toNatClampNeg a1 i = upd (ga S 43) (gi S 8).toNatClampNeg a1 j ∧ upd (ga S 44) (gi S 8).toNatClampNeg a2 i = upd (ga S 44) (gi S 8).toNatClampNeg a2 j ∧ upd (ga S 45) (gi S 8).toNatClampNeg a3 i = upd (ga S 45) (gi S 8).toNatClampNeg a3 j)
    rw [upd_ne (by omega : i ≠ _), upd_ne (by omega : i ≠ _), upd_ne (by omega : i ≠ _)]
    by_cases q : j = (gi S 8).toNatClampNeg
    · subst q
      rw [upd_at, upd_at, upd_at]
      exact hno i hij
    · rw [upd_ne q, upd_ne q, upd_ne q]
      exact r10 i j hij (by omega)
  · intro i hi
    have := r11 i hi
    show 0 ≤ (ga S 46 i).toInt ∧ 0 ≤ (ga S 47 i).toInt ∧ (ga S 46 i).toInt + (ga S 47 i).toInt ≤ cntW (upd (ga S 43) (gi S 8).toNatClampNeg a1) (upd (ga S 44) (gi S 8).toNatClampNeg a2) (nI i) (gi S 0) (gi S 8 + 1).toNatClampNeg
    rw [e9]
    unfold cntW
    rw [cntW_congr (I := ga S 43) (N := ga S 44) (fun k hk => ⟨upd_ne (by omega), upd_ne (by omega)⟩)]
    omega
