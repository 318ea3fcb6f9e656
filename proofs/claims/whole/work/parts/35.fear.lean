/-! a night: fears -/
theorem RS_frt {S M : gS} (hR : RS S M) {b c : Nat} {v : Int32} (hb : (b : Int) < (gi S 4).toInt) (hb8 : b < 8) (hc : c < 6) : RS (sA S (21 + b) (upd (ga S (21 + b)) c v)) (sA M 12 (upd (ga M 12) (6 * b + c) v)) := by
  obtain ⟨h1, h2, h3, h4, h5, h6, h7, h8, h9, h10, h11⟩ := hR
  have hp : ∀ p ∈ pA, p.1 ≠ 21 + b := by
    intro p hp q
    have : ∀ p ∈ pA, p.1 < 21 ∨ 28 < p.1 := by decide
    have := this p hp
    omega
  have hl : ∀ p ∈ lA, p.1 ≠ 21 + b := by
    intro p hp q
    have : ∀ p ∈ lA, p.1 < 21 ∨ 28 < p.1 := by decide
    have := this p hp
    omega
  refine ⟨h1, RA_r (RA_l h2 hp) (by decide), h3, BA_no h4 hl, ?_, RT_nr (RT_no h6 (by omega)) (by decide), RLo_nr (RLo_no h7 (by omega) (by omega)) (by decide), RY_no h8 (by omega) (by omega) (by omega) (by omega), ?_, RU_no h10 (by omega), RW_no h11 (by omega)⟩
  · intro x y hx hy
    have old := h5 x y hx hy
    rw [ga_at]
    by_cases q : x = b
    · subst q
      rw [ga_at]
      by_cases q2 : y = c
      · rw [q2, upd_at, upd_at]
      · rw [upd_ne q2, upd_ne (by omega)]; exact old
    · rw [ga_ne (by omega), upd_ne (by omega)]; exact old
  · refine ⟨fun x y hx hy hs => ?_, fun k hk => ?_⟩
    · have hs : (gi S 4).toInt ≤ x := hs
      rw [ga_ne (by omega)]
      exact h9.1 x y hx hy hs
    · rw [ga_ne (by omega)]
      exact h9.2 k hk
theorem RN_frt {S M : gS} (hN : RN S M) {b c : Nat} {v : Int32} (hb : (b : Int) < (gi S 4).toInt) (hb8 : b < 8) (hc : c < 6) : RN (sA S (21 + b) (upd (ga S (21 + b)) c v)) (sA M 12 (upd (ga M 12) (6 * b + c) v)) := by
  refine ⟨RS_frt hN.1 hb hb8 hc, ?_, ?_⟩
  · intro d hd
    have := hN.2.1 d hd
    rw [ga_ne (by decide), ga_ne (by omega), ga_ne (by omega)]
    exact this
  · intro i hi
    have := hN.2.2 i hi
    rw [ga_ne (by omega), ga_ne (by omega), ga_ne (by omega), ga_ne (by omega)]
    exact this
def more (f x : Int32) : Int32 := if f + x < 99 then f + x else 99
theorem rX0_frighten {S : gS} {b c x : Int32} {Q : gS → Prop} (hb : 0 ≤ b.toInt ∧ b.toInt < 8) (hc : 0 ≤ c.toInt ∧ c.toInt ≤ 5) (h : Q (sA S (21 + b.toNatClampNeg) (upd (ga S (21 + b.toNatClampNeg)) c.toNatClampNeg (more (ga S (21 + b.toNatClampNeg) c.toNatClampNeg) x)))) : qX0_frighten S b c x Q := by
  refine ⟨in_of hb.1 (by omega), in_of hc.1 (by omega), ?_⟩
  rintro S3 rfl
  exact h
theorem rX10_moreFear {S M : gS} (hR : RS S M) {b c x : Int32} {Q : gS → Prop} (hb : 0 ≤ b.toInt ∧ b.toInt < 8) (hc : 0 ≤ c.toInt ∧ c.toInt ≤ 5) (h : Q (sA M 12 (upd (ga M 12) (6 * b.toNatClampNeg + c.toNatClampNeg) (more (ga S (21 + b.toNatClampNeg) c.toNatClampNeg) x)))) : qX10_moreFear M b c x Q := by
  have i2 := ix2 (a := b) (b := c) (c := 6) (n := 6) (by decide) hb.1 hc.1 (N := 48) (by omega) (by decide)
  have e := hR.2.2.2.2.1 b.toNatClampNeg c.toNatClampNeg (cl_lt hb.1 (n := 8) (by omega)).1 (cl_lt hc.1 (n := 6) (by omega)).1
  refine ⟨i2.1, ?_⟩
  rw [i2.2, ← e]
  unfold more at h
  have l99 : (99 : Int32).toInt = 99 := by decide
  rintro y rfl
  refine br_le (fun q => ?_) (fun q => ?_)
  · rintro S4 rfl
    by_cases q2 : ga S (21 + b.toNatClampNeg) c.toNatClampNeg + x < 99
    · rw [if_pos q2] at h; exact h
    · rw [if_neg q2] at h
      have : ga S (21 + b.toNatClampNeg) c.toNatClampNeg + x = 99 := by
        have q3 : ¬ (ga S (21 + b.toNatClampNeg) c.toNatClampNeg + x).toInt < (99 : Int32).toInt := fun z => q2 (Int32.lt_iff_toInt_lt.mpr z)
        exact Int32.toInt_inj.mp (by omega)
      rw [this]; exact h
  · rintro S5 rfl
    rw [if_neg (fun z => by have := Int32.lt_iff_toInt_lt.mp z; omega)] at h
    exact h
theorem rX9_chosenCove {S : gS} {b : Int32} {Q : Int32 → gS → Prop} (hB : BA S) (hn : 0 ≤ (gi S 0).toInt) (hb : 0 ≤ b.toInt ∧ b.toInt < 8) (h : Q (chF (opn S b) (ga S (21 + b.toNatClampNeg)) (ga S 8) 6) S) : qX9_chosenCove S b Q := by
  have l6 : (6 : Int32).toInt = 6 := by decide
  refine lp_up 6 (fun n a => a = (chF (opn S b) (ga S (21 + b.toNatClampNeg)) (ga S 8) n, nI n, S)) ?_ _ rfl
  rintro K n _ hk rfl hK
  have e : (nI n).toInt = n := nI_ti (by omega)
  have cb := chF_bd (o := opn S b) (fr := ga S (21 + b.toNatClampNeg)) (wo := ga S 8) (n := n) hk
  refine br_le (fun q => ?_) (fun q => ?_)
  · obtain rfl : n = 6 := by omega
    exact h
  · refine rX9_tideAt hB (by omega) (by omega) hn ⟨in_of (by omega) (by omega), in_of hb.1 (by omega), ?_⟩
    rw [tN_nI (by omega)]
    refine ⟨fun q2 => ⟨fun _ => ?_, fun z => absurd rfl z⟩, fun q2 => ⟨fun z => absurd z (by decide), fun _ => ⟨fun q3 => ?_, fun q3 => ?_⟩⟩⟩
    · rintro x rfl
      rw [nI_1]
      exact hK _ (by omega) (by simp only [chF, if_neg (fun z : opn S b n => z q2)])
    · rintro x rfl
      rw [nI_1]
      exact hK _ (by omega) (by simp only [chF, if_pos (show opn S b n from q2), if_pos q3])
    · refine ⟨in_of hb.1 (by omega), in_of (by omega) (by omega), ?_⟩
      rw [tN_nI (by omega)]
      rintro x rfl
      refine ⟨in_of (cb.2.2 q3) (by omega), ?_⟩
      rintro y rfl
      refine ⟨fun q4 => ⟨fun z => absurd z (by decide), fun _ => ?_⟩, fun q4 => ⟨fun q5 => ⟨fun q6 => ⟨fun _ => ?_, fun z => absurd rfl z⟩, fun q6 => ⟨fun z => absurd z (by decide), fun _ => ?_⟩⟩, fun q5 => ⟨fun _ => ?_, fun z => absurd rfl z⟩⟩⟩
      · rintro x rfl
        rw [nI_1]
        exact hK _ (by omega) (by simp only [chF, if_pos (show opn S b n from q2), if_neg q3, if_pos q4])
      · rintro x rfl
        rw [nI_1]
        exact hK _ (by omega) (by simp only [chF, if_pos (show opn S b n from q2), if_neg q3, if_neg q4, if_pos q5, if_pos q6])
      · rintro x rfl
        rw [nI_1]
        exact hK _ (by omega) (by simp only [chF, if_pos (show opn S b n from q2), if_neg q3, if_neg q4, if_pos q5, if_neg q6])
      · rintro x rfl
        rw [nI_1]
        exact hK _ (by omega) (by simp only [chF, if_pos (show opn S b n from q2), if_neg q3, if_neg q4, if_neg q5])
theorem rX10_choice {S M : gS} (hR : RS S M) {b : Int32} {Q : Int32 → gS → Prop} (hb : 0 ≤ b.toInt ∧ b.toInt < 8) (h1 : litI (gi S 0).toInt ≤ (ga S 17 b.toNatClampNeg).toInt → Q (chF (opn S b) (ga S (21 + b.toNatClampNeg)) (ga S 8) 6) M) (h0 : (ga S 17 b.toNatClampNeg).toInt < litI (gi S 0).toInt → Q (-1) M) : qX10_choice M b Q := by
  have l6 : (6 : Int32).toInt = 6 := by decide
  have lm : (-1 : Int32).toInt = -1 := by decide
  have l0 : (0 : Int32).toInt = 0 := by decide
  have b0 := RS_bi hR (i := 0) (lo := 0) (hi := 1000) (by decide)
  have i0 := RS_i hR (i := 0) (j := 1) (by decide)
  have e17 := RS_a hR (i := 17) (j := 8) (by decide)
  have e7 := RS_a hR (i := 7) (j := 0) (by decide)
  have e14 := RS_a hR (i := 14) (j := 5) (by decide)
  have e8 := RS_a hR (i := 8) (j := 1) (by decide)
  have hbl := (cl_lt hb.1 (n := 8) (by omega)).1
  refine lp_up 6 (fun n a => a = (chF (opn S b) (ga S (21 + b.toNatClampNeg)) (ga S 8) n, nI n, M) ∧ (0 < n → litI (gi S 0).toInt ≤ (ga S 17 b.toNatClampNeg).toInt)) ?_ _ ⟨rfl, fun z => by omega⟩
  rintro K n _ hk ⟨rfl, hli⟩ hK
  have e : (nI n).toInt = n := nI_ti (by omega)
  have cb := chF_bd (o := opn S b) (fr := ga S (21 + b.toNatClampNeg)) (wo := ga S 8) (n := n) hk
  refine br_le (fun q => ?_) (fun q => ?_)
  · obtain rfl : n = 6 := by omega
    exact h1 (hli (by omega))
  · rw [← i0]
    refine rX10_lightAt (by omega) (fun r hr => ⟨in_of hb.1 (by omega), ?_⟩)
    rw [← e17]
    refine br_lt (fun z => ?_) (fun z => ?_)
    · by_cases n0 : n = 0
      · subst n0
        exact h0 (by omega)
      · have := hli (by omega)
        omega
    · rw [← i0]
      refine rX10_tideAt hR (by omega) (by omega) b0.1 ⟨in_of (by omega) (by omega), ?_⟩
      rw [tN_nI (by omega), ← e7, ← e14]
      have keep : K (chF (opn S b) (ga S (21 + b.toNatClampNeg)) (ga S 8) (n + 1), nI (n + 1), M) := hK _ (by omega) ⟨rfl, fun _ => by omega⟩
      refine ⟨fun q2 => ?_, fun q2 => ?_⟩
      · rintro x rfl
        rw [nI_1]
        simp only [chF, if_neg (fun z : opn S b n => z q2)] at keep
        exact keep
      · have ho : opn S b n := q2
        refine br_lt (fun q3 => ?_) (fun q3 => ?_)
        · have n1 : chF (opn S b) (ga S (21 + b.toNatClampNeg)) (ga S 8) n = -1 := Int32.toInt_inj.mp (by omega)
          refine ⟨fun z => absurd z (by decide), fun _ => ?_⟩
          rintro x rfl
          rw [nI_1]
          simp only [chF, if_pos ho, if_pos n1] at keep
          exact keep
        · have n1 : ¬ chF (opn S b) (ga S (21 + b.toNatClampNeg)) (ga S 8) n = -1 := fun z => by rw [z] at q3; omega
          have j1 := ix2 (a := b) (b := nI n) (c := 6) (n := 6) (by decide) hb.1 (by omega) (N := 48) (by omega) (by decide)
          have j2 := ix2 (a := b) (b := chF (opn S b) (ga S (21 + b.toNatClampNeg)) (ga S 8) n) (c := 6) (n := 6) (by decide) hb.1 (by omega) (N := 48) (by omega) (by decide)
          have f1 := hR.2.2.2.2.1 b.toNatClampNeg n hbl (by omega)
          have f2 := hR.2.2.2.2.1 b.toNatClampNeg (chF (opn S b) (ga S (21 + b.toNatClampNeg)) (ga S 8) n).toNatClampNeg hbl (cl_lt (n := 6) (by omega) (by omega)).1
          refine ⟨j1.1, j2.1, ?_⟩
          rw [j1.2, j2.2, tN_nI (by omega), ← f1, ← f2, ← e8]
          refine ⟨fun q4 => ⟨fun z => absurd z (by decide), fun _ => ?_⟩, fun q4 => ⟨fun q5 => ⟨in_of (by omega) (by omega), ?_⟩, fun q5 => ⟨fun _ => ?_, fun z => absurd rfl z⟩⟩⟩
          · rintro x rfl
            rw [nI_1]
            simp only [chF, if_pos ho, if_neg n1, if_pos q4] at keep
            exact keep
          · refine ⟨fun q6 => ⟨fun _ => ?_, fun z => absurd rfl z⟩, fun q6 => ⟨fun z => absurd z (by decide), fun _ => ?_⟩⟩
            · rintro x rfl
              rw [nI_1]
              simp only [chF, if_pos ho, if_neg n1, if_neg q4, if_pos q5, if_pos q6] at keep
              exact keep
            · rintro x rfl
              rw [nI_1]
              simp only [chF, if_pos ho, if_neg n1, if_neg q4, if_pos q5, if_neg q6] at keep
              exact keep
          · rintro x rfl
            rw [nI_1]
            simp only [chF, if_pos ho, if_neg n1, if_neg q4, if_neg q5] at keep
            exact keep
