/-! sums over lots, the law in force, seizures parted -/
/-- casks of the first n lots of season a; z: of those that lie in hides, or of the others -/
def ssn (N P C : Nat → Int32) (a : Int32) (z : Bool) : Nat → Int32
  | 0 => 0
  | n + 1 => ssn N P C a z n + (if N n / 30 = a ∧ (decide (P n = 0) = z) then C n else 0)
theorem i0 (x : Int32) : x + 0 = x := Int32.add_zero x
theorem rX5_heldIn {S : gS} {a : Int32} {Q : Int32 → gS → Prop} (hb : 0 ≤ (gi S 6).toInt ∧ (gi S 6).toInt ≤ 100) (h : Q (ssn (ga S 36) (ga S 38) (ga S 35) a true (gi S 6).toNatClampNeg) S) : qX5_heldIn S a Q := by
  have tn := tn_ti hb.1
  refine lp_up (gi S 6).toNatClampNeg (fun k x => x = (ssn (ga S 36) (ga S 38) (ga S 35) a true k, nI k, S)) ?_ _ rfl
  rintro K k _ hk rfl hK
  have e : (nI k).toInt = k := nI_ti (by omega)
  refine br_le (fun c => ?_) (fun c => ⟨in_of (by omega) (by omega), ?_⟩)
  · obtain rfl : k = (gi S 6).toNatClampNeg := by omega
    exact h
  · rw [tN_nI (by omega)]
    refine ⟨fun q => ⟨fun q2 => ?_, fun q2 => ?_⟩, fun q => ?_⟩
    · rintro x rfl y rfl
      exact hK _ (by omega) (by rw [nI_1]; simp [ssn, q, q2])
    · rintro x rfl
      exact hK _ (by omega) (by rw [nI_1]; simp [ssn, q, q2])
    · rintro x rfl
      exact hK _ (by omega) (by rw [nI_1]; simp [ssn, q])
theorem rX5_seizedIn {S : gS} {a : Int32} {Q : Int32 → gS → Prop} (hb : 0 ≤ (gi S 6).toInt ∧ (gi S 6).toInt ≤ 100) (h : Q (ssn (ga S 36) (ga S 38) (ga S 35) a false (gi S 6).toNatClampNeg) S) : qX5_seizedIn S a Q := by
  have tn := tn_ti hb.1
  refine lp_up (gi S 6).toNatClampNeg (fun k x => x = (ssn (ga S 36) (ga S 38) (ga S 35) a false k, nI k, S)) ?_ _ rfl
  rintro K k _ hk rfl hK
  have e : (nI k).toInt = k := nI_ti (by omega)
  refine br_le (fun c => ?_) (fun c => ⟨in_of (by omega) (by omega), ?_⟩)
  · obtain rfl : k = (gi S 6).toNatClampNeg := by omega
    exact h
  · rw [tN_nI (by omega)]
    refine ⟨fun q => ⟨fun q2 => ?_, fun q2 => ?_⟩, fun q => ?_⟩
    · rintro x rfl
      exact hK _ (by omega) (by rw [nI_1]; simp [ssn, q, q2])
    · rintro x rfl y rfl
      exact hK _ (by omega) (by rw [nI_1]; simp [ssn, q, q2])
    · rintro x rfl
      exact hK _ (by omega) (by rw [nI_1]; simp [ssn, q])
theorem rX10_casksOf {M : gS} {a b : Int32} {z : Bool} (hz : b = if z then 0 else 1) {Q : Int32 → gS → Prop} (hb : 0 ≤ (gi M 4).toInt ∧ (gi M 4).toInt ≤ 100) (hp : ∀ k, k < 100 → 0 ≤ (ga M 21 k).toInt) (h : Q (ssn (ga M 19) (ga M 21) (ga M 18) a z (gi M 4).toNatClampNeg) M) : qX10_casksOf M a b Q := by
  have tn := tn_ti hb.1
  have l0 : (0 : Int32).toInt = 0 := by decide
  refine lp_up (gi M 4).toNatClampNeg (fun k x => x = (ssn (ga M 19) (ga M 21) (ga M 18) a z k, nI k, M)) ?_ _ rfl
  rintro K k _ hk rfl hK
  have e : (nI k).toInt = k := nI_ti (by omega)
  refine br_le (fun c => ?_) (fun c => ⟨in_of (by omega) (by omega), ?_⟩)
  · obtain rfl : k = (gi M 4).toNatClampNeg := by omega
    exact h
  · rw [tN_nI (by omega)]
    have hp := hp k (by omega)
    refine ⟨fun q => br_le (fun q2 => ?_) (fun q2 => ?_), fun q => ?_⟩
    · have q3 : ga M 21 k = 0 := Int32.toInt_inj.mp (by omega)
      refine ⟨fun q4 => ⟨in_of (by omega) (by omega), ?_⟩, fun q4 => ?_⟩
      · rw [tN_nI (by omega)]
        rintro x rfl y rfl
        cases z
        · rw [hz] at q4; exact absurd q4 (by decide)
        · exact hK _ (by omega) (by rw [nI_1]; simp [ssn, q, q3])
      · rintro x rfl y rfl
        cases z
        · exact hK _ (by omega) (by rw [nI_1]; simp [ssn, q, q3])
        · rw [hz] at q4; exact absurd rfl q4
    · have q3 : ¬ ga M 21 k = 0 := fun w => by rw [w] at q2; omega
      refine ⟨fun q4 => ⟨in_of (by omega) (by omega), ?_⟩, fun q4 => ?_⟩
      · rw [tN_nI (by omega)]
        rintro x rfl y rfl
        cases z
        · exact hK _ (by omega) (by rw [nI_1]; simp [ssn, q, q3])
        · rw [hz] at q4; exact absurd q4 (by decide)
      · rintro x rfl y rfl
        cases z
        · rw [hz] at q4; exact absurd rfl q4
        · exact hK _ (by omega) (by rw [nI_1]; simp [ssn, q, q3])
    · rintro x rfl y rfl
      exact hK _ (by omega) (by rw [nI_1]; simp [ssn, q])
theorem rX10_liesIn {M : gS} {a : Int32} {Q : Int32 → gS → Prop} (hb : 0 ≤ (gi M 4).toInt ∧ (gi M 4).toInt ≤ 100) (h : Q (lieS (ga M 21) (ga M 22) (ga M 18) a (gi M 4).toNatClampNeg) M) : qX10_liesIn M a Q := by
  have tn := tn_ti hb.1
  refine lp_up (gi M 4).toNatClampNeg (fun k x => x = (lieS (ga M 21) (ga M 22) (ga M 18) a k, nI k, M)) ?_ _ rfl
  rintro K k _ hk rfl hK
  have e : (nI k).toInt = k := nI_ti (by omega)
  refine br_le (fun c => ?_) (fun c => ⟨in_of (by omega) (by omega), ?_⟩)
  · obtain rfl : k = (gi M 4).toNatClampNeg := by omega
    exact h
  · rw [tN_nI (by omega)]
    refine ⟨fun q => ⟨fun q2 => ?_, fun q2 => ?_⟩, fun q => ?_⟩
    · rintro x rfl y rfl
      exact hK _ (by omega) (by rw [nI_1]; simp [lieS, q, q2])
    · rintro x rfl y rfl
      exact hK _ (by omega) (by rw [nI_1]; simp [lieS, q, q2])
    · rintro x rfl y rfl
      exact hK _ (by omega) (by rw [nI_1]; simp [lieS, q])
theorem lieS_congr {P Hd Hd2 C : Nat → Int32} {h : Int32} {n : Nat} (e : ∀ k, k < n → P k = 0 → Hd k = Hd2 k) : lieS P Hd C h n = lieS P Hd2 C h n := by
  induction n with
  | zero => rfl
  | succ n ih =>
    unfold lieS
    rw [ih (fun k hk => e k (by omega))]
    by_cases q : P n = 0
    · rw [e n (by omega) q]
    · simp [q]
/-- what lies in a hide, by the class's own count and by the reference's -/
theorem RS_lie {S M : gS} (hR : RS S M) {a : Int32} (h0 : 0 ≤ a.toInt) (h1 : a.toInt < 12) : ga S 33 a.toNatClampNeg = lieS (ga M 21) (ga M 22) (ga M 18) a (gi M 4).toNatClampNeg := by
  have hl := cl_lt h0 (n := 12) (by omega)
  have b6 := RS_bi hR (i := 6) (lo := 0) (hi := 100) (by decide)
  have tn := tn_ti b6.1
  have hY := hR.2.2.2.2.2.2.2.1 _ hl.1
  rw [hY, ← hl.2.2, RS_a hR (i := 38) (j := 21) (by decide), RS_a hR (i := 35) (j := 18) (by decide), ← RS_i hR (i := 6) (j := 4) (by decide)]
  refine lieS_congr (fun k hk q => ?_)
  rw [← RS_a hR (i := 38) (j := 21) (by decide)] at q
  exact ((hR.2.2.2.2.2.2.1 k (by omega)).2 (by rw [q]; decide)).symm
/-- the law in force: the number, or -1 -/
def inF (fr : Nat → Int32) (now : Int32) : Nat → Int32
  | 0 => -1
  | n + 1 => if now < fr n then inF fr now n else if inF fr now n = -1 then nI n else if fr n < fr (inF fr now n).toNatClampNeg then inF fr now n else nI n
theorem inF_in (fr : Nat → Int32) (now : Int32) (n : Nat) : inF fr now n = -1 ∨ ∃ j, j < n ∧ inF fr now n = nI j := by
  induction n with
  | zero => exact Or.inl rfl
  | succ n ih =>
    unfold inF
    have ih2 : inF fr now n = -1 ∨ ∃ j, j < n + 1 ∧ inF fr now n = nI j := ih.imp id (fun ⟨j, h1, h2⟩ => ⟨j, by omega, h2⟩)
    split
    · exact ih2
    · split
      · exact Or.inr ⟨n, by omega, rfl⟩
      · split
        · exact ih2
        · exact Or.inr ⟨n, by omega, rfl⟩
theorem inF_bd {fr : Nat → Int32} {now : Int32} {n : Nat} (hn : n ≤ 20) : -1 ≤ (inF fr now n).toInt ∧ (inF fr now n).toInt < n ∧ (¬ inF fr now n = -1 → 0 ≤ (inF fr now n).toInt) := by
  rcases inF_in fr now n with h | ⟨j, h1, h2⟩
  · rw [h, show (-1 : Int32).toInt = -1 from rfl]
    exact ⟨by omega, by omega, fun z => absurd rfl z⟩
  · rw [h2, nI_ti (by omega)]
    exact ⟨by omega, by omega, fun _ => by omega⟩
theorem rX4_inForceOn {S : gS} {a : Int32} {Q : Int32 → gS → Prop} (hb : 0 ≤ (gi S 7).toInt ∧ (gi S 7).toInt ≤ 20) (h : Q (inF (ga S 42) a (gi S 7).toNatClampNeg) S) : qX4_inForceOn S a Q := by
  have tn := tn_ti hb.1
  refine lp_up (gi S 7).toNatClampNeg (fun k x => x = (inF (ga S 42) a k, nI k, S)) ?_ _ rfl
  rintro K k _ hk rfl hK
  have e : (nI k).toInt = k := nI_ti (by omega)
  have hb := inF_bd (fr := ga S 42) (now := a) (n := k) (by omega)
  refine br_le (fun c => ?_) (fun c => ⟨in_of (by omega) (by omega), ?_⟩)
  · obtain rfl : k = (gi S 7).toNatClampNeg := by omega
    exact h
  · rw [tN_nI (by omega)]
    refine ⟨fun q => ?_, fun q => ⟨fun q2 => ?_, fun q2 => ⟨in_of (hb.2.2 q2) (by omega), fun q3 => ?_, fun q3 => ?_⟩⟩⟩
    · rintro x rfl
      exact hK _ (by omega) (by rw [nI_1]; simp [inF, q])
    · rintro x rfl
      exact hK _ (by omega) (by rw [nI_1]; simp [inF, q, q2])
    · rintro x rfl
      exact hK _ (by omega) (by rw [nI_1]; simp [inF, q, q2, q3])
    · rintro x rfl
      exact hK _ (by omega) (by rw [nI_1]; simp [inF, q, q2, q3])
/-- the purses behind a seizure: v in all, crew's part, informer's part (of informer i, if i isn't -1) -/
def pur (f : Nat → Int32) (v crew told i : Int32) : Nat → Int32 := fun j => if j = 0 then f 0 + crew else if j = 1 then f 1 + (v - crew - told) else if 0 ≤ i.toInt ∧ j = 2 + i.toNatClampNeg then f j + told else f j
def purV (casks price : Int32) (cr inf fr : Nat → Int32) (now : Int32) (n : Nat) (i : Int32) (f : Nat → Int32) : Nat → Int32 :=
  pur f (casks * price) (if inF fr now n = -1 then 0 else casks * price * cr (inF fr now n).toNatClampNeg / 100) (if inF fr now n = -1 ∨ i.toInt < 0 then 0 else casks * price * inf (inF fr now n).toNatClampNeg / 100) i
theorem rX9_part_J {S : gS} {a1 a2 v crew told : Int32} {f : Nat → Int32} {Q : gS → Prop} (hf : upd (upd (ga S 1) 0 (ga S 1 0 + crew)) 1 (ga S 1 1 + (v - crew - told)) = f) (h : Q (sA S 1 f)) : qX9_partSeized_J86 a1 a2 Q (v, crew, told, S) := by
  refine ⟨in_of (by decide) (by decide), ?_⟩
  rintro S2 rfl
  refine ⟨in_of (by decide) (by decide), ?_⟩
  rintro S4 rfl
  subst hf
  rw [ga_at, sA_sA]
  exact h
theorem rX9_partSeized {S : gS} {a1 a2 : Int32} {Q : gS → Prop} (hb : 0 ≤ (gi S 7).toInt ∧ (gi S 7).toInt ≤ 20) (h2 : -1 ≤ a2.toInt ∧ a2.toInt ≤ 5) (h : Q (sA S 1 (purV a1 (gi S 3) (ga S 40) (ga S 41) (ga S 42) (gi S 0) (gi S 7).toNatClampNeg a2 (ga S 1)))) : qX9_partSeized S a1 a2 Q := by
  have tn := tn_ti hb.1
  have l0 : (0 : Int32).toInt = 0 := by decide
  have l1 : (1 : Int32).toInt = 1 := by decide
  have l2 : (2 : Int32).toInt = 2 := by decide
  rintro x rfl
  refine rX4_inForceOn hb ?_
  have hf := inF_bd (fr := ga S 42) (now := gi S 0) (n := (gi S 7).toNatClampNeg) (by omega)
  refine ⟨fun q => rX9_part_J ?_ h, fun q => ⟨in_of (hf.2.2 q) (by omega), ?_⟩⟩
  · funext j
    simp only [purV, pur, upd, q, true_or, if_true]
    by_cases j1 : j = 1
    · subst j1; simp
    · by_cases j0 : j = 0
      · subst j0; simp
      · simp [j0, j1]
  · rintro y rfl
    refine rX9_isInformer (fun q1 q2 => ⟨fun z => absurd z (by decide), fun _ => ?_⟩) (fun q1 => ⟨fun _ => rX9_part_J ?_ h, fun z => absurd rfl z⟩)
    · rintro z rfl
      have e2 : (2 + a2).toInt = 2 + a2.toInt := by rw [ti_add] <;> rw [l2] <;> omega
      have t2 := tn_ti (x := 2 + a2) (by omega)
      have t3 := tn_ti q1
      have e3 : (2 + a2).toNatClampNeg = 2 + a2.toNatClampNeg := by omega
      refine ⟨in_of (by omega) (by omega), ?_⟩
      rintro S2 rfl
      refine rX9_part_J (f := purV a1 (gi S 3) (ga S 40) (ga S 41) (ga S 42) (gi S 0) (gi S 7).toNatClampNeg a2 (ga S 1)) ?_ (by rw [sA_sA]; exact h)
      rw [ga_at, e3]
      funext j
      have n2 : ¬ a2.toInt < 0 := by omega
      simp only [purV, pur, upd, q, n2, or_self, if_false]
      by_cases j1 : j = 1
      · subst j1; simp [show ¬ 1 = 2 + a2.toNatClampNeg by omega]
      · by_cases j0 : j = 0
        · subst j0; simp [show ¬ 0 = 2 + a2.toNatClampNeg by omega]
        · by_cases j2 : j = 2 + a2.toNatClampNeg
          · subst j2; simp [q1, show ¬ 2 + a2.toNatClampNeg = 1 by omega, show ¬ 2 + a2.toNatClampNeg = 0 by omega]
          · simp [j0, j1, j2]
    · have n2 : a2.toInt < 0 := by omega
      have n3 : ¬ 0 ≤ a2.toInt := by omega
      funext j
      simp only [purV, pur, upd, q, n2, or_true, if_true, if_false, n3, false_and]
      by_cases j1 : j = 1
      · subst j1; simp
      · by_cases j0 : j = 0
        · subst j0; simp
        · simp [j0, j1]
theorem rX10_part_J {M : gS} {a1 a2 v crew told : Int32} {Q : gS → Prop} (h2 : -1 ≤ a2.toInt ∧ a2.toInt ≤ 5) (h : Q (sA M 39 (pur (ga M 39) v crew told a2))) : qX10_partCasks_J115 a1 a2 Q (v, crew, told, M) := by
  have l0 : (0 : Int32).toInt = 0 := by decide
  have l2 : (2 : Int32).toInt = 2 := by decide
  refine ⟨in_of (by decide) (by decide), ?_⟩
  rintro S2 rfl
  refine ⟨in_of (by decide) (by decide), ?_⟩
  rintro S4 rfl
  rw [ga_at, sA_sA]
  refine br_lt (fun q => ?_) (fun q => ?_)
  · have e : upd (upd (ga M 39) (0 : Int32).toNatClampNeg (ga M 39 (0 : Int32).toNatClampNeg + crew)) (1 : Int32).toNatClampNeg (upd (ga M 39) (0 : Int32).toNatClampNeg (ga M 39 (0 : Int32).toNatClampNeg + crew) (1 : Int32).toNatClampNeg + (v - crew - told)) = pur (ga M 39) v crew told a2 := by
      have n3 : ¬ 0 ≤ a2.toInt := by omega
      funext j
      simp only [pur, upd, show (0 : Int32).toNatClampNeg = 0 from rfl, show (1 : Int32).toNatClampNeg = 1 from rfl, n3, false_and, if_false]
      by_cases j1 : j = 1
      · subst j1; simp
      · by_cases j0 : j = 0
        · subst j0; simp
        · simp [j0, j1]
    rw [e]; exact h
  · have e2 : (2 + a2).toInt = 2 + a2.toInt := by rw [ti_add] <;> rw [l2] <;> omega
    have q1 : 0 ≤ a2.toInt := by omega
    have t2 := tn_ti (x := 2 + a2) (by omega)
    have t3 := tn_ti q1
    have e3 : (2 + a2).toNatClampNeg = 2 + a2.toNatClampNeg := by omega
    refine ⟨in_of (by omega) (by omega), ?_⟩
    rintro S7 rfl
    rw [ga_at, sA_sA, e3]
    have e : upd (upd (upd (ga M 39) (0 : Int32).toNatClampNeg (ga M 39 (0 : Int32).toNatClampNeg + crew)) (1 : Int32).toNatClampNeg (upd (ga M 39) (0 : Int32).toNatClampNeg (ga M 39 (0 : Int32).toNatClampNeg + crew) (1 : Int32).toNatClampNeg + (v - crew - told))) (2 + a2.toNatClampNeg) (upd (upd (ga M 39) (0 : Int32).toNatClampNeg (ga M 39 (0 : Int32).toNatClampNeg + crew)) (1 : Int32).toNatClampNeg (upd (ga M 39) (0 : Int32).toNatClampNeg (ga M 39 (0 : Int32).toNatClampNeg + crew) (1 : Int32).toNatClampNeg + (v - crew - told)) (2 + a2.toNatClampNeg) + told) = pur (ga M 39) v crew told a2 := by
      funext j
      simp only [pur, upd, show (0 : Int32).toNatClampNeg = 0 from rfl, show (1 : Int32).toNatClampNeg = 1 from rfl, q1, true_and]
      by_cases j1 : j = 1
      · subst j1; simp [show ¬ 1 = 2 + a2.toNatClampNeg by omega]
      · by_cases j0 : j = 0
        · subst j0; simp [show ¬ 0 = 2 + a2.toNatClampNeg by omega]
        · by_cases j2 : j = 2 + a2.toNatClampNeg
          · subst j2; simp [show ¬ 2 + a2.toNatClampNeg = 1 by omega, show ¬ 2 + a2.toNatClampNeg = 0 by omega]
          · simp [j0, j1, j2]
    rw [e]; exact h
theorem rX10_partCasks {M : gS} {a1 a2 : Int32} {Q : gS → Prop} (hb : 0 ≤ (gi M 7).toInt ∧ (gi M 7).toInt ≤ 20) (h2 : -1 ≤ a2.toInt ∧ a2.toInt ≤ 5) (h : Q (sA M 39 (purV a1 (gi M 6) (ga M 28) (ga M 29) (ga M 30) (gi M 1) (gi M 7).toNatClampNeg a2 (ga M 39)))) : qX10_partCasks M a1 a2 Q := by
  have tn := tn_ti hb.1
  have l0 : (0 : Int32).toInt = 0 := by decide
  have lm : (-1 : Int32).toInt = -1 := by decide
  refine lp_up (gi M 7).toNatClampNeg (fun k x => x = (inF (ga M 30) (gi M 1) k, nI k, M)) ?_ _ rfl
  rintro K k _ hk rfl hK
  have e : (nI k).toInt = k := nI_ti (by omega)
  have hf := inF_bd (fr := ga M 30) (now := gi M 1) (n := k) (by omega)
  refine br_le (fun c => ?_) (fun c => ⟨in_of (by omega) (by omega), ?_⟩)
  · obtain rfl : k = (gi M 7).toNatClampNeg := by omega
    rintro x rfl
    unfold purV at h
    refine br_le (fun q => ⟨in_of (by omega) (by omega), ?_⟩) (fun q => ?_)
    · have n1 : ¬ inF (ga M 30) (gi M 1) (gi M 7).toNatClampNeg = -1 := fun z => by rw [z] at q; omega
      rw [if_neg n1] at h
      refine br_lt (fun q2 => by omega) (fun _ => br_le (fun q2 => ⟨in_of (by omega) (by omega), ?_⟩) (fun q2 => ?_))
      · rw [if_neg (by rintro (z | z); exact n1 z; omega)] at h
        exact rX10_part_J (a1 := a1) h2 h
      · rw [if_pos (Or.inr (by omega))] at h
        exact rX10_part_J (a1 := a1) h2 h
    · have n1 : inF (ga M 30) (gi M 1) (gi M 7).toNatClampNeg = -1 := Int32.toInt_inj.mp (by omega)
      rw [if_pos n1, if_pos (Or.inl n1)] at h
      exact br_lt (fun q2 => rX10_part_J (a1 := a1) h2 h) (fun q2 => by omega)
  · rw [tN_nI (by omega)]
    refine ⟨fun q => ?_, fun q => br_lt (fun q2 => ?_) (fun q2 => ⟨in_of (by omega) (by omega), fun q3 => ?_, fun q3 => ?_⟩)⟩
    · rintro x rfl
      exact hK _ (by omega) (by rw [nI_1]; simp [inF, q])
    · have n1 : inF (ga M 30) (gi M 1) k = -1 := Int32.toInt_inj.mp (by omega)
      rintro x rfl
      exact hK _ (by omega) (by rw [nI_1]; simp [inF, q, n1])
    · have n1 : ¬ inF (ga M 30) (gi M 1) k = -1 := fun z => by rw [z] at q2; omega
      rintro x rfl
      exact hK _ (by omega) (by rw [nI_1]; simp [inF, q, n1, q3])
    · have n1 : ¬ inF (ga M 30) (gi M 1) k = -1 := fun z => by rw [z] at q2; omega
      rintro x rfl
      exact hK _ (by omega) (by rw [nI_1]; simp [inF, q, n1, q3])
