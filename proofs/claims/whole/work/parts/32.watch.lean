/-! a night, the first part: watchers -/
theorem lp_step {α : Type} {B : (α → Prop) → α → Prop} {a a2 : α} (h : ∀ K : α → Prop, K a2 → B K a) (h2 : lp B a2) : lp B a := by
  obtain ⟨n, hn⟩ := h2
  exact ⟨n + 1, h _ hn⟩
theorem sI_self {S : gS} {k : Nat} : sI S k (gi S k) = S := by
  obtain ⟨a, b⟩ := S
  unfold sI gi
  simp only [Prod.mk.injEq, and_true]
  funext j
  split
  · rename_i q; rw [q]
  · rfl
theorem sI_sI {S : gS} {k : Nat} {v w : Int32} : sI (sI S k v) k w = sI S k w := by
  unfold sI
  simp only [Prod.mk.injEq, and_true]
  funext j
  by_cases q : j = k
  · simp [q]
  · simp [q]
theorem sI_sA {S : gS} {k i : Nat} {v : Int32} {f : Nat → Int32} : sI (sA S i f) k v = sA (sI S k v) i f := rfl
/-- the cove whose shares so far pass v -/
def covR (sh : Nat → Int32) (v : Int32) : Nat → Nat → Nat
  | 0, c => c
  | f + 1, c => if v < sumF sh (c + 1) then c else covR sh v f (c + 1)
theorem covR_le {sh : Nat → Int32} {v : Int32} : ∀ (f c : Nat), covR sh v f c ≤ c + f := by
  intro f
  induction f with
  | zero => intro c; exact Nat.le_refl _
  | succ f ih =>
    intro c
    unfold covR
    split
    · omega
    · have := ih (c + 1); omega
theorem rX1_coveOfShare {S : gS} {v : Int32} {Q : Int32 → gS → Prop} (h : Q (nI (covR (ga S 11) v 5 0)) S) : qX1_coveOfShare S v Q := by
  have l6 : (6 : Int32).toInt = 6 := by decide
  generalize hr : covR (ga S 11) v 5 0 = r at h
  refine lp_up 6 (fun c a => a = (sumF (ga S 11) c, nI c, S) ∧ (c ≤ 5 → covR (ga S 11) v (5 - c) c = r) ∧ (c = 6 → r = 5)) ?_ _ ⟨rfl, fun _ => hr, fun z => by omega⟩
  rintro K c _ hc ⟨rfl, h5, h6⟩ hK
  have e : (nI c).toInt = c := nI_ti (by omega)
  refine br_le (fun q => ?_) (fun q => ⟨in_of (by omega) (by omega), ?_⟩)
  · have r5 := h6 (by omega)
    rw [r5] at h
    exact h
  · rw [tN_nI (by omega)]
    have h5 := h5 (by omega)
    rintro x rfl
    refine ⟨fun z => ?_, fun z => ?_⟩
    · rintro y rfl
      refine hK _ (by omega) ⟨by rw [nI_1]; rfl, fun c5 => ?_, fun c6 => ?_⟩
      · rw [show 5 - c = (5 - (c + 1)) + 1 by omega] at h5
        have z2 : ¬ v < sumF (ga S 11) (c + 1) := fun w => by
          have a := Int32.le_iff_toInt_le.mp z
          have b := Int32.lt_iff_toInt_lt.mp w
          have c : sumF (ga S 11) (c + 1) = sumF (ga S 11) c + ga S 11 c := rfl
          rw [c] at b
          omega
        simp only [covR, if_neg z2] at h5
        exact h5
      · have : c = 5 := by omega
        subst this
        exact h5.symm
    · have : r = c := by
        by_cases c5 : c = 5
        · subst c5; exact h5.symm
        · rw [show 5 - c = (5 - (c + 1)) + 1 by omega] at h5
          have z2 : v < sumF (ga S 11) (c + 1) := Int32.lt_iff_toInt_lt.mpr (by
            have a : ¬ (sumF (ga S 11) c + ga S 11 c).toInt ≤ v.toInt := fun w => z (Int32.le_iff_toInt_le.mpr w)
            show v.toInt < (sumF (ga S 11) c + ga S 11 c).toInt
            omega)
          simp only [covR, if_pos z2] at h5
          exact h5.symm
      rw [← this]; exact h
theorem rX10_watch_c {M : gS} {v1 v2 v : Int32} {Q : gS → Prop} {K : Int32 × Int32 × gS → Prop} (hs : v < sumF (ga M 24) 6) (h : K (v1, v2 + 1, sA M 26 (upd (ga M 26) (covR (ga M 24) v 5 0) (ga M 26 (covR (ga M 24) v 5 0) + 1)))) : lp (qX10_watch_L68 Q K) (v1, v2, v, 0, ga M 24 0, M) := by
  have hl := covR_le (sh := ga M 24) (v := v) 5 0
  generalize hr : covR (ga M 24) v 5 0 = r at h hl
  refine lp_up 5 (fun c a => a = (v1, v2, v, nI c, sumF (ga M 24) (c + 1), M) ∧ covR (ga M 24) v (5 - c) c = r) ?_ _ ⟨?_, hr⟩
  · rintro K2 c _ hc ⟨rfl, h5⟩ hK
    have e : (nI c).toInt = c := nI_ti (by omega)
    refine ⟨fun z => ⟨in_of (by omega) (by omega), ?_⟩, fun z => ?_⟩
    · have : r = c := by
        by_cases c5 : c = 5
        · subst c5; exact h5.symm
        · rw [show 5 - c = (5 - (c + 1)) + 1 by omega] at h5
          simp only [covR, if_pos z] at h5
          exact h5.symm
      subst this
      rw [tN_nI (by omega)]
      rintro S3 rfl x rfl
      exact h
    · have c5 : c < 5 := by
        rcases Nat.lt_or_ge c 5 with w | w
        · exact w
        · exfalso
          obtain rfl : c = 5 := by omega
          exact z hs
      rw [nI_1]
      rintro x rfl
      have e2 : (nI (c + 1)).toInt = ((c + 1 : Nat) : Int) := nI_ti (by omega)
      refine ⟨in_of (by omega) (by omega), ?_⟩
      rw [tN_nI (by omega)]
      rintro y rfl
      refine hK _ c5 ⟨rfl, ?_⟩
      rw [show 5 - c = (5 - (c + 1)) + 1 by omega] at h5
      simp only [covR, if_neg z] at h5
      exact h5
  · show _ = (v1, v2, v, (0 : Int32), (0 : Int32) + ga M 24 0, M)
    rw [Int32.zero_add]
def rnd (s : Int32) : Int32 := s * 1103515245 + 12345
def rndH (s : Int32) : Int32 := (s.toUInt32 >>> ((16 : Int32).toUInt32 &&& Int32.toUInt32 31)).toInt32
def rndV (s n : Int32) : Int32 := rndH s - rndH s / n * n
theorem rndH_nn (s : Int32) : 0 ≤ (rndH s).toInt := by
  have h := pk_ushr s 16 16 (by decide)
  have h2 : s.toBitVec.toNat < 2 ^ 32 := s.toBitVec.isLt
  have h3 : (rndH s).toBitVec.toNat < 2 ^ 16 := by
    show ((s.toUInt32 >>> ((16 : Int32).toUInt32 &&& Int32.toUInt32 31)).toInt32).toBitVec.toNat < 2 ^ 16
    rw [h]; omega
  show 0 ≤ (rndH s).toBitVec.toInt
  rw [BitVec.toInt_eq_toNat_of_lt (by omega)]
  omega
theorem rndV_lt {s n : Int32} (hn : 0 < n.toInt) : 0 ≤ (rndV s n).toInt ∧ rndV s n < n := by
  have e := ti_rem (rndH_nn s) hn
  have g1 := Int.emod_nonneg (rndH s).toInt (b := n.toInt) (by omega)
  have g2 := Int.emod_lt_of_pos (rndH s).toInt hn
  have e : (rndV s n).toInt = (rndH s).toInt % n.toInt := e
  exact ⟨by omega, Int32.lt_iff_toInt_lt.mpr (by omega)⟩
theorem rX9_drawBelow {S : gS} {n : Int32} {Q : Int32 → gS → Prop} (hn : 0 < n.toInt) (h : Q (rndV (rnd (gi S 1)) n) (sI S 1 (rnd (gi S 1)))) : qX9_drawBelow S n Q := by
  have l0 : (0 : Int32).toInt = 0 := by decide
  rintro S1 rfl
  refine br_le (fun z => by omega) (fun z => ⟨fun w => by rw [w] at hn; omega, h⟩)
theorem rX10_drawBelow {M : gS} {n : Int32} {Q : Int32 → gS → Prop} (hn : 0 < n.toInt) (h : Q (rndV (rnd (gi M 0)) n) (sI M 0 (rnd (gi M 0)))) : qX10_drawBelow M n Q := by
  have l0 : (0 : Int32).toInt = 0 := by decide
  rintro S1 rfl
  exact ⟨fun w => by rw [w] at hn; omega, h⟩
/-- seed and watchers behind k draws below n -/
def dS (sh : Nat → Int32) (n s0 : Int32) (w0 : Nat → Int32) : Nat → Int32 × (Nat → Int32)
  | 0 => (s0, w0)
  | k + 1 => (rnd (dS sh n s0 w0 k).1, upd (dS sh n s0 w0 k).2 (covR sh (rndV (rnd (dS sh n s0 w0 k).1) n) 5 0) ((dS sh n s0 w0 k).2 (covR sh (rndV (rnd (dS sh n s0 w0 k).1) n) 5 0) + 1))
def stS (f w : Nat → Int32) (c : Nat) : Nat → Int32 := fun j => if j < c then f j else w j
theorem stS_s {f w : Nat → Int32} {c : Nat} : upd (stS f w c) c (f c) = stS f w (c + 1) := by
  funext j
  unfold upd stS
  by_cases q : j = c
  · subst q; simp
  · by_cases q2 : j < c
    · simp [q, q2, show j < c + 1 by omega]
    · simp [q, q2, show ¬ j < c + 1 by omega]
/-- seed and watchers of a night -/
def wtr (sd dr : Int32) (st sh w : Nat → Int32) : Int32 × (Nat → Int32) := if sumF sh 6 = 0 then (sd, stS st w 6) else dS sh (sumF sh 6) sd (stS st w 6) dr.toNatClampNeg
theorem sumF_bd {sh : Nat → Int32} {n : Nat} (hn : n ≤ 6) (h : ∀ k, k < 6 → 0 ≤ (sh k).toInt ∧ (sh k).toInt ≤ 99) : 0 ≤ (sumF sh n).toInt ∧ (sumF sh n).toInt ≤ 99 * n := by
  induction n with
  | zero =>
    show 0 ≤ (0 : Int32).toInt ∧ (0 : Int32).toInt ≤ 99 * ((0 : Nat) : Int)
    exact ⟨by decide, by decide⟩
  | succ n ih =>
    have ih := ih (by omega)
    have := h n (by omega)
    unfold sumF
    rw [ti_add (by omega) (by omega)]
    push_cast
    omega
theorem rX9_placeWatchers {S : gS} {Q : gS → Prop} (hsh : ∀ k, k < 6 → 0 ≤ (ga S 11 k).toInt ∧ (ga S 11 k).toInt ≤ 99) (hd : 0 ≤ (gi S 2).toInt ∧ (gi S 2).toInt ≤ 9) (h : Q (sA (sI S 1 (wtr (gi S 1) (gi S 2) (ga S 10) (ga S 11) (ga S 13)).1) 13 (wtr (gi S 1) (gi S 2) (ga S 10) (ga S 11) (ga S 13)).2)) : qX9_placeWatchers S Q := by
  have l6 : (6 : Int32).toInt = 6 := by decide
  have l0 : (0 : Int32).toInt = 0 := by decide
  have tn := tn_ti hd.1
  refine lp_up 6 (fun c a => a = (nI c, sA S 13 (stS (ga S 10) (ga S 13) c))) ?_ _ ?_
  · rintro K c _ hc rfl hK
    have e : (nI c).toInt = c := nI_ti (by omega)
    refine br_le (fun q => ?_) (fun q => ⟨in_of (by omega) (by omega), ?_⟩)
    · obtain rfl : c = 6 := by omega
      refine rX1_sumOfShares ?_
      have es : ga (sA S 13 (stS (ga S 10) (ga S 13) 6)) 11 = ga S 11 := ga_ne (by decide)
      rw [es]
      have sb := sumF_bd (n := 6) (Nat.le_refl _) hsh
      unfold wtr at h
      refine br_eq (fun q2 _ => ?_) (fun q2 q3 => ?_)
      · rw [if_pos q2] at h
        have h : Q (sA (sI S 1 (gi S 1)) 13 (stS (ga S 10) (ga S 13) 6)) := h
        rw [sI_self] at h
        exact h
      · rw [if_neg q2] at h
        refine lp_up (gi S 2).toNatClampNeg (fun k a => a = (sumF (ga S 11) 6, nI k, sA (sI S 1 (dS (ga S 11) (sumF (ga S 11) 6) (gi S 1) (stS (ga S 10) (ga S 13) 6) k).1) 13 (dS (ga S 11) (sumF (ga S 11) 6) (gi S 1) (stS (ga S 10) (ga S 13) 6) k).2)) ?_ _ (by show _ = (_, _, sA (sI S 1 (gi S 1)) 13 _); rw [sI_self]; rfl)
        rintro K2 k _ hk rfl hK2
        have ek : (nI k).toInt = k := nI_ti (by omega)
        generalize hds : dS (ga S 11) (sumF (ga S 11) 6) (gi S 1) (stS (ga S 10) (ga S 13) 6) k = d
        refine br_le (fun w => ?_) (fun w => ?_)
        · have w : (gi S 2).toInt ≤ (nI k).toInt := w
          obtain rfl : k = (gi S 2).toNatClampNeg := by omega
          rw [hds] at h
          exact h
        · have w : (nI k).toInt < (gi S 2).toInt := w
          refine rX9_drawBelow (by omega) ?_
          refine rX1_coveOfShare ?_
          have es2 : ∀ (x : gS) (v : Int32) (f : Nat → Int32), ga (sI (sA (sI S 1 d.1) 13 d.2) 1 v) 11 = ga S 11 := fun _ _ _ => rfl
          have es3 : gi (sA (sI S 1 d.1) 13 d.2) 1 = d.1 := rfl
          rw [es2 S _ d.2, es3]
          have hc5 := covR_le (sh := ga S 11) (v := rndV (rnd d.1) (sumF (ga S 11) 6)) 5 0
          generalize hcv : covR (ga S 11) (rndV (rnd d.1) (sumF (ga S 11) 6)) 5 0 = cv at hc5
          have ec : (nI cv).toInt = cv := nI_ti (by omega)
          refine ⟨in_of (by omega) (by omega), ?_⟩
          rw [tN_nI (by omega)]
          rintro S7 rfl x rfl
          rw [nI_1]
          refine hK2 _ (by omega) ?_
          have ed : dS (ga S 11) (sumF (ga S 11) 6) (gi S 1) (stS (ga S 10) (ga S 13) 6) (k + 1) = (rnd d.1, upd d.2 cv (d.2 cv + 1)) := by
            show (rnd (dS (ga S 11) (sumF (ga S 11) 6) (gi S 1) (stS (ga S 10) (ga S 13) 6) k).1, _) = _
            rw [hds, hcv]
          rw [ed]
          refine pr3 rfl rfl ?_
          have e1 : ga (sI (sA (sI S 1 d.1) 13 d.2) 1 (rnd d.1)) 13 = d.2 := rfl
          rw [e1, sI_sA, sI_sI, sA_sA]
    · rw [tN_nI (by omega)]
      rintro S2 rfl x rfl
      rw [nI_1, ga_at, sA_sA, ga_ne (by decide), stS_s]
      exact hK _ (by omega) rfl
  · have e0 : stS (ga S 10) (ga S 13) 0 = ga S 13 := by funext j; simp [stS]
    rw [e0, sA_self]; rfl
theorem rX10_watch {M : gS} {Q : gS → Prop} (hsh : ∀ k, k < 6 → 0 ≤ (ga M 24 k).toInt ∧ (ga M 24 k).toInt ≤ 99) (hd : 0 ≤ (gi M 5).toInt ∧ (gi M 5).toInt ≤ 9) (h : Q (sA (sI M 0 (wtr (gi M 0) (gi M 5) (ga M 23) (ga M 24) (ga M 26)).1) 26 (wtr (gi M 0) (gi M 5) (ga M 23) (ga M 24) (ga M 26)).2)) : qX10_watch M Q := by
  have l6 : (6 : Int32).toInt = 6 := by decide
  have l0 : (0 : Int32).toInt = 0 := by decide
  have tn := tn_ti hd.1
  refine lp_up 6 (fun c a => a = (sumF (ga M 24) c, nI c, sA M 26 (stS (ga M 23) (ga M 26) c))) ?_ _ ?_
  · rintro K c _ hc rfl hK
    have e : (nI c).toInt = c := nI_ti (by omega)
    refine br_le (fun q => ?_) (fun q => ⟨in_of (by omega) (by omega), ?_⟩)
    · obtain rfl : c = 6 := by omega
      have sb := sumF_bd (n := 6) (Nat.le_refl _) hsh
      unfold wtr at h
      by_cases q2 : sumF (ga M 24) 6 = 0
      · rw [if_pos q2] at h
        have h : Q (sA (sI M 0 (gi M 0)) 26 (stS (ga M 23) (ga M 26) 6)) := h
        rw [sI_self] at h
        rw [q2]
        refine lp_up 1 (fun k a => k = 0 ∧ a = ((0 : Int32), (0 : Int32), sA M 26 (stS (ga M 23) (ga M 26) 6))) ?_ _ ⟨rfl, rfl⟩
        rintro K2 k _ hk ⟨rfl, rfl⟩ hK2
        exact br_le (fun _ => h) (fun _ => ⟨fun _ => h, fun w => absurd (Int32.le_refl _) w⟩)
      · rw [if_neg q2] at h
        have q3 : (sumF (ga M 24) 6).toInt ≠ (0 : Int32).toInt := fun w => q2 (Int32.toInt_inj.mp w)
        refine lp_up (gi M 5).toNatClampNeg (fun k a => a = (sumF (ga M 24) 6, nI k, sA (sI M 0 (dS (ga M 24) (sumF (ga M 24) 6) (gi M 0) (stS (ga M 23) (ga M 26) 6) k).1) 26 (dS (ga M 24) (sumF (ga M 24) 6) (gi M 0) (stS (ga M 23) (ga M 26) 6) k).2)) ?_ _ (by show _ = (_, _, sA (sI M 0 (gi M 0)) 26 _); rw [sI_self]; rfl)
        rintro K2 k _ hk rfl hK2
        have ek : (nI k).toInt = k := nI_ti (by omega)
        generalize hds : dS (ga M 24) (sumF (ga M 24) 6) (gi M 0) (stS (ga M 23) (ga M 26) 6) k = d
        refine br_le (fun w => ?_) (fun w => br_le (fun w2 => by omega) (fun w2 => ?_))
        · have w : (gi M 5).toInt ≤ (nI k).toInt := w
          obtain rfl : k = (gi M 5).toNatClampNeg := by omega
          rw [hds] at h
          exact h
        · have w : (nI k).toInt < (gi M 5).toInt := w
          refine rX10_drawBelow (by omega) ⟨in_of (by decide) (by decide), ?_⟩
          have es3 : gi (sA (sI M 0 d.1) 26 d.2) 0 = d.1 := rfl
          rw [es3]
          rintro x rfl
          refine rX10_watch_c ?_ ?_
          · exact (rndV_lt (by omega)).2
          · have es2 : ∀ v : Int32, ga (sI (sA (sI M 0 d.1) 26 d.2) 0 v) 24 = ga M 24 := fun _ => rfl
            have es4 : ∀ v : Int32, ga (sI (sA (sI M 0 d.1) 26 d.2) 0 v) 26 = d.2 := fun _ => rfl
            rw [es2, es4, nI_1]
            refine hK2 _ (by omega) ?_
            have ed : dS (ga M 24) (sumF (ga M 24) 6) (gi M 0) (stS (ga M 23) (ga M 26) 6) (k + 1) = (rnd d.1, upd d.2 (covR (ga M 24) (rndV (rnd d.1) (sumF (ga M 24) 6)) 5 0) (d.2 (covR (ga M 24) (rndV (rnd d.1) (sumF (ga M 24) 6)) 5 0) + 1)) := by
              show (rnd (dS (ga M 24) (sumF (ga M 24) 6) (gi M 0) (stS (ga M 23) (ga M 26) 6) k).1, _) = _
              rw [hds]
            rw [ed]
            refine pr3 rfl rfl ?_
            rw [sI_sA, sI_sI, sA_sA]
    · rw [tN_nI (by omega)]
      rintro S2 rfl x rfl y rfl
      rw [nI_1, ga_at, sA_sA, ga_ne (by decide), ga_ne (by decide), stS_s]
      exact hK _ (by omega) rfl
  · have e0 : stS (ga M 23) (ga M 26) 0 = ga M 26 := by funext j; simp [stS]
    rw [e0, sA_self]; rfl
