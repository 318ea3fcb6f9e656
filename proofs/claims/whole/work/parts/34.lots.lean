/-! a night: lots laid, fears, and what came -/
/-- goods came to cove c on night t, among the first n lots -/
def cmB (C N : Nat → Int32) (c t : Int32) : Nat → Bool
  | 0 => false
  | n + 1 => cmB C N c t n || (decide (C n = c) && decide (N n = t))
theorem cmB_congr {C N C2 N2 : Nat → Int32} {c t : Int32} {n : Nat} (h : ∀ k, k < n → C2 k = C k ∧ N2 k = N k) : cmB C2 N2 c t n = cmB C N c t n := by
  induction n with
  | zero => rfl
  | succ n ih =>
    unfold cmB
    rw [ih (fun k hk => h k (by omega)), (h n (by omega)).1, (h n (by omega)).2]
theorem cmB_iff {C N : Nat → Int32} {c t : Int32} {n : Nat} : cmB C N c t n = true ↔ ∃ k, k < n ∧ C k = c ∧ N k = t := by
  induction n with
  | zero => simp [cmB]
  | succ n ih =>
    unfold cmB
    rw [Bool.or_eq_true, ih]
    constructor
    · rintro (⟨k, h1, h2⟩ | h)
      · exact ⟨k, by omega, h2⟩
      · simp at h; exact ⟨n, by omega, h.1, h.2⟩
    · rintro ⟨k, h1, h2⟩
      by_cases q : k = n
      · subst q; right; simp [h2]
      · exact Or.inl ⟨k, by omega, h2⟩
def CM (S M : gS) : Prop := ∀ c : Nat, c < 6 → ga M 27 c = if cmB (ga S 37) (ga S 36) (nI c) (gi S 0) (gi S 6).toNatClampNeg then 1 else 0
/-- how many of the first n words are of informer i and of a night ahead of t -/
def cntL (I N : Nat → Int32) (i t : Int32) : Nat → Nat
  | 0 => 0
  | n + 1 => cntL I N i t n + (if I n = i ∧ N n < t then 1 else 0)
def RWs (S : gS) : Prop := ∀ i : Nat, i < 6 → 0 ≤ (ga S 46 i).toInt ∧ 0 ≤ (ga S 47 i).toInt ∧ (ga S 46 i).toInt + (ga S 47 i).toInt ≤ cntL (ga S 43) (ga S 44) (nI i) (gi S 0) (gi S 8).toNatClampNeg
def RN (S M : gS) : Prop := RS S M ∧ CM S M ∧ RWs S
theorem lieS_congr3 {P Hd C P2 Hd2 C2 : Nat → Int32} {h : Int32} {n : Nat} (e : ∀ k, k < n → P2 k = P k ∧ Hd2 k = Hd k ∧ C2 k = C k) : lieS P2 Hd2 C2 h n = lieS P Hd C h n := by
  induction n with
  | zero => rfl
  | succ n ih =>
    have := e n (by omega)
    unfold lieS
    rw [ih (fun k hk => e k (by omega)), this.1, this.2.1, this.2.2]
/-- a lot, laid by the class -/
def ltC (S : gS) (b x c pl h : Int32) : gS := sI (sA (sA (sA (sA (sA (sA S 34 (upd (ga S 34) (gi S 6).toNatClampNeg b)) 35 (upd (ga S 35) (gi S 6).toNatClampNeg x)) 36 (upd (ga S 36) (gi S 6).toNatClampNeg (gi S 0))) 37 (upd (ga S 37) (gi S 6).toNatClampNeg c)) 38 (upd (ga S 38) (gi S 6).toNatClampNeg pl)) 39 (upd (ga S 39) (gi S 6).toNatClampNeg h)) 6 (gi S 6 + 1)
theorem rX5_add {S : gS} {b x c pl h : Int32} {Q : gS → Prop} (hb : 0 ≤ (gi S 6).toInt ∧ (gi S 6).toInt < 100) (hq : Q (ltC S b x c pl h)) : qX5_add S b x (gi S 0) c pl h Q := by
  have l100 : (100 : Int32).toInt = 100 := by decide
  have v : vp_in (gi S 6) 100 := in_of hb.1 (by omega)
  refine br_lt (fun _ => ⟨v, ?_⟩) (fun z => by omega)
  rintro S2 rfl
  refine ⟨v, ?_⟩
  rintro S4 rfl
  refine ⟨v, ?_⟩
  rintro S6 rfl
  refine ⟨v, ?_⟩
  rintro S8 rfl
  refine ⟨v, ?_⟩
  rintro S10 rfl
  refine ⟨v, ?_⟩
  rintro S12 rfl S14 rfl
  exact hq
/-- a lot, laid by the reference -/
def ltM (M : gS) (b c pl h : Int32) : gS := sA (sA (sI (sA (sA (sA (sA (sA (sA M 17 (upd (ga M 17) (gi M 4).toNatClampNeg b)) 18 (upd (ga M 18) (gi M 4).toNatClampNeg (ga M 9 b.toNatClampNeg))) 19 (upd (ga M 19) (gi M 4).toNatClampNeg (gi M 1))) 20 (upd (ga M 20) (gi M 4).toNatClampNeg c)) 21 (upd (ga M 21) (gi M 4).toNatClampNeg pl)) 22 (upd (ga M 22) (gi M 4).toNatClampNeg h)) 4 (gi M 4 + 1)) 9 (upd (ga M 9) b.toNatClampNeg 0)) 27 (upd (ga M 27) c.toNatClampNeg 1)
theorem rX10_lot {M : gS} {b c pl h : Int32} {Q : gS → Prop} (hb : 0 ≤ (gi M 4).toInt ∧ (gi M 4).toInt < 100) (hbt : 0 ≤ b.toInt ∧ b.toInt < 8) (hc : 0 ≤ c.toInt ∧ c.toInt ≤ 5) (hq : Q (ltM M b c pl h)) : qX10_lot M b c pl h Q := by
  have v : vp_in (gi M 4) 100 := in_of hb.1 (by omega)
  refine ⟨v, ?_⟩
  rintro S2 rfl
  refine ⟨in_of hbt.1 (by omega), v, ?_⟩
  rintro S4 rfl
  refine ⟨v, ?_⟩
  rintro S6 rfl
  refine ⟨v, ?_⟩
  rintro S8 rfl
  refine ⟨v, ?_⟩
  rintro S10 rfl
  refine ⟨v, ?_⟩
  rintro S12 rfl S14 rfl S15 rfl
  refine ⟨in_of hc.1 (by omega), ?_⟩
  rintro S16 rfl
  exact hq
/-- both lots laid: with what lies where, and the boat empty -/
theorem RN_lot {S M : gS} (hN : RN S M) {b c pl hC hM : Int32} (hs : (gi S 6).toInt < 100) (hb : 0 ≤ b.toInt ∧ b.toInt < 8) (hc : 0 ≤ c.toInt ∧ c.toInt ≤ 5) (W : Nat → Int32) (L : Nat → Int32)
    (hp : (pl = 1 ∧ hM = -9 ∧ L = ga S 33) ∨ (pl = 0 ∧ hM = hC ∧ ∃ h : Nat, h < 12 ∧ hC = nI h ∧ L = upd (ga S 33) h (ga S 33 h + ga S 18 b.toNatClampNeg))) :
    RN (sA (sA (sA (ltC S b (ga S 18 b.toNatClampNeg) c pl hC) 1 W) 33 L) 18 (upd (ga S 18) b.toNatClampNeg 0)) (ltM (sA M 39 W) b c pl hM) := by
  obtain ⟨hR, hCM, hW⟩ := hN
  have i6 := RS_i hR (i := 6) (j := 4) (by decide)
  have i0 := RS_i hR (i := 0) (j := 1) (by decide)
  have b6 := RS_bi hR (i := 6) (lo := 0) (hi := 100) (by decide)
  have b0 := RS_bi hR (i := 0) (lo := 0) (hi := 1000) (by decide)
  have t6 := tn_ti b6.1
  have l1 : (1 : Int32).toInt = 1 := by decide
  have e7 : (gi S 6 + 1).toInt = (gi S 6).toInt + 1 := by rw [ti_add] <;> omega
  have t7 := tn_ti (x := gi S 6 + 1) (by omega)
  have n7 : (gi S 6 + 1).toNatClampNeg = (gi S 6).toNatClampNeg + 1 := by omega
  have hbl := (cl_lt hb.1 (n := 8) (by omega)).1
  have cl := cl_lt hc.1 (n := 6) (by omega)
  have b18 := RS_ba hR (i := 18) (n := 8) (lo := 0) (hi := 60) (by decide) hbl
  have e18 := RS_a hR (i := 18) (j := 9) (by decide)
  obtain ⟨h1, h2, h3, h4, h5, h6, h7, h8, h9, h10, h11⟩ := hR
  have plb : bd pl 0 2 := by rcases hp with ⟨rfl, -⟩ | ⟨rfl, -⟩ <;> exact ⟨by decide, by decide⟩
  -- LOT
  have hRA : RA (sA (sA (sA (ltC S b (ga S 18 b.toNatClampNeg) c pl hC) 1 W) 33 L) 18 (upd (ga S 18) b.toNatClampNeg 0)) (ltM (sA M 39 W) b c pl hM) := by
    unfold RA pA
    have hupd34 : upd (ga S 34) (gi S 6).toNatClampNeg b = upd (ga M 17) (gi M 4).toNatClampNeg b := by rw [← i6]; exact congrArg (fun f => upd f (gi S 6).toNatClampNeg b) (h2 (34, 17) (by decide))
    have hupd35 : upd (ga S 35) (gi S 6).toNatClampNeg (ga S 18 b.toNatClampNeg) = upd (ga M 18) (gi M 4).toNatClampNeg (ga M 9 b.toNatClampNeg) := by rw [← i6, ← e18]; exact congrArg (fun f => upd f (gi S 6).toNatClampNeg (ga S 18 b.toNatClampNeg)) (h2 (35, 18) (by decide))
    have hupd36 : upd (ga S 36) (gi S 6).toNatClampNeg (gi S 0) = upd (ga M 19) (gi M 4).toNatClampNeg (gi M 1) := by rw [← i6, ← i0]; exact congrArg (fun f => upd f (gi S 6).toNatClampNeg (gi S 0)) (h2 (36, 19) (by decide))
    have hupd37 : upd (ga S 37) (gi S 6).toNatClampNeg c = upd (ga M 20) (gi M 4).toNatClampNeg c := by rw [← i6]; exact congrArg (fun f => upd f (gi S 6).toNatClampNeg c) (h2 (37, 20) (by decide))
    have hupd38 : upd (ga S 38) (gi S 6).toNatClampNeg pl = upd (ga M 21) (gi M 4).toNatClampNeg pl := by rw [← i6]; exact congrArg (fun f => upd f (gi S 6).toNatClampNeg pl) (h2 (38, 21) (by decide))
    have hupd18 : upd (ga S 18) b.toNatClampNeg 0 = upd (ga M 9) b.toNatClampNeg 0 := by rw [e18]
    have hupd1 : W = W := rfl
    exact List.forall_mem_cons.mpr ⟨h2 (0, 40) (by decide), List.forall_mem_cons.mpr ⟨hupd1, List.forall_mem_cons.mpr ⟨h2 (6, 2) (by decide), List.forall_mem_cons.mpr ⟨h2 (7, 0) (by decide), List.forall_mem_cons.mpr ⟨h2 (8, 1) (by decide), List.forall_mem_cons.mpr ⟨h2 (9, 4) (by decide), List.forall_mem_cons.mpr ⟨h2 (10, 23) (by decide), List.forall_mem_cons.mpr ⟨h2 (11, 24) (by decide), List.forall_mem_cons.mpr ⟨h2 (12, 25) (by decide), List.forall_mem_cons.mpr ⟨h2 (13, 26) (by decide), List.forall_mem_cons.mpr ⟨h2 (14, 5) (by decide), List.forall_mem_cons.mpr ⟨h2 (15, 6) (by decide), List.forall_mem_cons.mpr ⟨h2 (16, 7) (by decide), List.forall_mem_cons.mpr ⟨h2 (17, 8) (by decide), List.forall_mem_cons.mpr ⟨hupd18, List.forall_mem_cons.mpr ⟨h2 (19, 10) (by decide), List.forall_mem_cons.mpr ⟨h2 (20, 11) (by decide), List.forall_mem_cons.mpr ⟨h2 (29, 13) (by decide), List.forall_mem_cons.mpr ⟨h2 (30, 14) (by decide), List.forall_mem_cons.mpr ⟨h2 (31, 15) (by decide), List.forall_mem_cons.mpr ⟨h2 (32, 16) (by decide), List.forall_mem_cons.mpr ⟨hupd34, List.forall_mem_cons.mpr ⟨hupd35, List.forall_mem_cons.mpr ⟨hupd36, List.forall_mem_cons.mpr ⟨hupd37, List.forall_mem_cons.mpr ⟨hupd38, List.forall_mem_cons.mpr ⟨h2 (40, 28) (by decide), List.forall_mem_cons.mpr ⟨h2 (41, 29) (by decide), List.forall_mem_cons.mpr ⟨h2 (42, 30) (by decide), List.forall_mem_cons.mpr ⟨h2 (43, 31) (by decide), List.forall_mem_cons.mpr ⟨h2 (44, 32) (by decide), List.forall_mem_cons.mpr ⟨h2 (45, 33) (by decide), List.forall_mem_cons.mpr ⟨h2 (46, 34) (by decide), List.forall_mem_cons.mpr ⟨h2 (47, 35) (by decide), List.forall_mem_cons.mpr ⟨h2 (48, 36) (by decide), List.forall_mem_cons.mpr ⟨h2 (49, 37) (by decide), List.forall_mem_cons.mpr ⟨h2 (50, 38) (by decide), fun _ h => absurd h List.not_mem_nil⟩⟩⟩⟩⟩⟩⟩⟩⟩⟩⟩⟩⟩⟩⟩⟩⟩⟩⟩⟩⟩⟩⟩⟩⟩⟩⟩⟩⟩⟩⟩⟩⟩⟩⟩⟩⟩
  have hBA : BA (sA (sA (sA (ltC S b (ga S 18 b.toNatClampNeg) c pl hC) 1 W) 33 L) 18 (upd (ga S 18) b.toNatClampNeg 0)) := by
    unfold BA lA
    exact List.forall_mem_cons.mpr ⟨h4 (6, 4, -1, 30) (by decide), List.forall_mem_cons.mpr ⟨h4 (7, 6, 0, 9) (by decide), List.forall_mem_cons.mpr ⟨h4 (8, 6, 1, 99) (by decide), List.forall_mem_cons.mpr ⟨h4 (9, 6, -1, 3) (by decide), List.forall_mem_cons.mpr ⟨h4 (10, 6, 0, 9) (by decide), List.forall_mem_cons.mpr ⟨h4 (11, 6, 0, 99) (by decide), List.forall_mem_cons.mpr ⟨h4 (12, 6, 0, 1) (by decide), List.forall_mem_cons.mpr ⟨h4 (15, 8, 0, 60) (by decide), List.forall_mem_cons.mpr ⟨bd_upd (h4 (18, 8, 0, 60) (by decide)) ⟨by decide, by decide⟩, List.forall_mem_cons.mpr ⟨h4 (29, 12, 0, 5) (by decide), List.forall_mem_cons.mpr ⟨h4 (30, 12, 0, 200) (by decide), List.forall_mem_cons.mpr ⟨h4 (31, 12, 0, 20) (by decide), List.forall_mem_cons.mpr ⟨h4 (32, 12, 0, 999) (by decide), List.forall_mem_cons.mpr ⟨bd_upd (h4 (35, 100, 0, 60) (by decide)) b18, List.forall_mem_cons.mpr ⟨bd_upd (h4 (36, 100, 0, 1000) (by decide)) b0, List.forall_mem_cons.mpr ⟨bd_upd (h4 (37, 100, 0, 5) (by decide)) hc, List.forall_mem_cons.mpr ⟨bd_upd (h4 (38, 100, 0, 2) (by decide)) plb, List.forall_mem_cons.mpr ⟨h4 (40, 20, 0, 100) (by decide), List.forall_mem_cons.mpr ⟨h4 (41, 20, 0, 100) (by decide), List.forall_mem_cons.mpr ⟨h4 (43, 60, 0, 5) (by decide), List.forall_mem_cons.mpr ⟨h4 (45, 60, 0, 5) (by decide), fun _ h => absurd h List.not_mem_nil⟩⟩⟩⟩⟩⟩⟩⟩⟩⟩⟩⟩⟩⟩⟩⟩⟩⟩⟩⟩⟩
  have hG : ∀ i : Nat, i ≠ 34 → i ≠ 35 → i ≠ 36 → i ≠ 37 → i ≠ 38 → i ≠ 39 → i ≠ 1 → i ≠ 33 → i ≠ 18 → ga (sA (sA (sA (ltC S b (ga S 18 b.toNatClampNeg) c pl hC) 1 W) 33 L) 18 (upd (ga S 18) b.toNatClampNeg 0)) i = ga S i := by
    intro i z1 z2 z3 z4 z5 z6 z7 z8 z9
    unfold ltC
    rw [ga_ne z9, ga_ne z8, ga_ne z7, ga_I, ga_ne z6, ga_ne z5, ga_ne z4, ga_ne z3, ga_ne z2, ga_ne z1]
  have hRF : RF (sA (sA (sA (ltC S b (ga S 18 b.toNatClampNeg) c pl hC) 1 W) 33 L) 18 (upd (ga S 18) b.toNatClampNeg 0)) (ltM (sA M 39 W) b c pl hM) := by
    intro x y hx hy
    rw [hG (21 + x) (by omega) (by omega) (by omega) (by omega) (by omega) (by omega) (by omega) (by omega) (by omega)]
    exact h5 x y hx hy
  have hRT : RT (sA (sA (sA (ltC S b (ga S 18 b.toNatClampNeg) c pl hC) 1 W) 33 L) 18 (upd (ga S 18) b.toNatClampNeg 0)) (ltM (sA M 39 W) b c pl hM) := by
    intro x y hx hy
    rw [hG (2 + x) (by omega) (by omega) (by omega) (by omega) (by omega) (by omega) (by omega) (by omega) (by omega)]
    exact h6 x y hx hy
  have hRB : RB (sA (sA (sA (ltC S b (ga S 18 b.toNatClampNeg) c pl hC) 1 W) 33 L) 18 (upd (ga S 18) b.toNatClampNeg 0)) := by
    refine ⟨fun x y hx hy hz => ?_, fun k hk => ?_⟩
    · rw [hG (21 + x) (by omega) (by omega) (by omega) (by omega) (by omega) (by omega) (by omega) (by omega) (by omega)]
      exact h9.1 x y hx hy hz
    · have hk : (k : Int) < (gi S 6 + 1).toInt := hk
      show (upd (ga S 36) (gi S 6).toNatClampNeg (gi S 0) k).toInt ≤ (gi S 0).toInt
      by_cases q : k = (gi S 6).toNatClampNeg
      · rw [q, upd_at]; omega
      · rw [upd_ne q]; exact h9.2 k (by omega)
  refine ⟨⟨?_, hRA, ?_, hBA, hRF, hRT, ?_, ?_, hRB, h10, h11⟩, ?_, hW⟩
  · have := RI_up h1 (i := 6) (j := 4) (v := gi S 6 + 1) (by decide)
    intro p hp
    have := this p hp
    show gi (sI S 6 (gi S 6 + 1)) p.1 = gi (sI M 4 (gi M 4 + 1)) p.2
    rw [← i6]
    exact this
  · exact BI_up h3 (lI_at (lo := 0) (hi := 100) (by decide) ⟨by omega, by omega⟩)
  · intro k hk
    show (upd (ga S 38) (gi S 6).toNatClampNeg pl k = 1 → upd (ga M 22) (gi M 4).toNatClampNeg hM k = -9) ∧ (¬ upd (ga S 38) (gi S 6).toNatClampNeg pl k = 1 → upd (ga M 22) (gi M 4).toNatClampNeg hM k = upd (ga S 39) (gi S 6).toNatClampNeg hC k)
    rw [← i6]
    by_cases q : k = (gi S 6).toNatClampNeg
    · rw [q, upd_at, upd_at, upd_at]
      rcases hp with ⟨rfl, rfl, -⟩ | ⟨rfl, rfl, -⟩
      · exact ⟨fun _ => rfl, fun z => absurd rfl z⟩
      · exact ⟨fun z => absurd z (by decide), fun _ => rfl⟩
    · rw [upd_ne q, upd_ne q, upd_ne q]
      exact h7 k hk
  · intro h hh
    show L h = lieS (upd (ga S 38) (gi S 6).toNatClampNeg pl) (upd (ga S 39) (gi S 6).toNatClampNeg hC) (upd (ga S 35) (gi S 6).toNatClampNeg (ga S 18 b.toNatClampNeg)) (nI h) (gi S 6 + 1).toNatClampNeg
    rw [n7]
    have old := h8 h hh
    unfold lieS
    rw [lieS_congr3 (P := ga S 38) (Hd := ga S 39) (C := ga S 35) (fun k hk => ⟨upd_ne (by omega), upd_ne (by omega), upd_ne (by omega)⟩), upd_at, upd_at, upd_at, ← old]
    rcases hp with ⟨rfl, -, rfl⟩ | ⟨rfl, -, h0, hh0, rfl, rfl⟩
    · rw [if_neg (fun z => absurd z.1 (by decide)), Int32.add_zero]
    · by_cases q : h = h0
      · subst q
        rw [upd_at, if_pos ⟨rfl, rfl⟩]
      · have : ¬ nI h0 = nI h := fun z => q (by have := congrArg Int32.toNatClampNeg z; rw [tN_nI (by omega), tN_nI (by omega)] at this; exact this.symm)
        rw [upd_ne q, if_neg (fun z => this z.2), Int32.add_zero]
  · intro d hd
    have old := hCM d hd
    show upd (ga M 27) c.toNatClampNeg 1 d = if cmB (upd (ga S 37) (gi S 6).toNatClampNeg c) (upd (ga S 36) (gi S 6).toNatClampNeg (gi S 0)) (nI d) (gi S 0) (gi S 6 + 1).toNatClampNeg then 1 else 0
    rw [n7]
    unfold cmB
    rw [cmB_congr (C := ga S 37) (N := ga S 36) (fun k hk => ⟨upd_ne (by omega), upd_ne (by omega)⟩), upd_at, upd_at]
    by_cases q : d = c.toNatClampNeg
    · subst q
      rw [upd_at, ← cl.2.2]
      simp
    · have : ¬ c = nI d := fun z => q (by rw [z, tN_nI (by omega)])
      rw [upd_ne q, old]
      simp [this]
