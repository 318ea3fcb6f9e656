/-! more steps of the relation -/
theorem RS_put2 {S M : gS} (h : RS S M) {i j k k2 n : Nat} {lo hi : Int} {v w : Int32} (ek : k = k2) (ev : v = w) (hs : plain i = true) (hj : (j == 3 || j == 12 || j == 22) = false) (hij : pA.all (fun p => decide (p.1 = i) == decide (p.2 = j)) = true) (hm : (i, j) ∈ pA) (hu : lA.all (fun p => !(p.1 == i) || p == (i, n, lo, hi)) = true) (ho : (i, n, lo, hi) ∈ lA) (hv : bd v lo hi) : RS (sA S i (upd (ga S i) k v)) (sA M j (upd (ga M j) k2 w)) := by
  subst ek; subst ev
  exact RS_put h hs hj hij hm hu ho hv
theorem RS_put2N {S M : gS} (h : RS S M) {i j k k2 : Nat} {v w : Int32} (ek : k = k2) (ev : v = w) (hs : plain i = true) (hj : (j == 3 || j == 12 || j == 22) = false) (hij : pA.all (fun p => decide (p.1 = i) == decide (p.2 = j)) = true) (hm : (i, j) ∈ pA) (hu : lA.all (fun p => decide (p.1 ≠ i)) = true) : RS (sA S i (upd (ga S i) k v)) (sA M j (upd (ga M j) k2 w)) := by
  subst ek; subst ev
  exact RS_putN h hs hj hij hm hu
theorem RS_int2 {S M : gS} (h : RS S M) {i j : Nat} {v w : Int32} (e : v = w) (hs : [1, 2, 3, 5, 7].contains i = true) (hij : pI.all (fun p => decide (p.1 = i) == decide (p.2 = j)) = true) (hb : ∀ p ∈ lI, p.1 = i → bd v p.2.1 p.2.2) : RS (sI S i v) (sI M j w) := by
  subst e
  exact RS_int h hs hij hb
theorem RS_i4 {S M : gS} (h : RS S M) {v w : Int32} (e : v = w) (hb : bd v 0 8) (hm : (gi S 4).toInt ≤ v.toInt) : RS (sI S 4 v) (sI M 2 w) := by
  subst e
  obtain ⟨h1, h2, h3, h4, h5, h6, h7, h8, h9, h10, h11⟩ := h
  refine ⟨RI_up h1 (by decide), h2, BI_up h3 (lI_at (lo := 0) (hi := 8) (by decide) hb), h4, h5, h6, h7, h8, ?_, h10, h11⟩
  refine ⟨fun b c hb hc hs => ?_, h9.2⟩
  have hs : v.toInt ≤ b := hs
  exact h9.1 b c hb hc (by omega)
/-- a table's length; what stands within it is asked for -/
theorem RS_len {S M : gS} (h : RS S M) {t : Nat} {v : Int32} (hv : bd v (-1) 30) (hT : RT (sA S 6 (upd (ga S 6) t v)) M) : RS (sA S 6 (upd (ga S 6) t v)) (sA M 2 (upd (ga M 2) t v)) := by
  obtain ⟨h1, h2, h3, h4, h5, h6, h7, h8, h9, h10, h11⟩ := h
  exact ⟨h1, RA_up h2 (by decide) (by rw [h2 (6, 2) (by decide)]), h3, BA_up h4 (lA_at (n := 4) (lo := -1) (hi := 30) (by decide) (bd_upd (h4 (6, 4, -1, 30) (by decide)) hv)), RF_nr (RF_no h5 (by decide)) (by decide), RT_nr hT (by decide), RLo_nr (RLo_no h7 (by decide) (by decide)) (by decide), RY_no h8 (by decide) (by decide) (by decide) (by decide), RB_no h9 (by decide), RU_no h10 (by decide), RW_no h11 (by decide)⟩
/-- numbers of a table, both sides -/
theorem RS_tab {S M : gS} (h : RS S M) {t : Nat} (ht : t < 4) {f g : Nat → Int32} (hT : RT (sA S (2 + t) f) (sA M 3 g)) : RS (sA S (2 + t) f) (sA M 3 g) := by
  obtain ⟨h1, h2, h3, h4, h5, h6, h7, h8, h9, h10, h11⟩ := h
  have hp : ∀ p ∈ pA, p.1 ≠ 2 + t := by
    intro p hp q
    have : ∀ p ∈ pA, p.1 < 2 ∨ 5 < p.1 := by decide
    have := this p hp
    omega
  have hl : ∀ p ∈ lA, p.1 ≠ 2 + t := by
    intro p hp q
    have : ∀ p ∈ lA, p.1 < 2 ∨ 5 < p.1 := by decide
    have := this p hp
    omega
  exact ⟨h1, RA_r (RA_l h2 hp) (by decide), h3, BA_no h4 hl, RF_nr (RF_no h5 (by omega)) (by decide), hT, RLo_nr (RLo_no h7 (by omega) (by omega)) (by decide), RY_no h8 (by omega) (by omega) (by omega) (by omega), RB_no h9 (by omega), RU_no h10 (by omega), RW_no h11 (by omega)⟩
theorem RS_tab2 {S M : gS} (h : RS S M) {t : Nat} (ht : t < 4) {f : Nat → Int32} (hT : RT (sA S (2 + t) f) M) : RS (sA S (2 + t) f) M := by
  have h3 : sA M 3 (ga M 3) = M := sA_self
  have := RS_tab h ht (f := f) (g := ga M 3) (by rw [h3]; exact hT)
  rwa [h3] at this
theorem RS_RT {S M : gS} (h : RS S M) : RT S M := h.2.2.2.2.2.1
theorem gi_A {S : gS} {i j : Nat} {f : Nat → Int32} : gi (sA S i f) j = gi S j := rfl
theorem ga_I {S : gS} {i j : Nat} {v : Int32} : ga (sI S i v) j = ga S j := rfl
theorem RT_cut {S M : gS} (h : RT S M) {t : Nat} : RT (sA S 6 (upd (ga S 6) t (-1))) M := by
  intro u k hu hk
  rw [ga_at] at hk
  by_cases q : u = t
  · rw [q, upd_at, show (-1 : Int32).toInt = -1 from rfl] at hk
    omega
  · rw [upd_ne q] at hk
    rw [ga_ne (by omega)]
    exact h u k hu hk
theorem RS_fear {S M : gS} (h : RS S M) {b c : Int32} (hb : 0 ≤ b.toInt) (hb8 : b.toInt < 8) (hc : 0 ≤ c.toInt) (hc6 : c.toInt < 6) {x : Int32} (hx : x.toInt = 6 * b.toInt + c.toInt) : ga S (21 + b.toNatClampNeg) c.toNatClampNeg = ga M 12 x.toNatClampNeg := by
  have h1 := tn_ti hb
  have h2 := tn_ti hc
  have h3 := tn_ti (x := x) (by omega)
  rw [show x.toNatClampNeg = 6 * b.toNatClampNeg + c.toNatClampNeg by omega]
  exact h.2.2.2.2.1 _ _ (by omega) (by omega)
