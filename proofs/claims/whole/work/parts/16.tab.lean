/-! tables: rows made, written, copied -/
def RS0 (S M : gS) : Prop := RI S M ∧ RA S M ∧ BI S ∧ BA S ∧ RF S M ∧ RLo S M ∧ RY S ∧ RB S ∧ RU S ∧ RW S
theorem RS.r0 {S M : gS} (h : RS S M) : RS0 S M := ⟨h.1, h.2.1, h.2.2.1, h.2.2.2.1, h.2.2.2.2.1, h.2.2.2.2.2.2.1, h.2.2.2.2.2.2.2⟩
theorem RS0.r {S M : gS} (h : RS0 S M) (hT : RT S M) : RS S M := ⟨h.1, h.2.1, h.2.2.1, h.2.2.2.1, h.2.2.2.2.1, hT, h.2.2.2.2.2.1, h.2.2.2.2.2.2⟩
theorem RS0_len {S M : gS} (h : RS0 S M) {t t2 : Nat} {v w : Int32} (et : t = t2) (ev : v = w) (hv : bd v (-1) 30) : RS0 (sA S 6 (upd (ga S 6) t v)) (sA M 2 (upd (ga M 2) t2 w)) := by
  subst et; subst ev
  obtain ⟨h1, h2, h3, h4, h5, h7, h8, h9, h10, h11⟩ := h
  exact ⟨h1, RA_up h2 (by decide) (by rw [h2 (6, 2) (by decide)]), h3, BA_up h4 (lA_at (n := 4) (lo := -1) (hi := 30) (by decide) (bd_upd (h4 (6, 4, -1, 30) (by decide)) hv)), RF_nr (RF_no h5 (by decide)) (by decide), RLo_nr (RLo_no h7 (by decide) (by decide)) (by decide), RY_no h8 (by decide) (by decide) (by decide) (by decide), RB_no h9 (by decide), RU_no h10 (by decide), RW_no h11 (by decide)⟩
theorem RS0_tabC {S M : gS} (h : RS0 S M) {t : Nat} (ht : t < 4) (f : Nat → Int32) : RS0 (sA S (2 + t) f) M := by
  obtain ⟨h1, h2, h3, h4, h5, h7, h8, h9, h10, h11⟩ := h
  have hp : ∀ p ∈ pA, p.1 ≠ 2 + t := by
    intro p hp q
    have : ∀ p ∈ pA, p.1 < 2 ∨ 5 < p.1 := by decide
    have := this p hp
    omega
  have hl : ∀ p ∈ lA, p.1 ≠ 2 + t := by
    intro p hp q
    have : ∀ p ∈ lA, p.1 < 2 ∨ 5 < p.1 := by decide
    have := this p hp
    omega
  exact ⟨h1, RA_l h2 hp, h3, BA_no h4 hl, RF_no h5 (by omega), RLo_no h7 (by omega) (by omega), RY_no h8 (by omega) (by omega) (by omega) (by omega), RB_no h9 (by omega), RU_no h10 (by omega), RW_no h11 (by omega)⟩
theorem RS0_tabM {S M : gS} (h : RS0 S M) (g : Nat → Int32) : RS0 S (sA M 3 g) := by
  obtain ⟨h1, h2, h3, h4, h5, h7, h8, h9, h10, h11⟩ := h
  exact ⟨h1, RA_r h2 (by decide), h3, h4, RF_nr h5 (by decide), RLo_nr h7 (by decide), h8, h9, h10, h11⟩
theorem RS0_btw {S M : gS} (h : RS0 S M) (g : Nat → Int32) : RS0 S (sA M 41 g) := by
  obtain ⟨h1, h2, h3, h4, h5, h7, h8, h9, h10, h11⟩ := h
  exact ⟨h1, RA_r h2 (by decide), h3, h4, RF_nr h5 (by decide), RLo_nr h7 (by decide), h8, h9, h10, h11⟩
theorem rX7_begin {S : gS} {a1 a2 : Int32} {Q : gS → Prop} (h0 : 0 ≤ a1.toInt) (h3 : a1.toInt ≤ 3) (h : ∀ g : Nat → Int32, (∀ j, j < 30 → g j = 0) → Q (sA (sA S 6 (upd (ga S 6) a1.toNatClampNeg a2)) (2 + a1.toNatClampNeg) g)) : qX7_begin S a1 a2 Q := by
  have l30 : (30 : Int32).toInt = 30 := by decide
  refine ⟨in_of h0 (by omega), ?_⟩
  rintro S1 rfl
  refine lp_up 30 (fun k a => ∃ g : Nat → Int32, (∀ j, j < k → g j = 0) ∧ a = (nI k, sA (sA S 6 (upd (ga S 6) a1.toNatClampNeg a2)) (2 + a1.toNatClampNeg) g)) ?_ _ ⟨ga (sA S 6 (upd (ga S 6) a1.toNatClampNeg a2)) (2 + a1.toNatClampNeg), fun j hj => by omega, by rw [sA_self]; rfl⟩
  rintro K k _ hk ⟨g, hg, rfl⟩ hK
  have e : (nI k).toInt = k := nI_ti (by omega)
  refine br_le (fun c => ?_) (fun c => ⟨in_of h0 (by omega), in_of (by omega) (by omega), ?_⟩)
  · obtain rfl : k = 30 := by omega
    exact h g hg
  · rintro S2 rfl x rfl
    refine hK _ (by omega) ⟨upd g k 0, fun j hj => ?_, ?_⟩
    · by_cases q : j = k
      · rw [q, upd_at]
      · rw [upd_ne q]; exact hg j (by omega)
    · rw [nI_1, tN_nI (by omega), ga_at, sA_sA]
theorem rX10_row_L {M : gS} {a1 a2 : Int32} {Q : Int32 → gS → Prop} (h0 : 0 ≤ a1.toInt) (h3 : a1.toInt ≤ 3) (h4 : 0 ≤ a2.toInt) (h5 : a2.toInt ≤ 30) (h : ∀ G : Nat → Int32, (∀ j, j < a2.toNatClampNeg → G (30 * a1.toNatClampNeg + j) = 0) → (∀ i, (i < 30 * a1.toNatClampNeg ∨ 30 * a1.toNatClampNeg + a2.toNatClampNeg ≤ i) → G i = ga M 3 i) → Q a2 (sA M 3 G)) : lp (qX10_row_L48 a1 a2 Q) (0, M) := by
  have l30 : (30 : Int32).toInt = (30 : Nat) := by decide
  have t1 := tn_ti h0
  have t2 := tn_ti h4
  refine lp_up a2.toNatClampNeg (fun k a => ∃ G : Nat → Int32, (∀ j, j < k → G (30 * a1.toNatClampNeg + j) = 0) ∧ (∀ i, (i < 30 * a1.toNatClampNeg ∨ 30 * a1.toNatClampNeg + a2.toNatClampNeg ≤ i) → G i = ga M 3 i) ∧ a = (nI k, sA M 3 G)) ?_ _ ⟨ga M 3, fun j hj => by omega, fun _ _ => rfl, by rw [sA_self]; rfl⟩
  rintro K k _ hk ⟨G, hG, hO, rfl⟩ hK
  have e : (nI k).toInt = k := nI_ti (by omega)
  refine br_le (fun c => ?_) (fun c => ?_)
  · obtain rfl : k = a2.toNatClampNeg := by omega
    exact h G hG hO
  · have i2 := ix2 (a := a1) (b := nI k) l30 h0 (by omega) (N := 120) (by omega) (by decide)
    refine ⟨i2.1, ?_⟩
    rintro S2 rfl x rfl
    rw [i2.2, tN_nI (by omega), ga_at, sA_sA, nI_1]
    refine hK _ (by omega) ⟨upd G (30 * a1.toNatClampNeg + k) 0, fun j hj => ?_, fun i hi => ?_, rfl⟩
    · by_cases q : j = k
      · rw [q, upd_at]
      · rw [upd_ne (by omega)]; exact hG j (by omega)
    · rw [upd_ne (by omega)]; exact hO i hi
/-- the two loops of the reference's copy -/
theorem rX10_copy_L {M : gS} {a1 a2 a3 a4 a5 : Int32} {Q : Int32 → gS → Prop} (h1 : 0 ≤ a1.toInt) (h1b : a1.toInt ≤ 3) (h3 : 0 ≤ a3.toInt) (h3b : a3.toInt ≤ 3) (h2 : 0 ≤ a2.toInt) (h4 : 0 ≤ a4.toInt) (h5 : 0 ≤ a5.toInt) (hx : a2.toInt + a5.toInt ≤ 30) (hy : a4.toInt + a5.toInt ≤ 30) (h : ∀ B G : Nat → Int32, (∀ j, j < a5.toNatClampNeg → G (30 * a3.toNatClampNeg + a4.toNatClampNeg + j) = ga M 3 (30 * a1.toNatClampNeg + a2.toNatClampNeg + j)) → (∀ i, (i < 30 * a3.toNatClampNeg + a4.toNatClampNeg ∨ 30 * a3.toNatClampNeg + a4.toNatClampNeg + a5.toNatClampNeg ≤ i) → G i = ga M 3 i) → Q a5 (sA (sA M 41 B) 3 G)) : lp (qX10_copy_L107 a1 a2 a3 a4 a5 Q) (0, M) := by
  have l30 : (30 : Int32).toInt = (30 : Nat) := by decide
  have t1 := tn_ti h1
  have t2 := tn_ti h2
  have t3 := tn_ti h3
  have t4 := tn_ti h4
  have t5 := tn_ti h5
  refine lp_up a5.toNatClampNeg (fun k a => ∃ B : Nat → Int32, (∀ j, j < k → B j = ga M 3 (30 * a1.toNatClampNeg + a2.toNatClampNeg + j)) ∧ a = (nI k, sA M 41 B)) ?_ _ ⟨ga M 41, fun j hj => by omega, by rw [sA_self]; rfl⟩
  rintro K k _ hk ⟨B, hB, rfl⟩ hK
  have e : (nI k).toInt = k := nI_ti (by omega)
  refine br_le (fun c => ?_) (fun c => ?_)
  · obtain rfl : k = a5.toNatClampNeg := by omega
    refine lp_up a5.toNatClampNeg (fun k a => ∃ G : Nat → Int32, (∀ j, j < k → G (30 * a3.toNatClampNeg + a4.toNatClampNeg + j) = B j) ∧ (∀ i, (i < 30 * a3.toNatClampNeg + a4.toNatClampNeg ∨ 30 * a3.toNatClampNeg + a4.toNatClampNeg + a5.toNatClampNeg ≤ i) → G i = ga M 3 i) ∧ a = (nI k, sA (sA M 41 B) 3 G)) ?_ _ ⟨ga (sA M 41 B) 3, fun j hj => by omega, fun _ _ => rfl, by rw [sA_self]; rfl⟩
    rintro K k _ hk ⟨G, hG, hO, rfl⟩ hK
    have e : (nI k).toInt = k := nI_ti (by omega)
    refine br_le (fun c => ?_) (fun c => ?_)
    · obtain rfl : k = a5.toNatClampNeg := by omega
      exact h B G (fun j hj => by rw [hG j hj, hB j hj]) hO
    · have i2 := ix2 (a := a3) (b := a4) l30 h3 h4 (N := 120) (by omega) (by decide)
      have v2 := vp_in_iff.mp i2.1
      have t6 := tn_ti v2.1
      have e3 : (30 * a3 + a4 + nI k).toInt = (30 * a3 + a4).toInt + k := by rw [ti_add] <;> rw [e] <;> omega
      have t7 := tn_ti (x := 30 * a3 + a4 + nI k) (by omega)
      have e4 : (30 * a3 + a4 + nI k).toNatClampNeg = 30 * a3.toNatClampNeg + a4.toNatClampNeg + k := by omega
      refine ⟨in_of (by omega) (by omega), in_of (by omega) (by omega), ?_⟩
      rintro S2 rfl x rfl
      rw [e4, tN_nI (by omega), ga_at, sA_sA, nI_1, ga_ne (by decide), ga_at]
      refine hK _ (by omega) ⟨upd G (30 * a3.toNatClampNeg + a4.toNatClampNeg + k) (B k), fun j hj => ?_, fun i hi => ?_, rfl⟩
      · by_cases q : j = k
        · rw [q, upd_at]
        · rw [upd_ne (by omega)]; exact hG j (by omega)
      · rw [upd_ne (by omega)]; exact hO i hi
  · have i2 := ix2 (a := a1) (b := a2) l30 h1 h2 (N := 120) (by omega) (by decide)
    have v2 := vp_in_iff.mp i2.1
    have t6 := tn_ti v2.1
    have e3 : (30 * a1 + a2 + nI k).toInt = (30 * a1 + a2).toInt + k := by rw [ti_add] <;> rw [e] <;> omega
    have t7 := tn_ti (x := 30 * a1 + a2 + nI k) (by omega)
    have e4 : (30 * a1 + a2 + nI k).toNatClampNeg = 30 * a1.toNatClampNeg + a2.toNatClampNeg + k := by omega
    refine ⟨in_of (by omega) (by omega), in_of (by omega) (by omega), ?_⟩
    rintro S2 rfl x rfl
    rw [e4, tN_nI (by omega), ga_at, sA_sA, nI_1, ga_ne (by decide)]
    refine hK _ (by omega) ⟨upd B k (ga M 3 (30 * a1.toNatClampNeg + a2.toNatClampNeg + k)), fun j hj => ?_, rfl⟩
    by_cases q : j = k
    · rw [q, upd_at]
    · rw [upd_ne q]; exact hB j (by omega)
theorem RS_row {S M : gS} (hR : RS S M) {t : Nat} {n : Int32} (ht : t < 4) (hn : 0 ≤ n.toInt) (hn3 : n.toInt ≤ 30) {g G : Nat → Int32} (hg : ∀ j, j < 30 → g j = 0) (hG : ∀ j, j < n.toNatClampNeg → G (30 * t + j) = 0) (hO : ∀ i, (i < 30 * t ∨ 30 * t + n.toNatClampNeg ≤ i) → G i = ga M 3 i) : RS (sA (sA S 6 (upd (ga S 6) t n)) (2 + t) g) (sA (sA M 2 (upd (ga M 2) t n)) 3 G) := by
  have tn := tn_ti hn
  refine (RS0_tabM (RS0_tabC (RS0_len hR.r0 rfl rfl ⟨by omega, by omega⟩) ht g) G).r ?_
  intro u k hu hk
  rw [ga_ne (by omega), ga_at] at hk
  rw [ga_at]
  by_cases q : u = t
  · subst q
    rw [upd_at] at hk
    rw [ga_at, hg k (by omega), hG k (by omega)]
  · rw [upd_ne q] at hk
    have b6 := RS_ba hR (i := 6) (n := 4) (lo := -1) (hi := 30) (by decide) hu
    rw [ga_ne (by omega), ga_ne (by omega), hO _ (by omega)]
    exact RS_RT hR u k hu hk
theorem RS_tput {S M : gS} (hR : RS S M) {t k : Nat} {v : Int32} (ht : t < 4) (hk : k < 30) : RS (sA S (2 + t) (upd (ga S (2 + t)) k v)) (sA M 3 (upd (ga M 3) (30 * t + k) v)) := by
  refine (RS0_tabM (RS0_tabC hR.r0 ht _) _).r ?_
  intro u j hu hj
  rw [ga_ne (by omega)] at hj
  have b6 := RS_ba hR (i := 6) (n := 4) (lo := -1) (hi := 30) (by decide) hu
  have old := RS_RT hR u j hu hj
  rw [ga_at]
  by_cases q : u = t
  · subst q
    rw [ga_at]
    by_cases q2 : j = k
    · rw [q2, upd_at, upd_at]
    · rw [upd_ne q2, upd_ne (by omega)]; exact old
  · rw [ga_ne (by omega), upd_ne (by omega)]; exact old
theorem RS_tcpy {S M : gS} (hR : RS S M) {t u a b n : Nat} (ht : t < 4) (hu : u < 4) (ha : (a + n : Nat) ≤ (ga S 6 t).toInt) (hb : (b + n : Nat) ≤ (ga S 6 u).toInt) {B G : Nat → Int32} (hG : ∀ j, j < n → G (30 * u + b + j) = ga M 3 (30 * t + a + j)) (hO : ∀ i, (i < 30 * u + b ∨ 30 * u + b + n ≤ i) → G i = ga M 3 i) : RS (sA S (2 + u) (va_cpy (ga S (2 + t)) (ga S (2 + u)) a b n)) (sA (sA M 41 B) 3 G) := by
  refine (RS0_tabM (RS0_btw (RS0_tabC hR.r0 hu _) B) G).r ?_
  intro w j hw hj
  rw [ga_ne (by omega)] at hj
  have b6 := RS_ba hR (i := 6) (n := 4) (lo := -1) (hi := 30) (by decide) hw
  have b6u := RS_ba hR (i := 6) (n := 4) (lo := -1) (hi := 30) (by decide) hu
  have old := RS_RT hR w j hw hj
  rw [ga_at]
  by_cases q : w = u
  · subst q
    rw [ga_at]
    by_cases q2 : b ≤ j ∧ j < b + n
    · rw [pk_cpy_in q2.1 q2.2]
      have := hG (j - b) (by omega)
      rw [show 30 * w + b + (j - b) = 30 * w + j by omega] at this
      rw [this, show 30 * t + a + (j - b) = 30 * t + (a + (j - b)) by omega]
      exact RS_RT hR t _ ht (by omega)
    · rw [pk_cpy_out (by omega), hO _ (by omega)]; exact old
  · rw [ga_ne (by omega), hO _ (by omega)]; exact old
theorem nlt0 {x : Int32} (h : 0 ≤ x.toInt) : ¬ x < 0 := fun q => by
  have := Int32.lt_iff_toInt_lt.mp q
  rw [show (0 : Int32).toInt = 0 from rfl] at this
  omega
theorem tn2 {x y : Int32} {n : Nat} (hx : 0 ≤ x.toInt) (hy : 0 ≤ y.toInt) (h : x.toInt + y.toInt ≤ n) : x.toNatClampNeg + y.toNatClampNeg ≤ n := by
  have := tn_ti hx
  have := tn_ti hy
  omega
