/-! how a state of the class and a state of the reference belong together -/
def bd (x : Int32) (lo hi : Int) : Prop := lo ≤ x.toInt ∧ x.toInt ≤ hi
def pI : List (Nat × Nat) := [(0, 1), (1, 0), (2, 5), (3, 6), (4, 2), (5, 3), (6, 4), (7, 7), (8, 8)]
def pA : List (Nat × Nat) := [(0, 40), (1, 39), (6, 2), (7, 0), (8, 1), (9, 4), (10, 23), (11, 24), (12, 25), (13, 26), (14, 5), (15, 6), (16, 7), (17, 8), (18, 9), (19, 10), (20, 11), (29, 13), (30, 14), (31, 15), (32, 16), (34, 17), (35, 18), (36, 19), (37, 20), (38, 21), (40, 28), (41, 29), (42, 30), (43, 31), (44, 32), (45, 33), (46, 34), (47, 35), (48, 36), (49, 37), (50, 38)]
def lI : List (Nat × Int × Int) := [(0, 0, 1000), (2, 0, 9), (3, 0, 999), (4, 0, 8), (5, 0, 12), (6, 0, 100), (7, 0, 20), (8, 0, 60)]
def lA : List (Nat × Nat × Int × Int) := [(6, 4, -1, 30), (7, 6, 0, 9), (8, 6, 1, 99), (9, 6, -1, 3), (10, 6, 0, 9), (11, 6, 0, 99), (12, 6, 0, 1), (15, 8, 0, 60), (18, 8, 0, 60), (29, 12, 0, 5), (30, 12, 0, 200), (31, 12, 0, 20), (32, 12, 0, 999), (35, 100, 0, 60), (36, 100, 0, 1000), (37, 100, 0, 5), (38, 100, 0, 2), (40, 20, 0, 100), (41, 20, 0, 100), (43, 60, 0, 5), (45, 60, 0, 5)]
def RI (S M : gS) : Prop := ∀ p ∈ pI, gi S p.1 = gi M p.2
def RA (S M : gS) : Prop := ∀ p ∈ pA, ga S p.1 = ga M p.2
def BI (S : gS) : Prop := ∀ p ∈ lI, bd (gi S p.1) p.2.1 p.2.2
def BA (S : gS) : Prop := ∀ p ∈ lA, ∀ k, k < p.2.1 → bd (ga S p.1 k) p.2.2.1 p.2.2.2
/-- fears: rows of the class, one row of the reference -/
def RF (S M : gS) : Prop := ∀ b c : Nat, b < 8 → c < 6 → ga S (21 + b) c = ga M 12 (6 * b + c)
/-- tables: what stands within a row's length -/
def RT (S M : gS) : Prop := ∀ t k : Nat, t < 4 → (k : Int) < (ga S 6 t).toInt → ga S (2 + t) k = ga M 3 (30 * t + k)
/-- a lot's hide -/
def RLo (S M : gS) : Prop := ∀ k : Nat, k < 100 → ((ga S 38 k = 1 → ga M 22 k = -9) ∧ (¬ ga S 38 k = 1 → ga M 22 k = ga S 39 k))
/-- casks of the first n lots that lie in hide h -/
def lieS (P Hd C : Nat → Int32) (h : Int32) : Nat → Int32
  | 0 => 0
  | n + 1 => lieS P Hd C h n + (if P n = 0 ∧ Hd n = h then C n else 0)
def RY (S : gS) : Prop := ∀ h : Nat, h < 12 → ga S 33 h = lieS (ga S 38) (ga S 39) (ga S 35) (nI h) (gi S 6).toNatClampNeg
/-- no fear of a boat that isn't there; no lot of a night to come -/
def RB (S : gS) : Prop := (∀ b c : Nat, b < 8 → c < 6 → (gi S 4).toInt ≤ b → ga S (21 + b) c = 0) ∧ ∀ k : Nat, (k : Int) < (gi S 6).toInt → (ga S 36 k).toInt ≤ (gi S 0).toInt
/-- no word twice -/
def RU (S : gS) : Prop := ∀ i j : Nat, i < j → (j : Int) < (gi S 8).toInt → ¬ (ga S 43 i = ga S 43 j ∧ ga S 44 i = ga S 44 j ∧ ga S 45 i = ga S 45 j)
/-- how many of the first n words are of informer i and of a night up to t -/
def cntW (I N : Nat → Int32) (i t : Int32) : Nat → Nat
  | 0 => 0
  | n + 1 => cntW I N i t n + (if I n = i ∧ N n ≤ t then 1 else 0)
def RW (S : gS) : Prop := ∀ i : Nat, i < 6 → 0 ≤ (ga S 46 i).toInt ∧ 0 ≤ (ga S 47 i).toInt ∧ (ga S 46 i).toInt + (ga S 47 i).toInt ≤ cntW (ga S 43) (ga S 44) (nI i) (gi S 0) (gi S 8).toNatClampNeg
def RS (S M : gS) : Prop := RI S M ∧ RA S M ∧ BI S ∧ BA S ∧ RF S M ∧ RT S M ∧ RLo S M ∧ RY S ∧ RB S ∧ RU S ∧ RW S
theorem ga_sA {S : gS} {i j : Nat} {f : Nat → Int32} : ga (sA S i f) j = if j = i then f else ga S j := rfl
theorem gi_sI {S : gS} {i j : Nat} {v : Int32} : gi (sI S i v) j = if j = i then v else gi S j := rfl
theorem ga_ne {S : gS} {i j : Nat} {f : Nat → Int32} (h : j ≠ i) : ga (sA S i f) j = ga S j := if_neg h
theorem gi_ne {S : gS} {i j : Nat} {v : Int32} (h : j ≠ i) : gi (sI S i v) j = gi S j := if_neg h
theorem RI_up {S M : gS} (h : RI S M) {i j : Nat} {v : Int32} (hij : pI.all (fun p => decide (p.1 = i) == decide (p.2 = j)) = true) : RI (sI S i v) (sI M j v) := by
  intro p hp
  have h1 := List.all_eq_true.mp hij p hp
  simp only [beq_iff_eq, decide_eq_decide] at h1
  rw [gi_sI, gi_sI]
  by_cases q : p.1 = i
  · rw [if_pos q, if_pos (h1.mp q)]
  · rw [if_neg q, if_neg (fun z => q (h1.mpr z))]; exact h p hp
theorem RA_up {S M : gS} (h : RA S M) {i j : Nat} {f g : Nat → Int32} (hij : pA.all (fun p => decide (p.1 = i) == decide (p.2 = j)) = true) (e : f = g) : RA (sA S i f) (sA M j g) := by
  intro p hp
  have h1 := List.all_eq_true.mp hij p hp
  simp only [beq_iff_eq, decide_eq_decide] at h1
  rw [ga_sA, ga_sA]
  by_cases q : p.1 = i
  · rw [if_pos q, if_pos (h1.mp q)]; exact e
  · rw [if_neg q, if_neg (fun z => q (h1.mpr z))]; exact h p hp
theorem RA_l {S M : gS} (h : RA S M) {i : Nat} {f : Nat → Int32} (hi : ∀ p ∈ pA, p.1 ≠ i) : RA (sA S i f) M := by
  intro p hp
  rw [ga_ne (hi p hp)]; exact h p hp
theorem RA_r {S M : gS} (h : RA S M) {i : Nat} {f : Nat → Int32} (hi : ∀ p ∈ pA, p.2 ≠ i) : RA S (sA M i f) := by
  intro p hp
  rw [ga_ne (hi p hp)]; exact h p hp
theorem BI_up {S : gS} (h : BI S) {i : Nat} {v : Int32} (hv : ∀ p ∈ lI, p.1 = i → bd v p.2.1 p.2.2) : BI (sI S i v) := by
  intro p hp
  rw [gi_sI]
  by_cases q : p.1 = i
  · rw [if_pos q]; exact hv p hp q
  · rw [if_neg q]; exact h p hp
theorem BI_at {S : gS} (h : BI S) {i : Nat} {v : Int32} {lo hi : Int} (hu : lI.all (fun p => !(p.1 == i) || p == (i, lo, hi)) = true) (hv : bd v lo hi) : BI (sI S i v) := by
  refine BI_up h (fun p hp q => ?_)
  have h1 := List.all_eq_true.mp hu p hp
  subst q
  simp at h1
  rw [h1]; exact hv
theorem BA_up {S : gS} (h : BA S) {i : Nat} {f : Nat → Int32} (hv : ∀ p ∈ lA, p.1 = i → ∀ k, k < p.2.1 → bd (f k) p.2.2.1 p.2.2.2) : BA (sA S i f) := by
  intro p hp
  rw [ga_sA]
  by_cases q : p.1 = i
  · rw [if_pos q]; exact hv p hp q
  · rw [if_neg q]; exact h p hp
theorem BA_at {S : gS} (h : BA S) {i n : Nat} {f : Nat → Int32} {lo hi : Int} (hu : lA.all (fun p => !(p.1 == i) || p == (i, n, lo, hi)) = true) (hv : ∀ k, k < n → bd (f k) lo hi) : BA (sA S i f) := by
  refine BA_up h (fun p hp q => ?_)
  have h1 := List.all_eq_true.mp hu p hp
  subst q
  simp at h1
  rw [h1]; exact hv
theorem BA_no {S : gS} (h : BA S) {i : Nat} {f : Nat → Int32} (hu : ∀ p ∈ lA, p.1 ≠ i) : BA (sA S i f) := BA_up h (fun p hp q => absurd q (hu p hp))
theorem bd_upd {f : Nat → Int32} {n k : Nat} {lo hi : Int} {v : Int32} (h : ∀ j, j < n → bd (f j) lo hi) (hv : bd v lo hi) : ∀ j, j < n → bd (upd f k v j) lo hi := by
  intro j hj
  unfold upd
  split
  · exact hv
  · exact h j hj
/-! rules for the predicates' own words -/
theorem br_lt {x y : Int32} {A B : Prop} (h1 : x.toInt < y.toInt → A) (h2 : y.toInt ≤ x.toInt → B) : (x < y → A) ∧ (¬ x < y → B) := ⟨fun h => h1 (Int32.lt_iff_toInt_lt.mp h), fun h => h2 (Int.not_lt.mp fun q => h (Int32.lt_iff_toInt_lt.mpr q))⟩
theorem br_le {x y : Int32} {A B : Prop} (h1 : x.toInt ≤ y.toInt → A) (h2 : y.toInt < x.toInt → B) : (x ≤ y → A) ∧ (¬ x ≤ y → B) := ⟨fun h => h1 (Int32.le_iff_toInt_le.mp h), fun h => h2 (Int.not_le.mp fun q => h (Int32.le_iff_toInt_le.mpr q))⟩
theorem br_eq {x y : Int32} {A B : Prop} (h1 : x = y → x.toInt = y.toInt → A) (h2 : ¬ x = y → x.toInt ≠ y.toInt → B) : (x = y → A) ∧ (¬ x = y → B) := ⟨fun h => h1 h (by rw [h]), fun h => h2 h fun q => h (Int32.toInt_inj.mp q)⟩
theorem in_of {x : Int32} {n : Nat} (h1 : 0 ≤ x.toInt) (h2 : x.toInt < n) : vp_in x n := vp_in_iff.mpr ⟨h1, h2⟩
theorem lits : (0 : Int32).toInt = 0 ∧ (1 : Int32).toInt = 1 ∧ (2 : Int32).toInt = 2 ∧ (3 : Int32).toInt = 3 ∧ (4 : Int32).toInt = 4 ∧ (5 : Int32).toInt = 5 ∧ (6 : Int32).toInt = 6 ∧ (7 : Int32).toInt = 7 ∧ (8 : Int32).toInt = 8 ∧ (9 : Int32).toInt = 9 ∧ (-1 : Int32).toInt = -1 := by decide
theorem lits2 : (10 : Int32).toInt = 10 ∧ (11 : Int32).toInt = 11 ∧ (12 : Int32).toInt = 12 ∧ (15 : Int32).toInt = 15 ∧ (17 : Int32).toInt = 17 ∧ (20 : Int32).toInt = 20 ∧ (30 : Int32).toInt = 30 ∧ (33 : Int32).toInt = 33 ∧ (34 : Int32).toInt = 34 ∧ (60 : Int32).toInt = 60 ∧ (99 : Int32).toInt = 99 ∧ (100 : Int32).toInt = 100 ∧ (200 : Int32).toInt = 200 ∧ (999 : Int32).toInt = 999 ∧ (1000 : Int32).toInt = 1000 ∧ (100000 : Int32).toInt = 100000 := by decide
theorem rX9_isCove {S : gS} {a : Int32} {Q : Int32 → gS → Prop} (h1 : 0 ≤ a.toInt → a.toInt ≤ 5 → Q 1 S) (h0 : (a.toInt < 0 ∨ 5 < a.toInt) → Q 0 S) : qX9_isCove S a Q := by
  have L := lits
  refine br_lt (fun c => h0 (by omega)) (fun c => br_le (fun d => h0 (by omega)) (fun d => h1 (by omega) (by omega)))
theorem rX9_isTable {S : gS} {a : Int32} {Q : Int32 → gS → Prop} (h1 : 0 ≤ a.toInt → a.toInt ≤ 3 → Q 1 S) (h0 : (a.toInt < 0 ∨ 3 < a.toInt) → Q 0 S) : qX9_isTable S a Q := by
  have L := lits
  refine br_lt (fun c => h0 (by omega)) (fun c => br_le (fun d => h0 (by omega)) (fun d => h1 (by omega) (by omega)))
theorem rX9_isInformer {S : gS} {a : Int32} {Q : Int32 → gS → Prop} (h1 : 0 ≤ a.toInt → a.toInt ≤ 5 → Q 1 S) (h0 : (a.toInt < 0 ∨ 5 < a.toInt) → Q 0 S) : qX9_isInformer S a Q := by
  have L := lits
  refine br_lt (fun c => h0 (by omega)) (fun c => br_le (fun d => h0 (by omega)) (fun d => h1 (by omega) (by omega)))
theorem rX9_isSeason {S : gS} {a : Int32} {Q : Int32 → gS → Prop} (h1 : 0 ≤ a.toInt → a.toInt ≤ 33 → Q 1 S) (h0 : (a.toInt < 0 ∨ 33 < a.toInt) → Q 0 S) : qX9_isSeason S a Q := by
  have L := lits
  have L2 := lits2
  refine br_lt (fun c => h0 (by omega)) (fun c => br_le (fun d => h0 (by omega)) (fun d => h1 (by omega) (by omega)))
theorem rX9_isBoat {S : gS} {a : Int32} {Q : Int32 → gS → Prop} (h1 : 0 ≤ a.toInt → a.toInt < (gi S 4).toInt → Q 1 S) (h0 : (a.toInt < 0 ∨ (gi S 4).toInt ≤ a.toInt) → Q 0 S) : qX9_isBoat S a Q := by
  have L := lits
  refine br_lt (fun c => h0 (by omega)) (fun c => br_le (fun d => h0 (by omega)) (fun d => h1 (by omega) (by omega)))
theorem rX9_isHide {S : gS} {a : Int32} {Q : Int32 → gS → Prop} (h1 : 0 ≤ a.toInt → a.toInt < (gi S 5).toInt → Q 1 S) (h0 : (a.toInt < 0 ∨ (gi S 5).toInt ≤ a.toInt) → Q 0 S) : qX9_isHide S a Q := by
  have L := lits
  refine br_lt (fun c => h0 (by omega)) (fun c => br_le (fun d => h0 (by omega)) (fun d => h1 (by omega) (by omega)))
theorem rX10_in {S : gS} {a lo hi : Int32} {Q : Int32 → gS → Prop} (h1 : lo.toInt ≤ a.toInt → a.toInt ≤ hi.toInt → Q 1 S) (h0 : (a.toInt < lo.toInt ∨ hi.toInt < a.toInt) → Q 0 S) : qX10_in S a lo hi Q := by
  first
  | exact br_lt (fun c => h0 (by omega)) (fun c => br_lt (fun d => h0 (by omega)) (fun d => h1 (by omega) (by omega)))
  | exact br_lt (fun c => h0 (by omega)) (fun c => br_le (fun d => h1 (by omega) (by omega)) (fun d => h0 (by omega)))
theorem rX10_isCove {S : gS} {a : Int32} {Q : Int32 → gS → Prop} (h1 : 0 ≤ a.toInt → a.toInt ≤ 5 → Q 1 S) (h0 : (a.toInt < 0 ∨ 5 < a.toInt) → Q 0 S) : qX10_isCove S a Q := by
  have L := lits
  exact rX10_in (fun c d => ⟨rfl, h1 (by omega) (by omega)⟩) (fun c => ⟨rfl, h0 (by omega)⟩)
/-- a refusal's number is counted -/
def rfC (S : gS) (k : Nat) : gS := sA S 0 (upd (ga S 0) k (ga S 0 k + 1))
def rfM (M : gS) (k : Nat) : gS := sA M 40 (upd (ga M 40) k (ga M 40 k + 1))
theorem rX9_refuse {S : gS} {a : Int32} {Q : Int32 → gS → Prop} (k : Nat) (hk : k < 8) (ha : -a = nI k) (h : Q a (rfC S k)) : qX9_refuse S a Q := by
  have L := lits
  intro x hx
  rw [ha] at hx
  subst hx
  have e : (nI k).toInt = k := nI_toInt (by omega)
  have e2 : (nI k).toNatClampNeg = k := nI_clamp (by omega)
  refine br_lt (fun c => by omega) (fun c => br_le (fun d => by omega) (fun d => ⟨in_of (by omega) (by omega), ?_⟩))
  intro S1 h1
  subst h1
  rw [e2]
  exact h
theorem rX10_refuse {S : gS} {a : Int32} {Q : Int32 → gS → Prop} (k : Nat) (hk : k < 8) (ha : -a = nI k) (h : Q a (rfM S k)) : qX10_refuse S a Q := by
  have e : (nI k).toInt = k := nI_toInt (by omega)
  have e2 : (nI k).toNatClampNeg = k := nI_clamp (by omega)
  refine ⟨by rw [ha]; exact in_of (by omega) (by omega), ?_⟩
  intro S1 h1
  subst h1
  rw [ha, e2]
  exact h
theorem RF_no {S M : gS} (h : RF S M) {i : Nat} {f : Nat → Int32} (hi : i < 21 ∨ 28 < i) : RF (sA S i f) M := by
  intro b c hb hc
  rw [ga_ne (by omega)]; exact h b c hb hc
theorem RF_nr {S M : gS} (h : RF S M) {j : Nat} {f : Nat → Int32} (hj : 12 ≠ j) : RF S (sA M j f) := by
  intro b c hb hc
  rw [ga_ne hj]; exact h b c hb hc
theorem RT_no {S M : gS} (h : RT S M) {i : Nat} {f : Nat → Int32} (hi : i < 2 ∨ 6 < i) : RT (sA S i f) M := by
  intro t k ht hk
  rw [ga_ne (by omega)] at hk ⊢
  exact h t k ht hk
theorem RT_nr {S M : gS} (h : RT S M) {j : Nat} {f : Nat → Int32} (hj : 3 ≠ j) : RT S (sA M j f) := by
  intro t k ht hk
  rw [ga_ne hj]; exact h t k ht hk
theorem RLo_no {S M : gS} (h : RLo S M) {i : Nat} {f : Nat → Int32} (h1 : 38 ≠ i) (h2 : 39 ≠ i) : RLo (sA S i f) M := by
  intro k hk
  rw [ga_ne h1, ga_ne h2]; exact h k hk
theorem RLo_nr {S M : gS} (h : RLo S M) {j : Nat} {f : Nat → Int32} (hj : 22 ≠ j) : RLo S (sA M j f) := by
  intro k hk
  rw [ga_ne hj]; exact h k hk
theorem RY_no {S : gS} (h : RY S) {i : Nat} {f : Nat → Int32} (h1 : 33 ≠ i) (h2 : 35 ≠ i) (h3 : 38 ≠ i) (h4 : 39 ≠ i) : RY (sA S i f) := by
  intro k hk
  rw [ga_ne h1, ga_ne h2, ga_ne h3, ga_ne h4]; exact h k hk
theorem RB_no {S : gS} (h : RB S) {i : Nat} {f : Nat → Int32} (h3 : (i < 21 ∨ 28 < i) ∧ i ≠ 36) : RB (sA S i f) := by
  refine ⟨fun b c hb hc hs => ?_, fun k hk => ?_⟩
  · rw [ga_ne (by omega)]; exact h.1 b c hb hc hs
  · rw [ga_ne (by omega)]; exact h.2 k hk
theorem RU_no {S : gS} (h : RU S) {i : Nat} {f : Nat → Int32} (h1 : i < 43 ∨ 45 < i) : RU (sA S i f) := by
  intro a b hab hb
  rw [ga_ne (by omega), ga_ne (by omega), ga_ne (by omega)]; exact h a b hab hb
theorem RW_no {S : gS} (h : RW S) {i : Nat} {f : Nat → Int32} (h1 : i < 43 ∨ 47 < i ∨ i = 45) : RW (sA S i f) := by
  intro a ha
  rw [ga_ne (by omega), ga_ne (by omega), ga_ne (by omega), ga_ne (by omega)]; exact h a ha
/-- arrays of the class that no special relation speaks of -/
def plain (i : Nat) : Bool := !([2, 3, 4, 5, 6, 36, 21, 22, 23, 24, 25, 26, 27, 28, 33, 35, 38, 39, 43, 44, 45, 46, 47].contains i)
theorem plain_ne {i : Nat} (h : plain i = true) : (i < 2 ∨ 6 < i) ∧ ((i < 21 ∨ 28 < i) ∧ i ≠ 36) ∧ 33 ≠ i ∧ 35 ≠ i ∧ 38 ≠ i ∧ 39 ≠ i ∧ (i < 43 ∨ 47 < i) := by
  simp [plain] at h
  omega
theorem RS_arr {S M : gS} (h : RS S M) {i j : Nat} {f g : Nat → Int32} (hs : plain i = true) (hj : (j == 3 || j == 12 || j == 22) = false) (hij : pA.all (fun p => decide (p.1 = i) == decide (p.2 = j)) = true) (hb : ∀ p ∈ lA, p.1 = i → ∀ k, k < p.2.1 → bd (f k) p.2.2.1 p.2.2.2) (e : f = g) : RS (sA S i f) (sA M j g) := by
  obtain ⟨h1, h2, h3, h4, h5, h6, h7, h8, h9, h10, h11⟩ := h
  obtain ⟨a1, a4, a5, a6, a7, a8, a9⟩ := plain_ne hs
  simp at hj
  exact ⟨h1, RA_up h2 hij e, h3, BA_up h4 hb, RF_nr (RF_no h5 a4.1) (by omega), RT_nr (RT_no h6 a1) (by omega), RLo_nr (RLo_no h7 a7 a8) (by omega), RY_no h8 a5 a6 a7 a8, RB_no h9 a4, RU_no h10 (by omega), RW_no h11 (by omega)⟩
theorem RS_rf {S M : gS} (h : RS S M) (k : Nat) : RS (rfC S k) (rfM M k) :=
  RS_arr h (by decide) (by decide) (by decide) (fun p hp q => absurd q (by revert p; decide)) (by rw [h.2.1 (0, 40) (by decide)])
/-- arrays of the reference alone -/
theorem RS_ar {S M : gS} (h : RS S M) {j : Nat} {f : Nat → Int32} (hj : (j == 3 || j == 12 || j == 22) = false) (hi : pA.all (fun p => decide (p.2 ≠ j)) = true) : RS S (sA M j f) := by
  obtain ⟨h1, h2, h3, h4, h5, h6, h7, h8, h9, h10, h11⟩ := h
  simp at hj
  exact ⟨h1, RA_r h2 (fun p hp => by have := List.all_eq_true.mp hi p hp; simpa using this), h3, h4, RF_nr h5 (by omega), RT_nr h6 (by omega), RLo_nr h7 (by omega), h8, h9, h10, h11⟩
/-- arrays of the class alone -/
theorem RS_al {S M : gS} (h : RS S M) {i : Nat} {f : Nat → Int32} (hs : plain i = true) (hi : pA.all (fun p => decide (p.1 ≠ i)) = true) (hl : lA.all (fun p => decide (p.1 ≠ i)) = true) : RS (sA S i f) M := by
  obtain ⟨h1, h2, h3, h4, h5, h6, h7, h8, h9, h10, h11⟩ := h
  obtain ⟨a1, a4, a5, a6, a7, a8, a9⟩ := plain_ne hs
  exact ⟨h1, RA_l h2 (fun p hp => by have := List.all_eq_true.mp hi p hp; simpa using this), h3, BA_no h4 (fun p hp => by have := List.all_eq_true.mp hl p hp; simpa using this), RF_no h5 a4.1, RT_no h6 a1, RLo_no h7 a7 a8, RY_no h8 a5 a6 a7 a8, RB_no h9 a4, RU_no h10 (by omega), RW_no h11 (by omega)⟩
theorem RS_sL {S M : gS} (h : RS S M) (i : Nat) (v : Int64) : RS (sL S i v) M := h
theorem RS_sC {S M : gS} (h : RS S M) (f : Nat → Int64) : RS (sC S f) M := h
theorem RS_sLr {S M : gS} (h : RS S M) (i : Nat) (v : Int64) : RS S (sL M i v) := h
/-- numbers that no special relation speaks of: seed, draws, price, hides, laws -/
theorem RS_int {S M : gS} (h : RS S M) {i j : Nat} {v : Int32} (hs : [1, 2, 3, 5, 7].contains i = true) (hij : pI.all (fun p => decide (p.1 = i) == decide (p.2 = j)) = true) (hb : ∀ p ∈ lI, p.1 = i → bd v p.2.1 p.2.2) : RS (sI S i v) (sI M j v) := by
  obtain ⟨h1, h2, h3, h4, h5, h6, h7, h8, h9, h10, h11⟩ := h
  have hq : i = 1 ∨ i = 2 ∨ i = 3 ∨ i = 5 ∨ i = 7 := by simpa using hs
  refine ⟨RI_up h1 hij, h2, BI_up h3 hb, h4, h5, h6, h7, ?_, ?_, ?_, ?_⟩
  · intro k hk
    rw [gi_ne (by omega)]; exact h8 k hk
  · refine ⟨fun b c hb hc => ?_, fun k => ?_⟩
    · rw [gi_ne (by omega)]; exact h9.1 b c hb hc
    · rw [gi_ne (by omega), gi_ne (by omega)]; exact h9.2 k
  · intro a b hab
    rw [gi_ne (by omega)]; exact h10 a b hab
  · intro a ha
    rw [gi_ne (by omega), gi_ne (by omega)]; exact h11 a ha
/-- a bound for one array, as RS_arr wants it -/
theorem lA_at {i n : Nat} {lo hi : Int} {f : Nat → Int32} (hu : lA.all (fun p => !(p.1 == i) || p == (i, n, lo, hi)) = true) (hv : ∀ k, k < n → bd (f k) lo hi) : ∀ p ∈ lA, p.1 = i → ∀ k, k < p.2.1 → bd (f k) p.2.2.1 p.2.2.2 := by
  intro p hp q
  have h1 := List.all_eq_true.mp hu p hp
  subst q
  simp at h1
  rw [h1]; exact hv
theorem lA_no {i : Nat} {f : Nat → Int32} (hu : lA.all (fun p => decide (p.1 ≠ i)) = true) : ∀ p ∈ lA, p.1 = i → ∀ k, k < p.2.1 → bd (f k) p.2.2.1 p.2.2.2 := by
  intro p hp q
  have h1 := List.all_eq_true.mp hu p hp
  simp at h1
  exact absurd q h1
theorem lI_at {i : Nat} {lo hi : Int} {v : Int32} (hu : lI.all (fun p => !(p.1 == i) || p == (i, lo, hi)) = true) (hv : bd v lo hi) : ∀ p ∈ lI, p.1 = i → bd v p.2.1 p.2.2 := by
  intro p hp q
  have h1 := List.all_eq_true.mp hu p hp
  subst q
  simp at h1
  rw [h1]; exact hv
theorem lI_no {i : Nat} {v : Int32} (hu : lI.all (fun p => decide (p.1 ≠ i)) = true) : ∀ p ∈ lI, p.1 = i → bd v p.2.1 p.2.2 := by
  intro p hp q
  have h1 := List.all_eq_true.mp hu p hp
  simp at h1
  exact absurd q h1
theorem BA_get {S : gS} (h : BA S) {i n : Nat} {lo hi : Int} (hm : (i, n, lo, hi) ∈ lA) {k : Nat} (hk : k < n) : lo ≤ (ga S i k).toInt ∧ (ga S i k).toInt ≤ hi := h _ hm k hk
theorem BI_get {S : gS} (h : BI S) {i : Nat} {lo hi : Int} (hm : (i, lo, hi) ∈ lI) : lo ≤ (gi S i).toInt ∧ (gi S i).toInt ≤ hi := h _ hm
/-- a place out of an Int32 in range -/
theorem cl_lt {x : Int32} {n : Nat} (h1 : 0 ≤ x.toInt) (h2 : x.toInt < n) : x.toNatClampNeg < n ∧ (x.toNatClampNeg : Int) = x.toInt ∧ x = nI x.toNatClampNeg := by
  have hv := in_of h1 h2
  have hlt := vp_lt hv
  have e : (x.toNatClampNeg : Int) = x.toInt := by
    show ((x.toInt.toNat : Nat) : Int) = x.toInt
    omega
  refine ⟨hlt, e, ?_⟩
  have hb : x.toInt < 2 ^ 31 := Int32.toInt_lt x
  refine Int32.toInt_inj.mp ?_
  rw [nI_toInt (by omega), e]
theorem RS_put {S M : gS} (h : RS S M) {i j k n : Nat} {lo hi : Int} {v : Int32} (hs : plain i = true) (hj : (j == 3 || j == 12 || j == 22) = false) (hij : pA.all (fun p => decide (p.1 = i) == decide (p.2 = j)) = true) (hm : (i, j) ∈ pA) (hu : lA.all (fun p => !(p.1 == i) || p == (i, n, lo, hi)) = true) (ho : (i, n, lo, hi) ∈ lA) (hv : bd v lo hi) : RS (sA S i (upd (ga S i) k v)) (sA M j (upd (ga M j) k v)) :=
  RS_arr h hs hj hij (lA_at hu (bd_upd (h.2.2.2.1 _ ho) hv)) (by rw [h.2.1 _ hm])
theorem RS_putN {S M : gS} (h : RS S M) {i j k : Nat} {v : Int32} (hs : plain i = true) (hj : (j == 3 || j == 12 || j == 22) = false) (hij : pA.all (fun p => decide (p.1 = i) == decide (p.2 = j)) = true) (hm : (i, j) ∈ pA) (hu : lA.all (fun p => decide (p.1 ≠ i)) = true) : RS (sA S i (upd (ga S i) k v)) (sA M j (upd (ga M j) k v)) :=
  RS_arr h hs hj hij (lA_no hu) (by rw [h.2.1 _ hm])
theorem RS_i {S M : gS} (h : RS S M) {i j : Nat} (hm : (i, j) ∈ pI) : gi S i = gi M j := h.1 _ hm
theorem RS_a {S M : gS} (h : RS S M) {i j : Nat} (hm : (i, j) ∈ pA) : ga S i = ga M j := h.2.1 _ hm
theorem RS_bi {S M : gS} (h : RS S M) {i : Nat} {lo hi : Int} (hm : (i, lo, hi) ∈ lI) : lo ≤ (gi S i).toInt ∧ (gi S i).toInt ≤ hi := h.2.2.1 _ hm
theorem RS_ba {S M : gS} (h : RS S M) {i n : Nat} {lo hi : Int} (hm : (i, n, lo, hi) ∈ lA) {k : Nat} (hk : k < n) : lo ≤ (ga S i k).toInt ∧ (ga S i k).toInt ≤ hi := h.2.2.2.1 _ hm k hk
