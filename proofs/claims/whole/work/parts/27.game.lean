/-! the game: sorting, and the two ways to its value -/
def insF (f : Nat → Int32) (x : Int32) : Nat → (Nat → Int32)
  | 0 => upd f 0 x
  | i + 1 => if x ≤ f i then upd f (i + 1) x else insF (upd f (i + 1) (f i)) x i
def srtF (f W : Nat → Int32) : Nat → (Nat → Int32)
  | 0 => f
  | c + 1 => insF (srtF f W c) (W c) c
/-- two rows that are alike but at the hole -/
theorem insF_eq {x : Int32} : ∀ (c : Nat) (f g : Nat → Int32) (n : Nat), c < n → (∀ j, j < n → j ≠ c → f j = g j) → ∀ j, j < n → insF f x c j = insF g x c j := by
  intro c
  induction c with
  | zero =>
    intro f g n hc h j hj
    show upd f 0 x j = upd g 0 x j
    by_cases q : j = 0
    · rw [q, upd_at, upd_at]
    · rw [upd_ne q, upd_ne q]; exact h j hj q
  | succ c ih =>
    intro f g n hc h j hj
    unfold insF
    rw [h c (by omega) (by omega)]
    split
    · by_cases q : j = c + 1
      · rw [q, upd_at, upd_at]
      · rw [upd_ne q, upd_ne q]; exact h j hj q
    · refine ih _ _ n (by omega) (fun i hi hne => ?_) j hj
      by_cases q : i = c + 1
      · rw [q, upd_at, upd_at]
      · rw [upd_ne q, upd_ne q]; exact h i hi q
theorem srtF_eq {f g W : Nat → Int32} {c : Nat} : ∀ j, j < c → srtF f W c j = srtF g W c j := by
  induction c with
  | zero => intro j hj; omega
  | succ c ih =>
    intro j hj
    unfold srtF
    exact insF_eq c _ _ (c + 1) (by omega) (fun i hi hne => ih i (by omega)) j hj
/-- from a row that falls, but for its hole, one that falls, and keeps a bound -/
theorem insF_ok {x : Int32} {P : Int32 → Prop} (hx : P x) : ∀ (i c : Nat) (f : Nat → Int32), i ≤ c → (∀ a b, a < b → b ≤ c → a ≠ i → b ≠ i → (f b).toInt ≤ (f a).toInt) → (∀ b, i < b → b ≤ c → (f b).toInt ≤ x.toInt) → (∀ a, a ≤ c → a ≠ i → P (f a)) →
    (∀ a b, a < b → b ≤ c → (insF f x i b).toInt ≤ (insF f x i a).toInt) ∧ ∀ a, a ≤ c → P (insF f x i a) := by
  intro i
  induction i with
  | zero =>
    intro c f hic hd hb hp
    show (∀ a b, a < b → b ≤ c → (upd f 0 x b).toInt ≤ (upd f 0 x a).toInt) ∧ ∀ a, a ≤ c → P (upd f 0 x a)
    refine ⟨fun a b hab hbc => ?_, fun a hac => ?_⟩
    · rw [upd_ne (by omega : b ≠ 0)]
      by_cases q : a = 0
      · rw [q, upd_at]; exact hb b (by omega) hbc
      · rw [upd_ne q]; exact hd a b hab hbc q (by omega)
    · by_cases q : a = 0
      · rw [q, upd_at]; exact hx
      · rw [upd_ne q]; exact hp a hac q
  | succ i ih =>
    intro c f hic hd hb hp
    unfold insF
    split
    · rename_i hle
      have hle := Int32.le_iff_toInt_le.mp hle
      refine ⟨fun a b hab hbc => ?_, fun a hac => ?_⟩
      · by_cases qa : a = i + 1
        · rw [qa, upd_at, upd_ne (by omega)]; exact hb b (by omega) hbc
        · rw [upd_ne qa]
          by_cases qb : b = i + 1
          · rw [qb, upd_at]
            by_cases q : a = i
            · rw [q]; exact hle
            · have := hd a i (by omega) (by omega) qa (by omega)
              omega
          · rw [upd_ne qb]; exact hd a b hab hbc qa qb
      · by_cases q : a = i + 1
        · rw [q, upd_at]; exact hx
        · rw [upd_ne q]; exact hp a hac q
    · rename_i hle
      have hle : (f i).toInt < x.toInt := by
        rcases Int.lt_or_le (f i).toInt x.toInt with z | z
        · exact z
        · exact absurd (Int32.le_iff_toInt_le.mpr z) hle
      refine ih c _ (by omega) (fun a b hab hbc ha hb2 => ?_) (fun b hib hbc => ?_) (fun a hac hai => ?_)
      · by_cases qa : a = i + 1
        · rw [qa, upd_at, upd_ne (by omega)]; exact hd i b (by omega) hbc (by omega) (by omega)
        · rw [upd_ne qa]
          by_cases qb : b = i + 1
          · rw [qb, upd_at]; exact hd a i (by omega) (by omega) qa (by omega)
          · rw [upd_ne qb]; exact hd a b hab hbc qa qb
      · by_cases q : b = i + 1
        · rw [q, upd_at]; omega
        · rw [upd_ne q]; exact hb b (by omega) hbc
      · by_cases q : a = i + 1
        · rw [q, upd_at]; exact hp i (by omega) (by omega)
        · rw [upd_ne q]; exact hp a hac q
theorem srtF_ok {f W : Nat → Int32} {P : Int32 → Prop} {c : Nat} (hW : ∀ k, k < c → P (W k)) : (∀ a b, a < b → b < c → (srtF f W c b).toInt ≤ (srtF f W c a).toInt) ∧ ∀ a, a < c → P (srtF f W c a) := by
  induction c with
  | zero => exact ⟨fun a b _ h => by omega, fun a h => by omega⟩
  | succ c ih =>
    have ih := ih (fun k hk => hW k (by omega))
    unfold srtF
    have := insF_ok (P := P) (hW c (by omega)) c c (srtF f W c) (Nat.le_refl _) (fun a b hab hbc ha hb => ih.1 a b hab (by omega)) (fun b h1 h2 => by omega) (fun a hac hai => ih.2 a (by omega))
    exact ⟨fun a b hab hbc => this.1 a b hab (by omega), fun a hac => this.2 a (by omega)⟩
theorem rX2_sortDown {S : gS} {Q : gS → Prop} (h : Q (sA S 51 (srtF (ga S 51) (ga S 8) 6))) : qX2_sortDown S Q := by
  have l6 : (6 : Int32).toInt = 6 := by decide
  have l0 : (0 : Int32).toInt = 0 := by decide
  have l1 : (1 : Int32).toInt = 1 := by decide
  refine lp_up 6 (fun c x => x = (nI c, sA S 51 (srtF (ga S 51) (ga S 8) c))) ?_ _ (by simp only [srtF, sA_self]; rfl)
  rintro K c _ hc rfl hK
  have e : (nI c).toInt = c := nI_ti (by omega)
  refine br_le (fun q => ?_) (fun q => ?_)
  · obtain rfl : c = 6 := by omega
    exact h
  · have inner : ∀ (i : Nat) (f : Nat → Int32), i ≤ c → insF f (ga S 8 c) i = srtF (ga S 51) (ga S 8) (c + 1) → lp (qX2_sortDown_L13 Q K) (nI c, nI i, nI i, sA S 51 f) := by
      intro i f hi hf
      refine lp_inv (fun x => ∃ (i : Nat) (f : Nat → Int32), i ≤ c ∧ insF f (ga S 8 c) i = srtF (ga S 51) (ga S 8) (c + 1) ∧ x = (nI c, nI i, nI i, sA S 51 f)) (fun x => x.2.2.1.toNatClampNeg) ?_ _ ⟨i, f, hi, hf, rfl⟩
      rintro K2 _ ⟨i, f, hi, hf, rfl⟩ hK2
      have ei : (nI i).toInt = i := nI_ti (by omega)
      have stop : ∀ z : insF f (ga S 8 c) i = upd f i (ga S 8 c), qX2_sortDown_J60 Q K (nI c, nI i, sA S 51 f) := by
        intro z
        refine ⟨in_of (by omega) (by omega), in_of (by omega) (by omega), ?_⟩
        rintro S2 rfl x rfl
        rw [nI_1, tN_nI (by omega), tN_nI (by omega), ga_at, sA_sA, ga_ne (by decide), ← z, hf]
        exact hK _ (by omega) rfl
      refine br_le (fun q2 => stop ?_) (fun q2 => ?_)
      · obtain rfl : i = 0 := by omega
        rfl
      · obtain ⟨i, rfl⟩ : ∃ k, i = k + 1 := ⟨i - 1, by omega⟩
        have e3 : nI (i + 1) - 1 = nI i := nI_pred i
        have e4 : nI (i + 1) + -1 = nI i := pk_m1 i
        have ei2 : (nI i).toInt = i := nI_ti (by omega)
        rw [e3, e4]
        refine ⟨in_of (by omega) (by omega), in_of (by omega) (by omega), ?_⟩
        rw [tN_nI (by omega), tN_nI (by omega), tN_nI (by omega), ga_at, ga_ne (by decide)]
        refine ⟨fun q3 => stop ?_, fun q3 => ⟨in_of (by omega) (by omega), ?_⟩⟩
        · show (if ga S 8 c ≤ f i then _ else _) = _
          rw [if_pos q3]
        · rintro S9 rfl x rfl y rfl
          rw [sA_sA]
          refine hK2 _ ⟨i, upd f (i + 1) (f i), by omega, ?_, rfl⟩ ?_
          · rw [← hf]
            show _ = (if ga S 8 c ≤ f i then _ else _)
            rw [if_neg q3]
          · show (nI i).toNatClampNeg < (nI (i + 1)).toNatClampNeg
            rw [tN_nI (by omega), tN_nI (by omega)]; omega
    exact inner c _ (Nat.le_refl _) rfl
/-- products of the lines, gains and rates -/
def gP (w : Nat → Nat) (f : Nat) : Nat → Nat
  | 0 => 1
  | m + 1 => gP w f m * (w m + f)
def gR (w : Nat → Nat) (f : Nat) : Nat → Nat
  | 0 => 0
  | m + 1 => gR w f m * (w m + f) + gP w f m
def gG (w : Nat → Nat) (f : Nat) : Nat → Nat
  | 0 => 0
  | m + 1 => gG w f m * (w m + f) + w m * gP w f m
theorem gP_s {w : Nat → Nat} {f m : Nat} : gP w f (m + 1) = gP w f m * (w m + f) := rfl
theorem gR_s {w : Nat → Nat} {f m : Nat} : gR w f (m + 1) = gR w f m * (w m + f) + gP w f m := rfl
theorem gG_s {w : Nat → Nat} {f m : Nat} : gG w f (m + 1) = gG w f m * (w m + f) + w m * gP w f m := rfl
theorem gP_bd {w : Nat → Nat} {f m : Nat} (hw : ∀ i, i < m → w i ≤ 99) (hf : 1 ≤ f ∧ f ≤ 99) : 1 ≤ gP w f m ∧ gP w f m ≤ 198 ^ m := by
  induction m with
  | zero => exact ⟨Nat.le_refl _, Nat.le_refl _⟩
  | succ m ih =>
    have ih := ih (fun i hi => hw i (by omega))
    have h1 := hw m (by omega)
    unfold gP
    rw [Nat.pow_succ]
    refine ⟨?_, Nat.mul_le_mul ih.2 (by omega)⟩
    have : 1 * 1 ≤ gP w f m * (w m + f) := Nat.mul_le_mul ih.1 (by omega)
    omega
theorem gR_bd {w : Nat → Nat} {f m : Nat} (hw : ∀ i, i < m → w i ≤ 99) (hf : 1 ≤ f ∧ f ≤ 99) : gR w f m * 198 ≤ m * 198 ^ m := by
  induction m with
  | zero => simp [gR]
  | succ m ih =>
    have ih := ih (fun i hi => hw i (by omega))
    have h1 := hw m (by omega)
    have hp := (gP_bd (w := w) (f := f) (m := m) (fun i hi => hw i (by omega)) hf).2
    unfold gR
    rw [Nat.pow_succ, Nat.add_mul, ← Nat.mul_assoc, Nat.add_mul, Nat.one_mul, Nat.add_mul]
    have : gR w f m * (w m + f) * 198 ≤ m * 198 ^ m * 198 := by
      rw [Nat.mul_right_comm]
      exact Nat.mul_le_mul ih (by omega)
    have : gP w f m * 198 ≤ 198 ^ m * 198 := Nat.mul_le_mul_right _ hp
    omega
theorem gR_pos {w : Nat → Nat} {f m : Nat} (hm : 1 ≤ m) (hw : ∀ i, i < m → w i ≤ 99) (hf : 1 ≤ f ∧ f ≤ 99) : 1 ≤ gR w f m := by
  obtain ⟨m, rfl⟩ : ∃ k, m = k + 1 := ⟨m - 1, by omega⟩
  have := (gP_bd (w := w) (f := f) (m := m) (fun i hi => hw i (by omega)) hf).1
  unfold gR
  omega
theorem gG_le {w : Nat → Nat} {f m : Nat} (hw : ∀ i, i < m → w i ≤ 99) : gG w f m ≤ 99 * gR w f m := by
  induction m with
  | zero => simp [gG]
  | succ m ih =>
    have ih := ih (fun i hi => hw i (by omega))
    have h1 := hw m (by omega)
    have e : 99 * (gR w f m * (w m + f) + gP w f m) = 99 * gR w f m * (w m + f) + 99 * gP w f m := by rw [Nat.mul_add 99, Nat.mul_assoc 99]
    rw [gG_s, gR_s, e]
    exact Nat.add_le_add (Nat.mul_le_mul_right _ ih) (Nat.mul_le_mul_right _ h1)
/-- the value's upper number with m coves watched -/
def gA (w : Nat → Nat) (f k m : Nat) : Int := (gG w f m : Int) - k * gP w f m
theorem gA_succ {w : Nat → Nat} {f k m : Nat} : gA w f k (m + 1) = gA w f k m * (w m + f) + w m * gP w f m := by
  unfold gA
  rw [gG_s, gP_s, Int.sub_mul, Int.mul_assoc (k : Int)]
  push_cast
  omega
/-- the reference's own test: no other cove is above the value -/
def gLast (w : Nat → Nat) (f k m : Nat) : Prop := m = 6 ∨ (w m : Int) * gR w f m ≤ gA w f k m
theorem g_below {w : Nat → Nat} {f k m : Nat} (hf : 1 ≤ f) (h : gA w f k m < (w m : Int) * gR w f m) : gA w f k (m + 1) < (w m : Int) * gR w f (m + 1) := by
  rw [gA_succ, gR_s]
  have e : (w m : Int) * ((gR w f m * (w m + f) + gP w f m : Nat) : Int) = (w m : Int) * gR w f m * (w m + f) + w m * gP w f m := by
    push_cast
    rw [Int.mul_add (w m : Int), Int.mul_assoc (w m : Int)]
  rw [e]
  have : gA w f k m * (w m + f) < (w m : Int) * gR w f m * (w m + f) := Int.mul_lt_mul_of_pos_right h (by omega)
  omega
theorem g_above {w : Nat → Nat} {f k m : Nat} (h : (w m : Int) * gR w f m ≤ gA w f k m) : (w m : Int) * gR w f (m + 1) ≤ gA w f k (m + 1) := by
  rw [gA_succ, gR_s]
  have e : (w m : Int) * ((gR w f m * (w m + f) + gP w f m : Nat) : Int) = (w m : Int) * gR w f m * (w m + f) + w m * gP w f m := by
    push_cast
    rw [Int.mul_add (w m : Int), Int.mul_assoc (w m : Int)]
  rw [e]
  have : (w m : Int) * gR w f m * (w m + f) ≤ gA w f k m * (w m + f) := Int.mul_le_mul_of_nonneg_right h (by omega)
  omega
theorem g_one {w : Nat → Nat} {f k : Nat} (hf : 1 ≤ f) (hk : 1 ≤ k) : gA w f k 1 < (w 0 : Int) * gR w f 1 := by
  simp only [gA, gG, gR, gP]
  have : (1 : Int) * 1 ≤ (k : Int) * (w 0 + f) := Int.mul_le_mul (by omega) (by omega) (by omega) (by omega)
  push_cast
  simp
  omega
