def qX0_add (S : gS) (a1 : Int32) (a2 : Int32) (a3 : Int32) (a4 : Int32) (Q : Int32 → gS → Prop) : Prop :=
  ∀ x1 : Int32, x1 = (gi S 4) → ((x1 < (8 : Int32) → (vp_in x1 8 ∧ (∀ S3 : gS, S3 = sA S 14 (upd (ga S 14) x1.toNatClampNeg a1) → (∀ S5 : gS, S5 = sA S3 15 (upd (ga S3 15) x1.toNatClampNeg a2) → (∀ S6 : gS, S6 = sA S5 16 (upd (ga S5 16) x1.toNatClampNeg a3) → (∀ S7 : gS, S7 = sA S6 17 (upd (ga S6 17) x1.toNatClampNeg a4) → (∀ S8 : gS, S8 = sI S7 4 (x1 + (1 : Int32)) → (Q x1 S8)))))))) ∧ (¬ x1 < (8 : Int32) → (Q (-1 : Int32) S)))
abbrev rmX0_add : Room := { frames := 0, cells := 0, slots := 0, locals := 0 }
set_option maxHeartbeats 4000000 in
set_option maxRecDepth 100000 in
theorem kX0_add (l : Launch) (D : va_G) (Y : Nat → ClassId) (A : Nat → Nat) (hI : iC A) (sz : Nat) (S : gS) (a1 : Int32) (a2 : Int32) (a3 : Int32) (a4 : Int32) (Q : Int32 → gS → Prop) (h : qX0_add S a1 a2 a3 a4 Q) : Met l yX0_add wsX0_add rmX0_add (gPc [.ref (A 3), .int a1, .int a2, .int a3, .int a4] sz D vwCl (tY Y) (wC Y A S)) (va_Qi Q (fun S' t => gH D vwCl (tY Y) (wC Y A S') t) (gF A 65 sz)) 0 0 (gF A 65 sz) := by
  refine gMet_i (cc := cX0_add) (maxL := 6) (by decide +kernel) rfl (Nat.le_of_ble_eq_true rfl) (fun p e s m args below meth c Z H locs hx hb hml hts hown hK hP hS hret ls hl => ?_)
  have hown : s.vm.findClass RX0 = some m.cls := hown
  have hl : lv_has ls 6 [(0, .ref (A 3)), (1, .int a1), (2, .int a2), (3, .int a3), (4, .int a4)] := hl
  have hD : ∀ S0 : gS, va_D (gF A 65 s.heap.size) (wC Y A S0) := fun S0 => dC hI S0 (fun k hk => gF_in hk)
  have k0 : ∀ w ∈ u_ws RX0 TX0 9, w ∈ wsX0_add := by decide +kernel
  have k1 := hts (.fieldLink RX0 9 "CoastWatch$Boats" "size" "I") (by decide +kernel)
  have k2 := hts (.fieldLink RX0 15 "CoastWatch$Boats" "draught" "[I") (by decide +kernel)
  have k3 := hts (.fieldLink RX0 19 "CoastWatch$Boats" "hold" "[I") (by decide +kernel)
  have k4 := hts (.fieldLink RX0 22 "CoastWatch$Boats" "strength" "[I") (by decide +kernel)
  have k5 := hts (.fieldLink RX0 25 "CoastWatch$Boats" "bold" "[I") (by decide +kernel)
  refine lv_aload_n hx hb dX0_add_0 rfl (lv_at hl 0 rfl) ?_
  refine va_get (ci := 0) (v := .int (gi S 4)) (C := RX0) (T := TX0) (N := 9) hx hb hts k0 hown hK hP 3 (aC3 Y A S) rfl 0 (by decide) k1 (fun _ h9 => h9) rfl dX0_add_1 ?_
  refine lv_topi (fun x1 ex1 => ?_)
  have h := h x1 ex1
  refine lv_istore (lv' := [(5, .int x1), (0, .ref (A 3)), (1, .int a1), (2, .int a2), (3, .int a3), (4, .int a4)]) hx hb dX0_add_4 hl (by decide) rfl (fun ls hl => ?_)
  refine lv_iload hx hb dX0_add_6 (lv_at hl 0 rfl) ?_
  refine lv_bipush (v := (8 : Int32)) hx hb dX0_add_8 (by decide) ?_
  refine lv_icmp_lt (tgt := 15) hx hb dX0_add_10 (by decide) (fun c2 => ?_) (fun c2 => ?_)
  · have h := h.1 c2
    refine lv_aload_n hx hb dX0_add_15 rfl (lv_at hl 1 rfl) ?_
    refine va_get (ci := 0) (v := .ref (A 25)) (C := RX0) (T := TX0) (N := 9) hx hb hts k0 hown hK hP 3 (aC3 Y A S) rfl 1 (by decide) k2 (fun _ h9 => h9) rfl dX0_add_16 ?_
    refine lv_iload hx hb dX0_add_19 (lv_at hl 0 rfl) ?_
    refine lv_iload_n hx hb dX0_add_21 rfl (lv_at hl 2 rfl) ?_
    have v_4 := h.1
    have h := h.2
    obtain ⟨S3, eS3⟩ : ∃ z : gS, z = sA S 14 (upd (ga S 14) x1.toNatClampNeg a1) := ⟨_, rfl⟩
    refine va_iast hx hb hK hP (hD S) hS 25 0 (aC25 Y A S) rfl v_4 dX0_add_22 (fun H locs hP _ hS => ?_)
    have hP := uC25 eS3 hP
    have h := h S3 eS3
    refine lv_aload_n hx hb dX0_add_23 rfl (lv_at hl 1 rfl) ?_
    refine va_get (ci := 0) (v := .ref (A 26)) (C := RX0) (T := TX0) (N := 9) hx hb hts k0 hown hK hP 3 (aC3 Y A S3) rfl 2 (by decide) k3 (fun _ h9 => h9) rfl dX0_add_24 ?_
    refine lv_iload hx hb dX0_add_27 (lv_at hl 0 rfl) ?_
    refine lv_iload_n hx hb dX0_add_29 rfl (lv_at hl 3 rfl) ?_
    obtain ⟨S5, eS5⟩ : ∃ z : gS, z = sA S3 15 (upd (ga S3 15) x1.toNatClampNeg a2) := ⟨_, rfl⟩
    refine va_iast hx hb hK hP (hD S3) hS 26 0 (aC26 Y A S3) rfl v_4 dX0_add_30 (fun H locs hP _ hS => ?_)
    have hP := uC26 eS5 hP
    have h := h S5 eS5
    refine lv_aload_n hx hb dX0_add_31 rfl (lv_at hl 1 rfl) ?_
    refine va_get (ci := 0) (v := .ref (A 27)) (C := RX0) (T := TX0) (N := 9) hx hb hts k0 hown hK hP 3 (aC3 Y A S5) rfl 3 (by decide) k4 (fun _ h9 => h9) rfl dX0_add_32 ?_
    refine lv_iload hx hb dX0_add_35 (lv_at hl 0 rfl) ?_
    refine lv_iload_n hx hb dX0_add_37 rfl (lv_at hl 4 rfl) ?_
    obtain ⟨S6, eS6⟩ : ∃ z : gS, z = sA S5 16 (upd (ga S5 16) x1.toNatClampNeg a3) := ⟨_, rfl⟩
    refine va_iast hx hb hK hP (hD S5) hS 27 0 (aC27 Y A S5) rfl v_4 dX0_add_38 (fun H locs hP _ hS => ?_)
    have hP := uC27 eS6 hP
    have h := h S6 eS6
    refine lv_aload_n hx hb dX0_add_39 rfl (lv_at hl 1 rfl) ?_
    refine va_get (ci := 0) (v := .ref (A 28)) (C := RX0) (T := TX0) (N := 9) hx hb hts k0 hown hK hP 3 (aC3 Y A S6) rfl 4 (by decide) k5 (fun _ h9 => h9) rfl dX0_add_40 ?_
    refine lv_iload hx hb dX0_add_43 (lv_at hl 0 rfl) ?_
    refine lv_iload hx hb dX0_add_45 (lv_at hl 5 rfl) ?_
    obtain ⟨S7, eS7⟩ : ∃ z : gS, z = sA S6 17 (upd (ga S6 17) x1.toNatClampNeg a4) := ⟨_, rfl⟩
    refine va_iast hx hb hK hP (hD S6) hS 28 0 (aC28 Y A S6) rfl v_4 dX0_add_47 (fun H locs hP _ hS => ?_)
    have hP := uC28 eS7 hP
    have h := h S7 eS7
    refine lv_aload_n hx hb dX0_add_48 rfl (lv_at hl 1 rfl) ?_
    refine lv_iload hx hb dX0_add_49 (lv_at hl 0 rfl) ?_
    refine lv_iconst (v := (1 : Int32)) hx hb dX0_add_51 (by decide) ?_
    refine lv_iadd hx hb dX0_add_52 ?_
    obtain ⟨S8, eS8⟩ : ∃ z : gS, z = sI S7 4 (x1 + (1 : Int32)) := ⟨_, rfl⟩
    have h := h S8 eS8
    refine va_put (ci := 0) (v := .int (x1 + (1 : Int32))) (ty := .int) (C := RX0) (T := TX0) (N := 9) hx hb hts k0 tyX0 tyX0_ok nmX0 hown hK hP (hD S7) hS 3 (aC3 Y A S7) rfl 0 (by decide) k1 (fun _ h9 => h9) rfl rfl rfl rfl (by simp) dX0_add_53 (fun H locs hP _ hS => ?_)
    have hP := pC3_0 eS8 hP
    refine lv_iload hx hb dX0_add_56 (lv_at hl 0 rfl) ?_
    exact hret _ _ _ _ _ _ dX0_add_58 h hP hS
  · have h := h.2 c2
    refine lv_iconst (v := (-1 : Int32)) hx hb dX0_add_13 (by decide) ?_
    exact hret _ _ _ _ _ _ dX0_add_14 h hP hS

def qX0_frighten (S : gS) (a1 : Int32) (a2 : Int32) (a3 : Int32) (Q : gS → Prop) : Prop :=
  vp_in a1 8 ∧ (vp_in a2 6 ∧ (∀ S3 : gS, S3 = sA S (21 + a1.toNatClampNeg) (upd (ga S (21 + a1.toNatClampNeg)) a2.toNatClampNeg (if ((ga S (21 + a1.toNatClampNeg) a2.toNatClampNeg) + a3) < (99 : Int32) then ((ga S (21 + a1.toNatClampNeg) a2.toNatClampNeg) + a3) else (99 : Int32))) → (Q S3)))
abbrev rmX0_frighten : Room := { frames := 1, cells := 0, slots := 0, locals := 15 }
set_option maxHeartbeats 4000000 in
set_option maxRecDepth 100000 in
theorem kX0_frighten (l : Launch) (D : va_G) (Y : Nat → ClassId) (A : Nat → Nat) (hI : iC A) (sz : Nat) (S : gS) (a1 : Int32) (a2 : Int32) (a3 : Int32) (Q : gS → Prop) (h : qX0_frighten S a1 a2 a3 Q) : Met l yX0_frighten wsX0_frighten rmX0_frighten (gPc [.ref (A 3), .int a1, .int a2, .int a3] sz D vwCl (tY Y) (wC Y A S)) (va_Qv Q (fun S' t => gH D vwCl (tY Y) (wC Y A S') t) (gF A 65 sz)) 0 0 (gF A 65 sz) := by
  refine gMet_v (cc := cX0_frighten) (maxL := 4) (by decide +kernel) rfl (Nat.le_of_ble_eq_true rfl) (fun p e s m args below meth c Z H locs hx hb hml hts hown hK hP hS hret ls hl => ?_)
  have hown : s.vm.findClass RX0 = some m.cls := hown
  have hl : lv_has ls 4 [(0, .ref (A 3)), (1, .int a1), (2, .int a2), (3, .int a3)] := hl
  have hD : ∀ S0 : gS, va_D (gF A 65 s.heap.size) (wC Y A S0) := fun S0 => dC hI S0 (fun k hk => gF_in hk)
  have k0 : ∀ w ∈ u_ws RX0 TX0 9, w ∈ wsX0_frighten := by decide +kernel
  have k1 := hts (.fieldLink RX0 39 "CoastWatch$Boats" "fear" "[[I") (by decide +kernel)
  have k2 := hts (.methodLink RX0 42 Lib.Math.min.name) (by decide +kernel)
  have k3 := hts (.static Lib.Math.min.name) (by decide +kernel)
  have k4 := hts (.initialized "java/lang/Math") (by decide +kernel)
  have k5 := hts (.code Lib.Math.min.name Lib.Math.min.code 2 (some .int)) (by decide +kernel)
  refine lv_aload_n hx hb dX0_frighten_0 rfl (lv_at hl 0 rfl) ?_
  refine va_get (ci := 0) (v := .ref (A 32)) (C := RX0) (T := TX0) (N := 9) hx hb hts k0 hown hK hP 3 (aC3 Y A S) rfl 8 (by decide) k1 (fun _ h9 => h9) rfl dX0_frighten_1 ?_
  refine lv_iload_n hx hb dX0_frighten_4 rfl (lv_at hl 1 rfl) ?_
  have v_1 := h.1
  have h := h.2
  refine gAald (g := fun j => A (33 + j)) hx hb hK hP 32 3 (aC32 Y A S) rfl (fun j hj => if_pos hj) v_1 dX0_frighten_5 ?_
  refine lv_iload_n hx hb dX0_frighten_6 rfl (lv_at hl 2 rfl) ?_
  refine lv_bipush (v := (99 : Int32)) hx hb dX0_frighten_7 (by decide) ?_
  refine lv_aload_n hx hb dX0_frighten_9 rfl (lv_at hl 0 rfl) ?_
  refine va_get (ci := 0) (v := .ref (A 32)) (C := RX0) (T := TX0) (N := 9) hx hb hts k0 hown hK hP 3 (aC3 Y A S) rfl 8 (by decide) k1 (fun _ h9 => h9) rfl dX0_frighten_10 ?_
  refine lv_iload_n hx hb dX0_frighten_13 rfl (lv_at hl 1 rfl) ?_
  refine gAald (g := fun j => A (33 + j)) hx hb hK hP 32 3 (aC32 Y A S) rfl (fun j hj => if_pos hj) v_1 dX0_frighten_14 ?_
  refine lv_iload_n hx hb dX0_frighten_15 rfl (lv_at hl 2 rfl) ?_
  have v_2 := h.1
  have h := h.2
  refine va_iald hx hb hK hP (33 + a1.toNatClampNeg) 0 (arC32 Y A S (vp_lt v_1)) rfl v_2 dX0_frighten_16 ?_
  refine lv_iload_n hx hb dX0_frighten_17 rfl (lv_at hl 3 rfl) ?_
  refine lv_iadd hx hb dX0_frighten_18 ?_
  refine va_mmin hx hb (hml.trans hl.1.symm) hown k2 k3 k4 k5 (Nat.le_of_ble_eq_true rfl) (Nat.le_of_ble_eq_true rfl) (Nat.zero_le _) (Nat.zero_le _) dX0_frighten_19 ?_
  obtain ⟨S3, eS3⟩ : ∃ z : gS, z = sA S (21 + a1.toNatClampNeg) (upd (ga S (21 + a1.toNatClampNeg)) a2.toNatClampNeg (if ((ga S (21 + a1.toNatClampNeg) a2.toNatClampNeg) + a3) < (99 : Int32) then ((ga S (21 + a1.toNatClampNeg) a2.toNatClampNeg) + a3) else (99 : Int32))) := ⟨_, rfl⟩
  refine va_iast hx hb hK hP (hD S) hS (33 + a1.toNatClampNeg) 0 (arC32 Y A S (vp_lt v_1)) rfl v_2 dX0_frighten_22 (fun H locs hP _ hS => ?_)
  have hP := urC32 (vp_lt v_1) eS3 hP
  have h := h S3 eS3
  exact hret _ _ _ _ _ dX0_frighten_23 h hP hS

def qX0_calm_L12 (Q : gS → Prop) (K2 : Int32 × gS → Prop) (K12 : Int32 × Int32 × gS → Prop) : Int32 × Int32 × gS → Prop := fun ⟨v1, v2, S⟩ =>
  ((6 : Int32) ≤ v2 → (∀ x2 : Int32, x2 = v1 + (1 : Int32) → (K2 (x2, S)))) ∧ (¬ (6 : Int32) ≤ v2 → (vp_in v1 8 ∧ (vp_in v2 6 ∧ (((ga S (21 + v1.toNatClampNeg) v2.toNatClampNeg) ≤ 0 → (∀ x6 : Int32, x6 = v2 + (1 : Int32) → (K12 (v1, x6, S)))) ∧ (¬ (ga S (21 + v1.toNatClampNeg) v2.toNatClampNeg) ≤ 0 → (∀ S7 : gS, S7 = sA S (21 + v1.toNatClampNeg) (upd (ga S (21 + v1.toNatClampNeg)) v2.toNatClampNeg ((ga S (21 + v1.toNatClampNeg) v2.toNatClampNeg) - (1 : Int32))) → (∀ x8 : Int32, x8 = v2 + (1 : Int32) → (K12 (v1, x8, S7)))))))))
def qX0_calm_L2 (Q : gS → Prop) (K2 : Int32 × gS → Prop) : Int32 × gS → Prop := fun ⟨v1, S⟩ =>
  ((gi S 4) ≤ v1 → (Q S)) ∧ (¬ (gi S 4) ≤ v1 → (lp (qX0_calm_L12 Q K2) (v1, (0 : Int32), S)))
def qX0_calm (S : gS) (Q : gS → Prop) : Prop :=
  lp (qX0_calm_L2 Q) ((0 : Int32), S)
abbrev rmX0_calm : Room := { frames := 0, cells := 0, slots := 0, locals := 0 }
set_option maxHeartbeats 4000000 in
set_option maxRecDepth 100000 in
theorem kX0_calm (l : Launch) (D : va_G) (Y : Nat → ClassId) (A : Nat → Nat) (hI : iC A) (sz : Nat) (S : gS) (Q : gS → Prop) (h : qX0_calm S  Q) : Met l yX0_calm wsX0_calm rmX0_calm (gPc [.ref (A 3)] sz D vwCl (tY Y) (wC Y A S)) (va_Qv Q (fun S' t => gH D vwCl (tY Y) (wC Y A S') t) (gF A 65 sz)) 0 0 (gF A 65 sz) := by
  refine gMet_v (cc := cX0_calm) (maxL := 3) (by decide +kernel) rfl (Nat.le_of_ble_eq_true rfl) (fun p e s m args below meth c Z H locs hx hb hml hts hown hK hP hS hret ls hl => ?_)
  have hown : s.vm.findClass RX0 = some m.cls := hown
  have hl : lv_has ls 3 [(0, .ref (A 3))] := hl
  have hD : ∀ S0 : gS, va_D (gF A 65 s.heap.size) (wC Y A S0) := fun S0 => dC hI S0 (fun k hk => gF_in hk)
  have k0 : ∀ w ∈ u_ws RX0 TX0 9, w ∈ wsX0_calm := by decide +kernel
  have k1 := hts (.fieldLink RX0 39 "CoastWatch$Boats" "fear" "[[I") (by decide +kernel)
  have k2 := hts (.fieldLink RX0 9 "CoastWatch$Boats" "size" "I") (by decide +kernel)
  have tL12 : ∀ (K2 : Int32 × gS → Prop) (ih2 : ∀ (v1 : Int32) (S : gS), K2 (v1, S) → ∀ (H : Heap) (locs : List Loc) (ls : Array Slot), va_P D vwCl (wC Y A S) H → va_S (gF A 65 s.heap.size) s.heap H locs → lv_has ls 3 [(0, .ref (A 3)), (1, .int v1)] → W p l e rmX0_calm s m args below meth c H locs 0 0 Z (F0 m 2 ls [])) (v1 : Int32) (v2 : Int32) (S : gS), lp (qX0_calm_L12 Q K2) (v1, v2, S) → ∀ (H : Heap) (locs : List Loc) (ls : Array Slot), va_P D vwCl (wC Y A S) H → va_S (gF A 65 s.heap.size) s.heap H locs → lv_has ls 3 [(0, .ref (A 3)), (1, .int v1), (2, .int v2)] → W p l e rmX0_calm s m args below meth c H locs 0 0 Z (F0 m 12 ls []) := by
    intro K2 ih2 v1 v2 S h
    refine lp_walk (G := fun a => match a with | (v1, v2, S) => ∀ (H : Heap) (locs : List Loc) (ls : Array Slot), va_P D vwCl (wC Y A S) H → va_S (gF A 65 s.heap.size) s.heap H locs → lv_has ls 3 [(0, .ref (A 3)), (1, .int v1), (2, .int v2)] → W p l e rmX0_calm s m args below meth c H locs 0 0 Z (F0 m 12 ls [])) (fun K12 a ih12 h => ?_) (v1, v2, S) h
    obtain ⟨v1, v2, S⟩ := a
    have ih12 : ∀ (v1 : Int32) (v2 : Int32) (S : gS), K12 (v1, v2, S) → ∀ (H : Heap) (locs : List Loc) (ls : Array Slot), va_P D vwCl (wC Y A S) H → va_S (gF A 65 s.heap.size) s.heap H locs → lv_has ls 3 [(0, .ref (A 3)), (1, .int v1), (2, .int v2)] → W p l e rmX0_calm s m args below meth c H locs 0 0 Z (F0 m 12 ls []) := fun v1 v2 S q => ih12 (v1, v2, S) q
    intro H locs ls hP hS hl
    refine lv_iload_n hx hb dX0_calm_12 rfl (lv_at hl 2 rfl) ?_
    refine lv_bipush (v := (6 : Int32)) hx hb dX0_calm_13 (by decide) ?_
    refine lv_icmp_ge (tgt := 47) hx hb dX0_calm_15 (by decide) (fun c1 => ?_) (fun c1 => ?_)
    · have h := h.1 c1
      obtain ⟨x2, ex2⟩ : ∃ z : Int32, z = v1 + (1 : Int32) := ⟨_, rfl⟩
      have h := h x2 ex2
      refine lv_iinc (v := x2) (lv' := [(1, .int x2), (0, .ref (A 3)), (2, .int v2)]) hx hb dX0_calm_47 hl (k := 1) rfl (by rw [ex2]; rfl) (by decide) rfl (fun ls hl => ?_)
      refine lv_goto (tgt := 2) hx hb dX0_calm_50 (by decide) ?_
      exact ih2 x2 S h _ _ _ hP hS (lv_sub hl [1, 0] rfl)
    · have h := h.2 c1
      refine lv_aload_n hx hb dX0_calm_18 rfl (lv_at hl 0 rfl) ?_
      refine va_get (ci := 0) (v := .ref (A 32)) (C := RX0) (T := TX0) (N := 9) hx hb hts k0 hown hK hP 3 (aC3 Y A S) rfl 8 (by decide) k1 (fun _ h9 => h9) rfl dX0_calm_19 ?_
      refine lv_iload_n hx hb dX0_calm_22 rfl (lv_at hl 1 rfl) ?_
      have v_3 := h.1
      have h := h.2
      refine gAald (g := fun j => A (33 + j)) hx hb hK hP 32 3 (aC32 Y A S) rfl (fun j hj => if_pos hj) v_3 dX0_calm_23 ?_
      refine lv_iload_n hx hb dX0_calm_24 rfl (lv_at hl 2 rfl) ?_
      have v_4 := h.1
      have h := h.2
      refine va_iald hx hb hK hP (33 + v1.toNatClampNeg) 0 (arC32 Y A S (vp_lt v_3)) rfl v_4 dX0_calm_25 ?_
      refine lv_if_le (tgt := 41) hx hb dX0_calm_26 (by decide) (fun c5 => ?_) (fun c5 => ?_)
      · have h := h.1 c5
        obtain ⟨x6, ex6⟩ : ∃ z : Int32, z = v2 + (1 : Int32) := ⟨_, rfl⟩
        have h := h x6 ex6
        refine lv_iinc (v := x6) (lv' := [(2, .int x6), (0, .ref (A 3)), (1, .int v1)]) hx hb dX0_calm_41 hl (k := 2) rfl (by rw [ex6]; rfl) (by decide) rfl (fun ls hl => ?_)
        refine lv_goto (tgt := 12) hx hb dX0_calm_44 (by decide) ?_
        exact ih12 v1 x6 S h _ _ _ hP hS (lv_sub hl [1, 2, 0] rfl)
      · have h := h.2 c5
        refine lv_aload_n hx hb dX0_calm_29 rfl (lv_at hl 0 rfl) ?_
        refine va_get (ci := 0) (v := .ref (A 32)) (C := RX0) (T := TX0) (N := 9) hx hb hts k0 hown hK hP 3 (aC3 Y A S) rfl 8 (by decide) k1 (fun _ h9 => h9) rfl dX0_calm_30 ?_
        refine lv_iload_n hx hb dX0_calm_33 rfl (lv_at hl 1 rfl) ?_
        refine gAald (g := fun j => A (33 + j)) hx hb hK hP 32 3 (aC32 Y A S) rfl (fun j hj => if_pos hj) v_3 dX0_calm_34 ?_
        refine lv_iload_n hx hb dX0_calm_35 rfl (lv_at hl 2 rfl) ?_
        refine lv_dup2_11 hx hb dX0_calm_36 rfl rfl ?_
        refine va_iald hx hb hK hP (33 + v1.toNatClampNeg) 0 (arC32 Y A S (vp_lt v_3)) rfl v_4 dX0_calm_37 ?_
        refine lv_iconst (v := (1 : Int32)) hx hb dX0_calm_38 (by decide) ?_
        refine lv_isub hx hb dX0_calm_39 ?_
        obtain ⟨S7, eS7⟩ : ∃ z : gS, z = sA S (21 + v1.toNatClampNeg) (upd (ga S (21 + v1.toNatClampNeg)) v2.toNatClampNeg ((ga S (21 + v1.toNatClampNeg) v2.toNatClampNeg) - (1 : Int32))) := ⟨_, rfl⟩
        refine va_iast hx hb hK hP (hD S) hS (33 + v1.toNatClampNeg) 0 (arC32 Y A S (vp_lt v_3)) rfl v_4 dX0_calm_40 (fun H locs hP _ hS => ?_)
        have hP := urC32 (vp_lt v_3) eS7 hP
        have h := h S7 eS7
        obtain ⟨x8, ex8⟩ : ∃ z : Int32, z = v2 + (1 : Int32) := ⟨_, rfl⟩
        have h := h x8 ex8
        refine lv_iinc (v := x8) (lv' := [(2, .int x8), (0, .ref (A 3)), (1, .int v1)]) hx hb dX0_calm_41 hl (k := 2) rfl (by rw [ex8]; rfl) (by decide) rfl (fun ls hl => ?_)
        refine lv_goto (tgt := 12) hx hb dX0_calm_44 (by decide) ?_
        exact ih12 v1 x8 S7 h _ _ _ hP hS (lv_sub hl [1, 2, 0] rfl)
  have tL2 : ∀ (v1 : Int32) (S : gS), lp (qX0_calm_L2 Q) (v1, S) → ∀ (H : Heap) (locs : List Loc) (ls : Array Slot), va_P D vwCl (wC Y A S) H → va_S (gF A 65 s.heap.size) s.heap H locs → lv_has ls 3 [(0, .ref (A 3)), (1, .int v1)] → W p l e rmX0_calm s m args below meth c H locs 0 0 Z (F0 m 2 ls []) := by
    intro  v1 S h
    refine lp_walk (G := fun a => match a with | (v1, S) => ∀ (H : Heap) (locs : List Loc) (ls : Array Slot), va_P D vwCl (wC Y A S) H → va_S (gF A 65 s.heap.size) s.heap H locs → lv_has ls 3 [(0, .ref (A 3)), (1, .int v1)] → W p l e rmX0_calm s m args below meth c H locs 0 0 Z (F0 m 2 ls [])) (fun K2 a ih2 h => ?_) (v1, S) h
    obtain ⟨v1, S⟩ := a
    have ih2 : ∀ (v1 : Int32) (S : gS), K2 (v1, S) → ∀ (H : Heap) (locs : List Loc) (ls : Array Slot), va_P D vwCl (wC Y A S) H → va_S (gF A 65 s.heap.size) s.heap H locs → lv_has ls 3 [(0, .ref (A 3)), (1, .int v1)] → W p l e rmX0_calm s m args below meth c H locs 0 0 Z (F0 m 2 ls []) := fun v1 S q => ih2 (v1, S) q
    intro H locs ls hP hS hl
    refine lv_iload_n hx hb dX0_calm_2 rfl (lv_at hl 1 rfl) ?_
    refine lv_aload_n hx hb dX0_calm_3 rfl (lv_at hl 0 rfl) ?_
    refine va_get (ci := 0) (v := .int (gi S 4)) (C := RX0) (T := TX0) (N := 9) hx hb hts k0 hown hK hP 3 (aC3 Y A S) rfl 0 (by decide) k2 (fun _ h9 => h9) rfl dX0_calm_4 ?_
    refine lv_icmp_ge (tgt := 53) hx hb dX0_calm_7 (by decide) (fun c9 => ?_) (fun c9 => ?_)
    · have h := h.1 c9
      exact hret _ _ _ _ _ dX0_calm_53 h hP hS
    · have h := h.2 c9
      refine lv_iconst (v := (0 : Int32)) hx hb dX0_calm_10 (by decide) ?_
      refine lv_istore_n (lv' := [(2, .int (0 : Int32)), (0, .ref (A 3)), (1, .int v1)]) hx hb dX0_calm_11 rfl hl (by decide) rfl (fun ls hl => ?_)
      exact tL12 K2 ih2 v1 (0 : Int32) S h _ _ _ hP hS (lv_sub hl [1, 2, 0] rfl)
  refine lv_iconst (v := (0 : Int32)) hx hb dX0_calm_0 (by decide) ?_
  refine lv_istore_n (lv' := [(1, .int (0 : Int32)), (0, .ref (A 3))]) hx hb dX0_calm_1 rfl hl (by decide) rfl (fun ls hl => ?_)
  exact tL2  (0 : Int32) S h _ _ _ hP hS (lv_sub hl [1, 0] rfl)

def qX1_sumOfShares_L4 (Q : Int32 → gS → Prop) (K4 : Int32 × Int32 × gS → Prop) : Int32 × Int32 × gS → Prop := fun ⟨v1, v2, S⟩ =>
  ((6 : Int32) ≤ v2 → (Q v1 S)) ∧ (¬ (6 : Int32) ≤ v2 → (vp_in v2 6 ∧ (∀ x3 : Int32, x3 = (v1 + (ga S 11 v2.toNatClampNeg)) → (∀ x4 : Int32, x4 = v2 + (1 : Int32) → (K4 (x3, x4, S))))))
def qX1_sumOfShares (S : gS) (Q : Int32 → gS → Prop) : Prop :=
  lp (qX1_sumOfShares_L4 Q) ((0 : Int32), (0 : Int32), S)
abbrev rmX1_sumOfShares : Room := { frames := 0, cells := 0, slots := 0, locals := 0 }
set_option maxHeartbeats 4000000 in
set_option maxRecDepth 100000 in
theorem kX1_sumOfShares (l : Launch) (D : va_G) (Y : Nat → ClassId) (A : Nat → Nat) (hI : iC A) (sz : Nat) (S : gS) (Q : Int32 → gS → Prop) (h : qX1_sumOfShares S  Q) : Met l yX1_sumOfShares wsX1_sumOfShares rmX1_sumOfShares (gPc [.ref (A 2)] sz D vwCl (tY Y) (wC Y A S)) (va_Qi Q (fun S' t => gH D vwCl (tY Y) (wC Y A S') t) (gF A 65 sz)) 0 0 (gF A 65 sz) := by
  refine gMet_i (cc := cX1_sumOfShares) (maxL := 3) (by decide +kernel) rfl (Nat.le_of_ble_eq_true rfl) (fun p e s m args below meth c Z H locs hx hb hml hts hown hK hP hS hret ls hl => ?_)
  have hown : s.vm.findClass RX1 = some m.cls := hown
  have hl : lv_has ls 3 [(0, .ref (A 2))] := hl
  have hD : ∀ S0 : gS, va_D (gF A 65 s.heap.size) (wC Y A S0) := fun S0 => dC hI S0 (fun k hk => gF_in hk)
  have k0 : ∀ w ∈ u_ws RX1 TX1 7, w ∈ wsX1_sumOfShares := by decide +kernel
  have k1 := hts (.fieldLink RX1 24 "CoastWatch$Coves" "shares" "[I") (by decide +kernel)
  have tL4 : ∀ (v1 : Int32) (v2 : Int32) (S : gS), lp (qX1_sumOfShares_L4 Q) (v1, v2, S) → ∀ (H : Heap) (locs : List Loc) (ls : Array Slot), va_P D vwCl (wC Y A S) H → va_S (gF A 65 s.heap.size) s.heap H locs → lv_has ls 3 [(0, .ref (A 2)), (1, .int v1), (2, .int v2)] → W p l e rmX1_sumOfShares s m args below meth c H locs 0 0 Z (F0 m 4 ls []) := by
    intro  v1 v2 S h
    refine lp_walk (G := fun a => match a with | (v1, v2, S) => ∀ (H : Heap) (locs : List Loc) (ls : Array Slot), va_P D vwCl (wC Y A S) H → va_S (gF A 65 s.heap.size) s.heap H locs → lv_has ls 3 [(0, .ref (A 2)), (1, .int v1), (2, .int v2)] → W p l e rmX1_sumOfShares s m args below meth c H locs 0 0 Z (F0 m 4 ls [])) (fun K4 a ih4 h => ?_) (v1, v2, S) h
    obtain ⟨v1, v2, S⟩ := a
    have ih4 : ∀ (v1 : Int32) (v2 : Int32) (S : gS), K4 (v1, v2, S) → ∀ (H : Heap) (locs : List Loc) (ls : Array Slot), va_P D vwCl (wC Y A S) H → va_S (gF A 65 s.heap.size) s.heap H locs → lv_has ls 3 [(0, .ref (A 2)), (1, .int v1), (2, .int v2)] → W p l e rmX1_sumOfShares s m args below meth c H locs 0 0 Z (F0 m 4 ls []) := fun v1 v2 S q => ih4 (v1, v2, S) q
    intro H locs ls hP hS hl
    refine lv_iload_n hx hb dX1_sumOfShares_4 rfl (lv_at hl 2 rfl) ?_
    refine lv_bipush (v := (6 : Int32)) hx hb dX1_sumOfShares_5 (by decide) ?_
    refine lv_icmp_ge (tgt := 25) hx hb dX1_sumOfShares_7 (by decide) (fun c1 => ?_) (fun c1 => ?_)
    · have h := h.1 c1
      refine lv_iload_n hx hb dX1_sumOfShares_25 rfl (lv_at hl 1 rfl) ?_
      exact hret _ _ _ _ _ _ dX1_sumOfShares_26 h hP hS
    · have h := h.2 c1
      refine lv_iload_n hx hb dX1_sumOfShares_10 rfl (lv_at hl 1 rfl) ?_
      refine lv_aload_n hx hb dX1_sumOfShares_11 rfl (lv_at hl 0 rfl) ?_
      refine va_get (ci := 1) (v := .ref (A 22)) (C := RX1) (T := TX1) (N := 7) hx hb hts k0 hown hK hP 2 (aC2 Y A S) rfl 4 (by decide) k1 (fun _ h9 => h9) rfl dX1_sumOfShares_12 ?_
      refine lv_iload_n hx hb dX1_sumOfShares_15 rfl (lv_at hl 2 rfl) ?_
      have v_2 := h.1
      have h := h.2
      refine va_iald hx hb hK hP 22 0 (aC22 Y A S) rfl v_2 dX1_sumOfShares_16 ?_
      refine lv_iadd hx hb dX1_sumOfShares_17 ?_
      refine lv_topi (fun x3 ex3 => ?_)
      have h := h x3 ex3
      refine lv_istore_n (lv' := [(1, .int x3), (0, .ref (A 2)), (2, .int v2)]) hx hb dX1_sumOfShares_18 rfl hl (by decide) rfl (fun ls hl => ?_)
      obtain ⟨x4, ex4⟩ : ∃ z : Int32, z = v2 + (1 : Int32) := ⟨_, rfl⟩
      have h := h x4 ex4
      refine lv_iinc (v := x4) (lv' := [(2, .int x4), (1, .int x3), (0, .ref (A 2))]) hx hb dX1_sumOfShares_19 hl (k := 2) rfl (by rw [ex4]; rfl) (by decide) rfl (fun ls hl => ?_)
      refine lv_goto (tgt := 4) hx hb dX1_sumOfShares_22 (by decide) ?_
      exact ih4 x3 x4 S h _ _ _ hP hS (lv_sub hl [2, 1, 0] rfl)
  refine lv_iconst (v := (0 : Int32)) hx hb dX1_sumOfShares_0 (by decide) ?_
  refine lv_istore_n (lv' := [(1, .int (0 : Int32)), (0, .ref (A 2))]) hx hb dX1_sumOfShares_1 rfl hl (by decide) rfl (fun ls hl => ?_)
  refine lv_iconst (v := (0 : Int32)) hx hb dX1_sumOfShares_2 (by decide) ?_
  refine lv_istore_n (lv' := [(2, .int (0 : Int32)), (1, .int (0 : Int32)), (0, .ref (A 2))]) hx hb dX1_sumOfShares_3 rfl hl (by decide) rfl (fun ls hl => ?_)
  exact tL4  (0 : Int32) (0 : Int32) S h _ _ _ hP hS (lv_sub hl [2, 1, 0] rfl)

def qX1_coveOfShare_L4 (a1 : Int32) (Q : Int32 → gS → Prop) (K4 : Int32 × Int32 × gS → Prop) : Int32 × Int32 × gS → Prop := fun ⟨v2, v3, S⟩ =>
  ((6 : Int32) ≤ v3 → (Q (5 : Int32) S)) ∧ (¬ (6 : Int32) ≤ v3 → (vp_in v3 6 ∧ (∀ x3 : Int32, x3 = (v2 + (ga S 11 v3.toNatClampNeg)) → ((x3 ≤ a1 → (∀ x5 : Int32, x5 = v3 + (1 : Int32) → (K4 (x3, x5, S)))) ∧ (¬ x3 ≤ a1 → (Q v3 S))))))
def qX1_coveOfShare (S : gS) (a1 : Int32) (Q : Int32 → gS → Prop) : Prop :=
  lp (qX1_coveOfShare_L4 a1 Q) ((0 : Int32), (0 : Int32), S)
abbrev rmX1_coveOfShare : Room := { frames := 0, cells := 0, slots := 0, locals := 0 }
set_option maxHeartbeats 4000000 in
set_option maxRecDepth 100000 in
theorem kX1_coveOfShare (l : Launch) (D : va_G) (Y : Nat → ClassId) (A : Nat → Nat) (hI : iC A) (sz : Nat) (S : gS) (a1 : Int32) (Q : Int32 → gS → Prop) (h : qX1_coveOfShare S a1 Q) : Met l yX1_coveOfShare wsX1_coveOfShare rmX1_coveOfShare (gPc [.ref (A 2), .int a1] sz D vwCl (tY Y) (wC Y A S)) (va_Qi Q (fun S' t => gH D vwCl (tY Y) (wC Y A S') t) (gF A 65 sz)) 0 0 (gF A 65 sz) := by
  refine gMet_i (cc := cX1_coveOfShare) (maxL := 4) (by decide +kernel) rfl (Nat.le_of_ble_eq_true rfl) (fun p e s m args below meth c Z H locs hx hb hml hts hown hK hP hS hret ls hl => ?_)
  have hown : s.vm.findClass RX1 = some m.cls := hown
  have hl : lv_has ls 4 [(0, .ref (A 2)), (1, .int a1)] := hl
  have hD : ∀ S0 : gS, va_D (gF A 65 s.heap.size) (wC Y A S0) := fun S0 => dC hI S0 (fun k hk => gF_in hk)
  have k0 : ∀ w ∈ u_ws RX1 TX1 7, w ∈ wsX1_coveOfShare := by decide +kernel
  have k1 := hts (.fieldLink RX1 24 "CoastWatch$Coves" "shares" "[I") (by decide +kernel)
  have tL4 : ∀ (v2 : Int32) (v3 : Int32) (S : gS), lp (qX1_coveOfShare_L4 a1 Q) (v2, v3, S) → ∀ (H : Heap) (locs : List Loc) (ls : Array Slot), va_P D vwCl (wC Y A S) H → va_S (gF A 65 s.heap.size) s.heap H locs → lv_has ls 4 [(0, .ref (A 2)), (1, .int a1), (2, .int v2), (3, .int v3)] → W p l e rmX1_coveOfShare s m args below meth c H locs 0 0 Z (F0 m 4 ls []) := by
    intro  v2 v3 S h
    refine lp_walk (G := fun a => match a with | (v2, v3, S) => ∀ (H : Heap) (locs : List Loc) (ls : Array Slot), va_P D vwCl (wC Y A S) H → va_S (gF A 65 s.heap.size) s.heap H locs → lv_has ls 4 [(0, .ref (A 2)), (1, .int a1), (2, .int v2), (3, .int v3)] → W p l e rmX1_coveOfShare s m args below meth c H locs 0 0 Z (F0 m 4 ls [])) (fun K4 a ih4 h => ?_) (v2, v3, S) h
    obtain ⟨v2, v3, S⟩ := a
    have ih4 : ∀ (v2 : Int32) (v3 : Int32) (S : gS), K4 (v2, v3, S) → ∀ (H : Heap) (locs : List Loc) (ls : Array Slot), va_P D vwCl (wC Y A S) H → va_S (gF A 65 s.heap.size) s.heap H locs → lv_has ls 4 [(0, .ref (A 2)), (1, .int a1), (2, .int v2), (3, .int v3)] → W p l e rmX1_coveOfShare s m args below meth c H locs 0 0 Z (F0 m 4 ls []) := fun v2 v3 S q => ih4 (v2, v3, S) q
    intro H locs ls hP hS hl
    refine lv_iload_n hx hb dX1_coveOfShare_4 rfl (lv_at hl 3 rfl) ?_
    refine lv_bipush (v := (6 : Int32)) hx hb dX1_coveOfShare_5 (by decide) ?_
    refine lv_icmp_ge (tgt := 32) hx hb dX1_coveOfShare_7 (by decide) (fun c1 => ?_) (fun c1 => ?_)
    · have h := h.1 c1
      refine lv_iconst (v := (5 : Int32)) hx hb dX1_coveOfShare_32 (by decide) ?_
      exact hret _ _ _ _ _ _ dX1_coveOfShare_33 h hP hS
    · have h := h.2 c1
      refine lv_iload_n hx hb dX1_coveOfShare_10 rfl (lv_at hl 2 rfl) ?_
      refine lv_aload_n hx hb dX1_coveOfShare_11 rfl (lv_at hl 0 rfl) ?_
      refine va_get (ci := 1) (v := .ref (A 22)) (C := RX1) (T := TX1) (N := 7) hx hb hts k0 hown hK hP 2 (aC2 Y A S) rfl 4 (by decide) k1 (fun _ h9 => h9) rfl dX1_coveOfShare_12 ?_
      refine lv_iload_n hx hb dX1_coveOfShare_15 rfl (lv_at hl 3 rfl) ?_
      have v_2 := h.1
      have h := h.2
      refine va_iald hx hb hK hP 22 0 (aC22 Y A S) rfl v_2 dX1_coveOfShare_16 ?_
      refine lv_iadd hx hb dX1_coveOfShare_17 ?_
      refine lv_topi (fun x3 ex3 => ?_)
      have h := h x3 ex3
      refine lv_istore_n (lv' := [(2, .int x3), (0, .ref (A 2)), (1, .int a1), (3, .int v3)]) hx hb dX1_coveOfShare_18 rfl hl (by decide) rfl (fun ls hl => ?_)
      refine lv_iload_n hx hb dX1_coveOfShare_19 rfl (lv_at hl 0 rfl) ?_
      refine lv_iload_n hx hb dX1_coveOfShare_20 rfl (lv_at hl 2 rfl) ?_
      refine lv_icmp_le (tgt := 26) hx hb dX1_coveOfShare_21 (by decide) (fun c4 => ?_) (fun c4 => ?_)
      · have h := h.1 c4
        obtain ⟨x5, ex5⟩ : ∃ z : Int32, z = v3 + (1 : Int32) := ⟨_, rfl⟩
        have h := h x5 ex5
        refine lv_iinc (v := x5) (lv' := [(3, .int x5), (2, .int x3), (0, .ref (A 2)), (1, .int a1)]) hx hb dX1_coveOfShare_26 hl (k := 3) rfl (by rw [ex5]; rfl) (by decide) rfl (fun ls hl => ?_)
        refine lv_goto (tgt := 4) hx hb dX1_coveOfShare_29 (by decide) ?_
        exact ih4 x3 x5 S h _ _ _ hP hS (lv_sub hl [2, 3, 1, 0] rfl)
      · have h := h.2 c4
        refine lv_iload_n hx hb dX1_coveOfShare_24 rfl (lv_at hl 3 rfl) ?_
        exact hret _ _ _ _ _ _ dX1_coveOfShare_25 h hP hS
  refine lv_iconst (v := (0 : Int32)) hx hb dX1_coveOfShare_0 (by decide) ?_
  refine lv_istore_n (lv' := [(2, .int (0 : Int32)), (0, .ref (A 2)), (1, .int a1)]) hx hb dX1_coveOfShare_1 rfl hl (by decide) rfl (fun ls hl => ?_)
  refine lv_iconst (v := (0 : Int32)) hx hb dX1_coveOfShare_2 (by decide) ?_
  refine lv_istore_n (lv' := [(3, .int (0 : Int32)), (2, .int (0 : Int32)), (0, .ref (A 2)), (1, .int a1)]) hx hb dX1_coveOfShare_3 rfl hl (by decide) rfl (fun ls hl => ?_)
  exact tL4  (0 : Int32) (0 : Int32) S h _ _ _ hP hS (lv_sub hl [2, 3, 1, 0] rfl)

def qX1_countingAt (S : gS) (a1 : Int32) (Q : Int32 → gS → Prop) : Prop :=
  vp_in a1 6 ∧ (((ga S 12 a1.toNatClampNeg) = 0 → (Q (ga S 13 a1.toNatClampNeg) S)) ∧ (¬ (ga S 12 a1.toNatClampNeg) = 0 → (((ga S 13 a1.toNatClampNeg) ≤ 0 → (Q (ga S 13 a1.toNatClampNeg) S)) ∧ (¬ (ga S 13 a1.toNatClampNeg) ≤ 0 → (Q ((ga S 13 a1.toNatClampNeg) - (1 : Int32)) S)))))
abbrev rmX1_countingAt : Room := { frames := 0, cells := 0, slots := 0, locals := 0 }
set_option maxHeartbeats 4000000 in
set_option maxRecDepth 100000 in
theorem kX1_countingAt (l : Launch) (D : va_G) (Y : Nat → ClassId) (A : Nat → Nat) (hI : iC A) (sz : Nat) (S : gS) (a1 : Int32) (Q : Int32 → gS → Prop) (h : qX1_countingAt S a1 Q) : Met l yX1_countingAt wsX1_countingAt rmX1_countingAt (gPc [.ref (A 2), .int a1] sz D vwCl (tY Y) (wC Y A S)) (va_Qi Q (fun S' t => gH D vwCl (tY Y) (wC Y A S') t) (gF A 65 sz)) 0 0 (gF A 65 sz) := by
  refine gMet_i (cc := cX1_countingAt) (maxL := 2) (by decide +kernel) rfl (Nat.le_of_ble_eq_true rfl) (fun p e s m args below meth c Z H locs hx hb hml hts hown hK hP hS hret ls hl => ?_)
  have hown : s.vm.findClass RX1 = some m.cls := hown
  have hl : lv_has ls 2 [(0, .ref (A 2)), (1, .int a1)] := hl
  have hD : ∀ S0 : gS, va_D (gF A 65 s.heap.size) (wC Y A S0) := fun S0 => dC hI S0 (fun k hk => gF_in hk)
  have k0 : ∀ w ∈ u_ws RX1 TX1 7, w ∈ wsX1_countingAt := by decide +kernel
  have k1 := hts (.fieldLink RX1 27 "CoastWatch$Coves" "bribed" "[Z") (by decide +kernel)
  have k2 := hts (.fieldLink RX1 31 "CoastWatch$Coves" "watchers" "[I") (by decide +kernel)
  refine lv_aload_n hx hb dX1_countingAt_0 rfl (lv_at hl 0 rfl) ?_
  refine va_get (ci := 1) (v := .ref (A 23)) (C := RX1) (T := TX1) (N := 7) hx hb hts k0 hown hK hP 2 (aC2 Y A S) rfl 5 (by decide) k1 (fun _ h9 => h9) rfl dX1_countingAt_1 ?_
  refine lv_iload_n hx hb dX1_countingAt_4 rfl (lv_at hl 1 rfl) ?_
  have v_1 := h.1
  have h := h.2
  refine va_zald hx hb hK hP 23 1 (aC23 Y A S) rfl v_1 dX1_countingAt_5 ?_
  refine lv_if_eq (tgt := 29) hx hb dX1_countingAt_6 (by decide) (fun c2 => ?_) (fun c2 => ?_)
  · have h := h.1 c2
    refine lv_aload_n hx hb dX1_countingAt_29 rfl (lv_at hl 0 rfl) ?_
    refine va_get (ci := 1) (v := .ref (A 24)) (C := RX1) (T := TX1) (N := 7) hx hb hts k0 hown hK hP 2 (aC2 Y A S) rfl 6 (by decide) k2 (fun _ h9 => h9) rfl dX1_countingAt_30 ?_
    refine lv_iload_n hx hb dX1_countingAt_33 rfl (lv_at hl 1 rfl) ?_
    refine va_iald hx hb hK hP 24 0 (aC24 Y A S) rfl v_1 dX1_countingAt_34 ?_
    exact hret _ _ _ _ _ _ dX1_countingAt_35 h hP hS
  · have h := h.2 c2
    refine lv_aload_n hx hb dX1_countingAt_9 rfl (lv_at hl 0 rfl) ?_
    refine va_get (ci := 1) (v := .ref (A 24)) (C := RX1) (T := TX1) (N := 7) hx hb hts k0 hown hK hP 2 (aC2 Y A S) rfl 6 (by decide) k2 (fun _ h9 => h9) rfl dX1_countingAt_10 ?_
    refine lv_iload_n hx hb dX1_countingAt_13 rfl (lv_at hl 1 rfl) ?_
    refine va_iald hx hb hK hP 24 0 (aC24 Y A S) rfl v_1 dX1_countingAt_14 ?_
    refine lv_if_le (tgt := 29) hx hb dX1_countingAt_15 (by decide) (fun c3 => ?_) (fun c3 => ?_)
    · have h := h.1 c3
      refine lv_aload_n hx hb dX1_countingAt_29 rfl (lv_at hl 0 rfl) ?_
      refine va_get (ci := 1) (v := .ref (A 24)) (C := RX1) (T := TX1) (N := 7) hx hb hts k0 hown hK hP 2 (aC2 Y A S) rfl 6 (by decide) k2 (fun _ h9 => h9) rfl dX1_countingAt_30 ?_
      refine lv_iload_n hx hb dX1_countingAt_33 rfl (lv_at hl 1 rfl) ?_
      refine va_iald hx hb hK hP 24 0 (aC24 Y A S) rfl v_1 dX1_countingAt_34 ?_
      exact hret _ _ _ _ _ _ dX1_countingAt_35 h hP hS
    · have h := h.2 c3
      refine lv_aload_n hx hb dX1_countingAt_18 rfl (lv_at hl 0 rfl) ?_
      refine va_get (ci := 1) (v := .ref (A 24)) (C := RX1) (T := TX1) (N := 7) hx hb hts k0 hown hK hP 2 (aC2 Y A S) rfl 6 (by decide) k2 (fun _ h9 => h9) rfl dX1_countingAt_19 ?_
      refine lv_iload_n hx hb dX1_countingAt_22 rfl (lv_at hl 1 rfl) ?_
      refine va_iald hx hb hK hP 24 0 (aC24 Y A S) rfl v_1 dX1_countingAt_23 ?_
      refine lv_iconst (v := (1 : Int32)) hx hb dX1_countingAt_24 (by decide) ?_
      refine lv_isub hx hb dX1_countingAt_25 ?_
      refine lv_goto (tgt := 35) hx hb dX1_countingAt_26 (by decide) ?_
      exact hret _ _ _ _ _ _ dX1_countingAt_35 h hP hS

def qX2_sortDown_J60 (Q : gS → Prop) (K2 : Int32 × gS → Prop) : Int32 × Int32 × gS → Prop := fun ⟨v2, v3, S⟩ =>
  vp_in v2 6 ∧ (vp_in v3 6 ∧ (∀ S2 : gS, S2 = sA S 51 (upd (ga S 51) v3.toNatClampNeg (ga S 8 v2.toNatClampNeg)) → (∀ x4 : Int32, x4 = v2 + (1 : Int32) → (K2 (x4, S2)))))
def qX2_sortDown_L13 (Q : gS → Prop) (K2 : Int32 × gS → Prop) (K13 : Int32 × Int32 × Int32 × gS → Prop) : Int32 × Int32 × Int32 × gS → Prop := fun ⟨v2, v3, v4, S⟩ =>
  (v4 ≤ 0 → (qX2_sortDown_J60 Q K2 (v2, v3, S))) ∧ (¬ v4 ≤ 0 → (vp_in (v4 - (1 : Int32)) 6 ∧ (vp_in v2 6 ∧ (((ga S 8 v2.toNatClampNeg) ≤ (ga S 51 (v4 - (1 : Int32)).toNatClampNeg) → (qX2_sortDown_J60 Q K2 (v2, v3, S))) ∧ (¬ (ga S 8 v2.toNatClampNeg) ≤ (ga S 51 (v4 - (1 : Int32)).toNatClampNeg) → (vp_in v4 6 ∧ (∀ S9 : gS, S9 = sA S 51 (upd (ga S 51) v4.toNatClampNeg (ga S 51 (v4 - (1 : Int32)).toNatClampNeg)) → (∀ x11 : Int32, x11 = (v4 - (1 : Int32)) → (∀ x12 : Int32, x12 = v4 + (-1 : Int32) → (K13 (v2, x11, x12, S9)))))))))))
def qX2_sortDown_L2 (Q : gS → Prop) (K2 : Int32 × gS → Prop) : Int32 × gS → Prop := fun ⟨v2, S⟩ =>
  ((6 : Int32) ≤ v2 → (Q S)) ∧ (¬ (6 : Int32) ≤ v2 → (lp (qX2_sortDown_L13 Q K2) (v2, v2, v2, S)))
def qX2_sortDown (S : gS) (Q : gS → Prop) : Prop :=
  lp (qX2_sortDown_L2 Q) ((0 : Int32), S)
abbrev rmX2_sortDown : Room := { frames := 0, cells := 0, slots := 0, locals := 0 }
set_option maxHeartbeats 4000000 in
set_option maxRecDepth 100000 in
theorem kX2_sortDown (l : Launch) (D : va_G) (Y : Nat → ClassId) (A : Nat → Nat) (hI : iC A) (sz : Nat) (S : gS) (Q : gS → Prop) (h : qX2_sortDown S  Q) : Met l yX2_sortDown wsX2_sortDown rmX2_sortDown (gPc [.ref (A 9), .ref (A 19)] sz D vwCl (tY Y) (wC Y A S)) (va_Qv Q (fun S' t => gH D vwCl (tY Y) (wC Y A S') t) (gF A 65 sz)) 0 0 (gF A 65 sz) := by
  refine gMet_v (cc := cX2_sortDown) (maxL := 5) (by decide +kernel) rfl (Nat.le_of_ble_eq_true rfl) (fun p e s m args below meth c Z H locs hx hb hml hts hown hK hP hS hret ls hl => ?_)
  have hown : s.vm.findClass RX2 = some m.cls := hown
  have hl : lv_has ls 5 [(0, .ref (A 9)), (1, .ref (A 19))] := hl
  have hD : ∀ S0 : gS, va_D (gF A 65 s.heap.size) (wC Y A S0) := fun S0 => dC hI S0 (fun k hk => gF_in hk)
  have k0 : ∀ w ∈ u_ws RX2 TX2 3, w ∈ wsX2_sortDown := by decide +kernel
  have k1 := hts (.fieldLink RX2 9 "CoastWatch$Game" "worths" "[I") (by decide +kernel)
  have tJ60 : ∀ (K2 : Int32 × gS → Prop) (ih2 : ∀ (v2 : Int32) (S : gS), K2 (v2, S) → ∀ (H : Heap) (locs : List Loc) (ls : Array Slot), va_P D vwCl (wC Y A S) H → va_S (gF A 65 s.heap.size) s.heap H locs → lv_has ls 5 [(0, .ref (A 9)), (1, .ref (A 19)), (2, .int v2)] → W p l e rmX2_sortDown s m args below meth c H locs 0 0 Z (F0 m 2 ls [])) (v2 : Int32) (v3 : Int32) (S : gS), qX2_sortDown_J60 Q K2 (v2, v3, S) → ∀ (H : Heap) (locs : List Loc) (ls : Array Slot), va_P D vwCl (wC Y A S) H → va_S (gF A 65 s.heap.size) s.heap H locs → lv_has ls 5 [(0, .ref (A 9)), (1, .ref (A 19)), (2, .int v2), (3, .int v3)] → W p l e rmX2_sortDown s m args below meth c H locs 0 0 Z (F0 m 60 ls []) := by
    intro K2 ih2 v2 v3 S h
    intro H locs ls hP hS hl
    refine lv_aload_n hx hb dX2_sortDown_60 rfl (lv_at hl 0 rfl) ?_
    refine va_get (ci := 2) (v := .ref (A 64)) (C := RX2) (T := TX2) (N := 3) hx hb hts k0 hown hK hP 9 (aC9 Y A S) rfl 0 (by decide) k1 (fun _ h9 => h9) rfl dX2_sortDown_61 ?_
    refine lv_iload_n hx hb dX2_sortDown_64 rfl (lv_at hl 3 rfl) ?_
    refine lv_aload_n hx hb dX2_sortDown_65 rfl (lv_at hl 1 rfl) ?_
    refine lv_iload_n hx hb dX2_sortDown_66 rfl (lv_at hl 2 rfl) ?_
    have v_1 := h.1
    have h := h.2
    refine va_iald hx hb hK hP 19 0 (aC19 Y A S) rfl v_1 dX2_sortDown_67 ?_
    have v_3 := h.1
    have h := h.2
    obtain ⟨S2, eS2⟩ : ∃ z : gS, z = sA S 51 (upd (ga S 51) v3.toNatClampNeg (ga S 8 v2.toNatClampNeg)) := ⟨_, rfl⟩
    refine va_iast hx hb hK hP (hD S) hS 64 0 (aC64 Y A S) rfl v_3 dX2_sortDown_68 (fun H locs hP _ hS => ?_)
    have hP := uC64 eS2 hP
    have h := h S2 eS2
    obtain ⟨x4, ex4⟩ : ∃ z : Int32, z = v2 + (1 : Int32) := ⟨_, rfl⟩
    have h := h x4 ex4
    refine lv_iinc (v := x4) (lv' := [(2, .int x4), (0, .ref (A 9)), (1, .ref (A 19)), (3, .int v3)]) hx hb dX2_sortDown_69 hl (k := 2) rfl (by rw [ex4]; rfl) (by decide) rfl (fun ls hl => ?_)
    refine lv_goto (tgt := 2) hx hb dX2_sortDown_72 (by decide) ?_
    exact ih2 x4 S2 h _ _ _ hP hS (lv_sub hl [1, 2, 0] rfl)
  have tL13 : ∀ (K2 : Int32 × gS → Prop) (ih2 : ∀ (v2 : Int32) (S : gS), K2 (v2, S) → ∀ (H : Heap) (locs : List Loc) (ls : Array Slot), va_P D vwCl (wC Y A S) H → va_S (gF A 65 s.heap.size) s.heap H locs → lv_has ls 5 [(0, .ref (A 9)), (1, .ref (A 19)), (2, .int v2)] → W p l e rmX2_sortDown s m args below meth c H locs 0 0 Z (F0 m 2 ls [])) (v2 : Int32) (v3 : Int32) (v4 : Int32) (S : gS), lp (qX2_sortDown_L13 Q K2) (v2, v3, v4, S) → ∀ (H : Heap) (locs : List Loc) (ls : Array Slot), va_P D vwCl (wC Y A S) H → va_S (gF A 65 s.heap.size) s.heap H locs → lv_has ls 5 [(0, .ref (A 9)), (1, .ref (A 19)), (2, .int v2), (3, .int v3), (4, .int v4)] → W p l e rmX2_sortDown s m args below meth c H locs 0 0 Z (F0 m 13 ls []) := by
    intro K2 ih2 v2 v3 v4 S h
    refine lp_walk (G := fun a => match a with | (v2, v3, v4, S) => ∀ (H : Heap) (locs : List Loc) (ls : Array Slot), va_P D vwCl (wC Y A S) H → va_S (gF A 65 s.heap.size) s.heap H locs → lv_has ls 5 [(0, .ref (A 9)), (1, .ref (A 19)), (2, .int v2), (3, .int v3), (4, .int v4)] → W p l e rmX2_sortDown s m args below meth c H locs 0 0 Z (F0 m 13 ls [])) (fun K13 a ih13 h => ?_) (v2, v3, v4, S) h
    obtain ⟨v2, v3, v4, S⟩ := a
    have ih13 : ∀ (v2 : Int32) (v3 : Int32) (v4 : Int32) (S : gS), K13 (v2, v3, v4, S) → ∀ (H : Heap) (locs : List Loc) (ls : Array Slot), va_P D vwCl (wC Y A S) H → va_S (gF A 65 s.heap.size) s.heap H locs → lv_has ls 5 [(0, .ref (A 9)), (1, .ref (A 19)), (2, .int v2), (3, .int v3), (4, .int v4)] → W p l e rmX2_sortDown s m args below meth c H locs 0 0 Z (F0 m 13 ls []) := fun v2 v3 v4 S q => ih13 (v2, v3, v4, S) q
    intro H locs ls hP hS hl
    refine lv_iload hx hb dX2_sortDown_13 (lv_at hl 4 rfl) ?_
    refine lv_if_le (tgt := 60) hx hb dX2_sortDown_15 (by decide) (fun c5 => ?_) (fun c5 => ?_)
    · have h := h.1 c5
      exact tJ60 K2 ih2 v2 v3 S h _ _ _ hP hS (lv_sub hl [0, 1, 2, 3] rfl)
    · have h := h.2 c5
      refine lv_aload_n hx hb dX2_sortDown_18 rfl (lv_at hl 0 rfl) ?_
      refine va_get (ci := 2) (v := .ref (A 64)) (C := RX2) (T := TX2) (N := 3) hx hb hts k0 hown hK hP 9 (aC9 Y A S) rfl 0 (by decide) k1 (fun _ h9 => h9) rfl dX2_sortDown_19 ?_
      refine lv_iload hx hb dX2_sortDown_22 (lv_at hl 4 rfl) ?_
      refine lv_iconst (v := (1 : Int32)) hx hb dX2_sortDown_24 (by decide) ?_
      refine lv_isub hx hb dX2_sortDown_25 ?_
      have v_6 := h.1
      have h := h.2
      refine va_iald hx hb hK hP 64 0 (aC64 Y A S) rfl v_6 dX2_sortDown_26 ?_
      refine lv_aload_n hx hb dX2_sortDown_27 rfl (lv_at hl 1 rfl) ?_
      refine lv_iload_n hx hb dX2_sortDown_28 rfl (lv_at hl 2 rfl) ?_
      have v_7 := h.1
      have h := h.2
      refine va_iald hx hb hK hP 19 0 (aC19 Y A S) rfl v_7 dX2_sortDown_29 ?_
      refine lv_icmp_ge (tgt := 60) hx hb dX2_sortDown_30 (by decide) (fun c8 => ?_) (fun c8 => ?_)
      · have h := h.1 c8
        exact tJ60 K2 ih2 v2 v3 S h _ _ _ hP hS (lv_sub hl [0, 1, 2, 3] rfl)
      · have h := h.2 c8
        refine lv_aload_n hx hb dX2_sortDown_33 rfl (lv_at hl 0 rfl) ?_
        refine va_get (ci := 2) (v := .ref (A 64)) (C := RX2) (T := TX2) (N := 3) hx hb hts k0 hown hK hP 9 (aC9 Y A S) rfl 0 (by decide) k1 (fun _ h9 => h9) rfl dX2_sortDown_34 ?_
        refine lv_iload hx hb dX2_sortDown_37 (lv_at hl 4 rfl) ?_
        refine lv_aload_n hx hb dX2_sortDown_39 rfl (lv_at hl 0 rfl) ?_
        refine va_get (ci := 2) (v := .ref (A 64)) (C := RX2) (T := TX2) (N := 3) hx hb hts k0 hown hK hP 9 (aC9 Y A S) rfl 0 (by decide) k1 (fun _ h9 => h9) rfl dX2_sortDown_40 ?_
        refine lv_iload hx hb dX2_sortDown_43 (lv_at hl 4 rfl) ?_
        refine lv_iconst (v := (1 : Int32)) hx hb dX2_sortDown_45 (by decide) ?_
        refine lv_isub hx hb dX2_sortDown_46 ?_
        refine va_iald hx hb hK hP 64 0 (aC64 Y A S) rfl v_6 dX2_sortDown_47 ?_
        have v_10 := h.1
        have h := h.2
        obtain ⟨S9, eS9⟩ : ∃ z : gS, z = sA S 51 (upd (ga S 51) v4.toNatClampNeg (ga S 51 (v4 - (1 : Int32)).toNatClampNeg)) := ⟨_, rfl⟩
        refine va_iast hx hb hK hP (hD S) hS 64 0 (aC64 Y A S) rfl v_10 dX2_sortDown_48 (fun H locs hP _ hS => ?_)
        have hP := uC64 eS9 hP
        have h := h S9 eS9
        refine lv_iload hx hb dX2_sortDown_49 (lv_at hl 4 rfl) ?_
        refine lv_iconst (v := (1 : Int32)) hx hb dX2_sortDown_51 (by decide) ?_
        refine lv_isub hx hb dX2_sortDown_52 ?_
        refine lv_topi (fun x11 ex11 => ?_)
        have h := h x11 ex11
        refine lv_istore_n (lv' := [(3, .int x11), (0, .ref (A 9)), (1, .ref (A 19)), (2, .int v2), (4, .int v4)]) hx hb dX2_sortDown_53 rfl hl (by decide) rfl (fun ls hl => ?_)
        obtain ⟨x12, ex12⟩ : ∃ z : Int32, z = v4 + (-1 : Int32) := ⟨_, rfl⟩
        have h := h x12 ex12
        refine lv_iinc (v := x12) (lv' := [(4, .int x12), (3, .int x11), (0, .ref (A 9)), (1, .ref (A 19)), (2, .int v2)]) hx hb dX2_sortDown_54 hl (k := 4) rfl (by rw [ex12]; rfl) (by decide) rfl (fun ls hl => ?_)
        refine lv_goto (tgt := 13) hx hb dX2_sortDown_57 (by decide) ?_
        exact ih13 v2 x11 x12 S9 h _ _ _ hP hS (lv_sub hl [2, 3, 4, 1, 0] rfl)
  have tL2 : ∀ (v2 : Int32) (S : gS), lp (qX2_sortDown_L2 Q) (v2, S) → ∀ (H : Heap) (locs : List Loc) (ls : Array Slot), va_P D vwCl (wC Y A S) H → va_S (gF A 65 s.heap.size) s.heap H locs → lv_has ls 5 [(0, .ref (A 9)), (1, .ref (A 19)), (2, .int v2)] → W p l e rmX2_sortDown s m args below meth c H locs 0 0 Z (F0 m 2 ls []) := by
    intro  v2 S h
    refine lp_walk (G := fun a => match a with | (v2, S) => ∀ (H : Heap) (locs : List Loc) (ls : Array Slot), va_P D vwCl (wC Y A S) H → va_S (gF A 65 s.heap.size) s.heap H locs → lv_has ls 5 [(0, .ref (A 9)), (1, .ref (A 19)), (2, .int v2)] → W p l e rmX2_sortDown s m args below meth c H locs 0 0 Z (F0 m 2 ls [])) (fun K2 a ih2 h => ?_) (v2, S) h
    obtain ⟨v2, S⟩ := a
    have ih2 : ∀ (v2 : Int32) (S : gS), K2 (v2, S) → ∀ (H : Heap) (locs : List Loc) (ls : Array Slot), va_P D vwCl (wC Y A S) H → va_S (gF A 65 s.heap.size) s.heap H locs → lv_has ls 5 [(0, .ref (A 9)), (1, .ref (A 19)), (2, .int v2)] → W p l e rmX2_sortDown s m args below meth c H locs 0 0 Z (F0 m 2 ls []) := fun v2 S q => ih2 (v2, S) q
    intro H locs ls hP hS hl
    refine lv_iload_n hx hb dX2_sortDown_2 rfl (lv_at hl 2 rfl) ?_
    refine lv_bipush (v := (6 : Int32)) hx hb dX2_sortDown_3 (by decide) ?_
    refine lv_icmp_ge (tgt := 75) hx hb dX2_sortDown_5 (by decide) (fun c13 => ?_) (fun c13 => ?_)
    · have h := h.1 c13
      exact hret _ _ _ _ _ dX2_sortDown_75 h hP hS
    · have h := h.2 c13
      refine lv_iload_n hx hb dX2_sortDown_8 rfl (lv_at hl 2 rfl) ?_
      refine lv_istore_n (lv' := [(3, .int v2), (0, .ref (A 9)), (1, .ref (A 19)), (2, .int v2)]) hx hb dX2_sortDown_9 rfl hl (by decide) rfl (fun ls hl => ?_)
      refine lv_iload_n hx hb dX2_sortDown_10 rfl (lv_at hl 3 rfl) ?_
      refine lv_istore (lv' := [(4, .int v2), (3, .int v2), (0, .ref (A 9)), (1, .ref (A 19)), (2, .int v2)]) hx hb dX2_sortDown_11 hl (by decide) rfl (fun ls hl => ?_)
      exact tL13 K2 ih2 v2 v2 v2 S h _ _ _ hP hS (lv_sub hl [2, 3, 4, 1, 0] rfl)
  refine lv_iconst (v := (0 : Int32)) hx hb dX2_sortDown_0 (by decide) ?_
  refine lv_istore_n (lv' := [(2, .int (0 : Int32)), (0, .ref (A 9)), (1, .ref (A 19))]) hx hb dX2_sortDown_1 rfl hl (by decide) rfl (fun ls hl => ?_)
  exact tL2  (0 : Int32) S h _ _ _ hP hS (lv_sub hl [1, 2, 0] rfl)

def qX2_solve_L17 (a2 : Int32) (a3 : Int32) (Q : gS → Prop) (K17 : Int64 × Int64 × Int64 × Int32 × gS → Prop) : Int64 × Int64 × Int64 × Int32 × gS → Prop := fun ⟨v4, v6, v8, v10, S⟩ =>
  ((6 : Int32) ≤ v10 → (Q S)) ∧ (¬ (6 : Int32) ≤ v10 → (vp_in v10 6 ∧ (∀ x3 : Int64, x3 = ((ga S 51 v10.toNatClampNeg) + a3).toInt64 → (∀ x4 : Int64, x4 = ((v6 * x3) + ((ga S 51 v10.toNatClampNeg).toInt64 * v4)) → (∀ x5 : Int64, x5 = ((v8 * x3) + v4) → (∀ x6 : Int64, x6 = (v4 * x3) → (∀ S7 : gS, S7 = sL S 0 (x4 - (a2.toInt64 * x6)) → (∀ S8 : gS, S8 = sL S7 1 x5 → (((6 : Int32) ≤ (v10 + (1 : Int32)) → (∀ x10 : Int32, x10 = v10 + (1 : Int32) → (K17 (x6, x4, x5, x10, S8)))) ∧ (¬ (6 : Int32) ≤ (v10 + (1 : Int32)) → (vp_in (v10 + (1 : Int32)) 6 ∧ (((lg_cmp (gl S8 0) ((ga S8 51 (v10 + (1 : Int32)).toNatClampNeg).toInt64 * (gl S8 1))) < 0 → (∀ x13 : Int32, x13 = v10 + (1 : Int32) → (K17 (x6, x4, x5, x13, S8)))) ∧ (¬ (lg_cmp (gl S8 0) ((ga S8 51 (v10 + (1 : Int32)).toNatClampNeg).toInt64 * (gl S8 1))) < 0 → (Q S8))))))))))))))
def qX2_solve (S : gS) (a2 : Int32) (a3 : Int32) (Q : gS → Prop) : Prop :=
  qX2_sortDown S (fun S14 => lp (qX2_solve_L17 a2 a3 Q) ((1 : Int64), (0 : Int64), (0 : Int64), (0 : Int32), S14))
abbrev rmX2_solve : Room := { frames := 1, cells := 0, slots := 0, locals := 24 }
set_option maxHeartbeats 4000000 in
set_option maxRecDepth 100000 in
theorem kX2_solve (l : Launch) (D : va_G) (Y : Nat → ClassId) (A : Nat → Nat) (hI : iC A) (sz : Nat) (S : gS) (a2 : Int32) (a3 : Int32) (Q : gS → Prop) (h : qX2_solve S a2 a3 Q) : Met l yX2_solve wsX2_solve rmX2_solve (gPc [.ref (A 9), .ref (A 19), .int a2, .int a3] sz D vwCl (tY Y) (wC Y A S)) (va_Qv Q (fun S' t => gH D vwCl (tY Y) (wC Y A S') t) (gF A 65 sz)) 0 0 (gF A 65 sz) := by
  refine gMet_v (cc := cX2_solve) (maxL := 13) (by decide +kernel) rfl (Nat.le_of_ble_eq_true rfl) (fun p e s m args below meth c Z H locs hx hb hml hts hown hK hP hS hret ls hl => ?_)
  have hown : s.vm.findClass RX2 = some m.cls := hown
  have hl : lv_has ls 13 [(0, .ref (A 9)), (1, .ref (A 19)), (2, .int a2), (3, .int a3)] := hl
  have hD : ∀ S0 : gS, va_D (gF A 65 s.heap.size) (wC Y A S0) := fun S0 => dC hI S0 (fun k hk => gF_in hk)
  have k0 : ∀ w ∈ u_ws RX2 TX2 3, w ∈ wsX2_solve := by decide +kernel
  have k1 := hts (.fieldLink RX2 9 "CoastWatch$Game" "worths" "[I") (by decide +kernel)
  have k2 := hts (.fieldLink RX2 15 "CoastWatch$Game" "above" "J") (by decide +kernel)
  have k3 := hts (.fieldLink RX2 19 "CoastWatch$Game" "below" "J") (by decide +kernel)
  have tL17 : ∀ (v4 : Int64) (v6 : Int64) (v8 : Int64) (v10 : Int32) (S : gS), lp (qX2_solve_L17 a2 a3 Q) (v4, v6, v8, v10, S) → ∀ (H : Heap) (locs : List Loc) (ls : Array Slot), va_P D vwCl (wC Y A S) H → va_S (gF A 65 s.heap.size) s.heap H locs → lv_has ls 13 [(0, .ref (A 9)), (2, .int a2), (3, .int a3), (4, .long v4), (6, .long v6), (8, .long v8), (10, .int v10)] → W p l e rmX2_solve s m args below meth c H locs 0 0 Z (F0 m 17 ls []) := by
    intro  v4 v6 v8 v10 S h
    refine lp_walk (G := fun a => match a with | (v4, v6, v8, v10, S) => ∀ (H : Heap) (locs : List Loc) (ls : Array Slot), va_P D vwCl (wC Y A S) H → va_S (gF A 65 s.heap.size) s.heap H locs → lv_has ls 13 [(0, .ref (A 9)), (2, .int a2), (3, .int a3), (4, .long v4), (6, .long v6), (8, .long v8), (10, .int v10)] → W p l e rmX2_solve s m args below meth c H locs 0 0 Z (F0 m 17 ls [])) (fun K17 a ih17 h => ?_) (v4, v6, v8, v10, S) h
    obtain ⟨v4, v6, v8, v10, S⟩ := a
    have ih17 : ∀ (v4 : Int64) (v6 : Int64) (v8 : Int64) (v10 : Int32) (S : gS), K17 (v4, v6, v8, v10, S) → ∀ (H : Heap) (locs : List Loc) (ls : Array Slot), va_P D vwCl (wC Y A S) H → va_S (gF A 65 s.heap.size) s.heap H locs → lv_has ls 13 [(0, .ref (A 9)), (2, .int a2), (3, .int a3), (4, .long v4), (6, .long v6), (8, .long v8), (10, .int v10)] → W p l e rmX2_solve s m args below meth c H locs 0 0 Z (F0 m 17 ls []) := fun v4 v6 v8 v10 S q => ih17 (v4, v6, v8, v10, S) q
    intro H locs ls hP hS hl
    refine lv_iload hx hb dX2_solve_17 (lv_at hl 6 rfl) ?_
    refine lv_bipush (v := (6 : Int32)) hx hb dX2_solve_19 (by decide) ?_
    refine lv_icmp_ge (tgt := 129) hx hb dX2_solve_21 (by decide) (fun c1 => ?_) (fun c1 => ?_)
    · have h := h.1 c1
      exact hret _ _ _ _ _ dX2_solve_129 h hP hS
    · have h := h.2 c1
      refine lv_aload_n hx hb dX2_solve_24 rfl (lv_at hl 0 rfl) ?_
      refine va_get (ci := 2) (v := .ref (A 64)) (C := RX2) (T := TX2) (N := 3) hx hb hts k0 hown hK hP 9 (aC9 Y A S) rfl 0 (by decide) k1 (fun _ h9 => h9) rfl dX2_solve_25 ?_
      refine lv_iload hx hb dX2_solve_28 (lv_at hl 6 rfl) ?_
      have v_2 := h.1
      have h := h.2
      refine va_iald hx hb hK hP 64 0 (aC64 Y A S) rfl v_2 dX2_solve_30 ?_
      refine lv_iload_n hx hb dX2_solve_31 rfl (lv_at hl 2 rfl) ?_
      refine lv_iadd hx hb dX2_solve_32 ?_
      refine lv_i2l hx hb dX2_solve_33 rfl ?_
      refine lv_topl (fun x3 ex3 => ?_)
      have h := h x3 ex3
      refine lv_lstore (lv' := [(11, .long x3), (0, .ref (A 9)), (2, .int a2), (3, .int a3), (4, .long v4), (6, .long v6), (8, .long v8), (10, .int v10)]) hx hb dX2_solve_34 hl (by decide) rfl (fun ls hl => ?_)
      refine lv_lload hx hb dX2_solve_36 (lv_at hl 5 rfl) ?_
      refine lv_lload hx hb dX2_solve_38 (lv_at hl 0 rfl) ?_
      refine lv_lmul hx hb dX2_solve_40 ?_
      refine lv_aload_n hx hb dX2_solve_41 rfl (lv_at hl 1 rfl) ?_
      refine va_get (ci := 2) (v := .ref (A 64)) (C := RX2) (T := TX2) (N := 3) hx hb hts k0 hown hK hP 9 (aC9 Y A S) rfl 0 (by decide) k1 (fun _ h9 => h9) rfl dX2_solve_42 ?_
      refine lv_iload hx hb dX2_solve_45 (lv_at hl 7 rfl) ?_
      refine va_iald hx hb hK hP 64 0 (aC64 Y A S) rfl v_2 dX2_solve_47 ?_
      refine lv_i2l hx hb dX2_solve_48 rfl ?_
      refine lv_lload hx hb dX2_solve_49 (lv_at hl 4 rfl) ?_
      refine lv_lmul hx hb dX2_solve_51 ?_
      refine lv_ladd hx hb dX2_solve_52 ?_
      refine lv_topl (fun x4 ex4 => ?_)
      have h := h x4 ex4
      refine lv_lstore (lv' := [(6, .long x4), (11, .long x3), (0, .ref (A 9)), (2, .int a2), (3, .int a3), (4, .long v4), (8, .long v8), (10, .int v10)]) hx hb dX2_solve_53 hl (by decide) rfl (fun ls hl => ?_)
      refine lv_lload hx hb dX2_solve_55 (lv_at hl 6 rfl) ?_
      refine lv_lload hx hb dX2_solve_57 (lv_at hl 1 rfl) ?_
      refine lv_lmul hx hb dX2_solve_59 ?_
      refine lv_lload hx hb dX2_solve_60 (lv_at hl 5 rfl) ?_
      refine lv_ladd hx hb dX2_solve_62 ?_
      refine lv_topl (fun x5 ex5 => ?_)
      have h := h x5 ex5
      refine lv_lstore (lv' := [(8, .long x5), (6, .long x4), (11, .long x3), (0, .ref (A 9)), (2, .int a2), (3, .int a3), (4, .long v4), (10, .int v10)]) hx hb dX2_solve_63 hl (by decide) rfl (fun ls hl => ?_)
      refine lv_lload hx hb dX2_solve_65 (lv_at hl 6 rfl) ?_
      refine lv_lload hx hb dX2_solve_67 (lv_at hl 2 rfl) ?_
      refine lv_lmul hx hb dX2_solve_69 ?_
      refine lv_topl (fun x6 ex6 => ?_)
      have h := h x6 ex6
      refine lv_lstore (lv' := [(4, .long x6), (8, .long x5), (6, .long x4), (11, .long x3), (0, .ref (A 9)), (2, .int a2), (3, .int a3), (10, .int v10)]) hx hb dX2_solve_70 hl (by decide) rfl (fun ls hl => ?_)
      refine lv_aload_n hx hb dX2_solve_72 rfl (lv_at hl 4 rfl) ?_
      refine lv_lload hx hb dX2_solve_73 (lv_at hl 2 rfl) ?_
      refine lv_iload_n hx hb dX2_solve_75 rfl (lv_at hl 5 rfl) ?_
      refine lv_i2l hx hb dX2_solve_76 rfl ?_
      refine lv_lload hx hb dX2_solve_77 (lv_at hl 0 rfl) ?_
      refine lv_lmul hx hb dX2_solve_79 ?_
      refine lv_lsub hx hb dX2_solve_80 ?_
      obtain ⟨S7, eS7⟩ : ∃ z : gS, z = sL S 0 (x4 - (a2.toInt64 * x6)) := ⟨_, rfl⟩
      have h := h S7 eS7
      refine va_put (ci := 2) (v := .long (x4 - (a2.toInt64 * x6))) (ty := .long) (C := RX2) (T := TX2) (N := 3) hx hb hts k0 tyX2 tyX2_ok nmX2 hown hK hP (hD S) hS 9 (aC9 Y A S) rfl 1 (by decide) k2 (fun _ h9 => h9) rfl rfl rfl rfl (by simp) dX2_solve_81 (fun H locs hP _ hS => ?_)
      have hP := pC9_1 eS7 hP
      refine lv_aload_n hx hb dX2_solve_84 rfl (lv_at hl 4 rfl) ?_
      refine lv_lload hx hb dX2_solve_85 (lv_at hl 1 rfl) ?_
      obtain ⟨S8, eS8⟩ : ∃ z : gS, z = sL S7 1 x5 := ⟨_, rfl⟩
      have h := h S8 eS8
      refine va_put (ci := 2) (v := .long x5) (ty := .long) (C := RX2) (T := TX2) (N := 3) hx hb hts k0 tyX2 tyX2_ok nmX2 hown hK hP (hD S7) hS 9 (aC9 Y A S7) rfl 2 (by decide) k3 (fun _ h9 => h9) rfl rfl rfl rfl (by simp) dX2_solve_87 (fun H locs hP _ hS => ?_)
      have hP := pC9_2 eS8 hP
      refine lv_iload hx hb dX2_solve_90 (lv_at hl 7 rfl) ?_
      refine lv_iconst (v := (1 : Int32)) hx hb dX2_solve_92 (by decide) ?_
      refine lv_iadd hx hb dX2_solve_93 ?_
      refine lv_bipush (v := (6 : Int32)) hx hb dX2_solve_94 (by decide) ?_
      refine lv_icmp_ge (tgt := 123) hx hb dX2_solve_96 (by decide) (fun c9 => ?_) (fun c9 => ?_)
      · have h := h.1 c9
        obtain ⟨x10, ex10⟩ : ∃ z : Int32, z = v10 + (1 : Int32) := ⟨_, rfl⟩
        have h := h x10 ex10
        refine lv_iinc (v := x10) (lv' := [(10, .int x10), (4, .long x6), (8, .long x5), (6, .long x4), (11, .long x3), (0, .ref (A 9)), (2, .int a2), (3, .int a3)]) hx hb dX2_solve_123 hl (k := 7) rfl (by rw [ex10]; rfl) (by decide) rfl (fun ls hl => ?_)
        refine lv_goto (tgt := 17) hx hb dX2_solve_126 (by decide) ?_
        exact ih17 x6 x4 x5 x10 S8 h _ _ _ hP hS (lv_sub hl [5, 6, 7, 1, 3, 2, 0] rfl)
      · have h := h.2 c9
        refine lv_aload_n hx hb dX2_solve_99 rfl (lv_at hl 4 rfl) ?_
        refine va_get (ci := 2) (v := .long (gl S8 0)) (C := RX2) (T := TX2) (N := 3) hx hb hts k0 hown hK hP 9 (aC9 Y A S8) rfl 1 (by decide) k2 (fun _ h9 => h9) rfl dX2_solve_100 ?_
        refine lv_aload_n hx hb dX2_solve_103 rfl (lv_at hl 4 rfl) ?_
        refine va_get (ci := 2) (v := .ref (A 64)) (C := RX2) (T := TX2) (N := 3) hx hb hts k0 hown hK hP 9 (aC9 Y A S8) rfl 0 (by decide) k1 (fun _ h9 => h9) rfl dX2_solve_104 ?_
        refine lv_iload hx hb dX2_solve_107 (lv_at hl 7 rfl) ?_
        refine lv_iconst (v := (1 : Int32)) hx hb dX2_solve_109 (by decide) ?_
        refine lv_iadd hx hb dX2_solve_110 ?_
        have v_11 := h.1
        have h := h.2
        refine va_iald hx hb hK hP 64 0 (aC64 Y A S8) rfl v_11 dX2_solve_111 ?_
        refine lv_i2l hx hb dX2_solve_112 rfl ?_
        refine lv_aload_n hx hb dX2_solve_113 rfl (lv_at hl 4 rfl) ?_
        refine va_get (ci := 2) (v := .long (gl S8 1)) (C := RX2) (T := TX2) (N := 3) hx hb hts k0 hown hK hP 9 (aC9 Y A S8) rfl 2 (by decide) k3 (fun _ h9 => h9) rfl dX2_solve_114 ?_
        refine lv_lmul hx hb dX2_solve_117 ?_
        refine W.lcmp hx hb dX2_solve_118 ?_
        refine lv_if_lt (tgt := 123) hx hb dX2_solve_119 (by decide) (fun c12 => ?_) (fun c12 => ?_)
        · have h := h.1 c12
          obtain ⟨x13, ex13⟩ : ∃ z : Int32, z = v10 + (1 : Int32) := ⟨_, rfl⟩
          have h := h x13 ex13
          refine lv_iinc (v := x13) (lv' := [(10, .int x13), (4, .long x6), (8, .long x5), (6, .long x4), (11, .long x3), (0, .ref (A 9)), (2, .int a2), (3, .int a3)]) hx hb dX2_solve_123 hl (k := 7) rfl (by rw [ex13]; rfl) (by decide) rfl (fun ls hl => ?_)
          refine lv_goto (tgt := 17) hx hb dX2_solve_126 (by decide) ?_
          exact ih17 x6 x4 x5 x13 S8 h _ _ _ hP hS (lv_sub hl [5, 6, 7, 1, 3, 2, 0] rfl)
        · have h := h.2 c12
          exact hret _ _ _ _ _ dX2_solve_122 h hP hS
  refine lv_aload_n hx hb dX2_solve_0 rfl (lv_at hl 0 rfl) ?_
  refine lv_aload_n hx hb dX2_solve_1 rfl (lv_at hl 1 rfl) ?_
  refine gVv (As := [.ref (A 19)]) (rest := []) ⟨hx, hb, hml, hown, hts⟩ (kX2_sortDown l D Y A hI H.size S  _ h) (cwV 1 hts gX2_solve_X2_sortDown rfl rfl rfl (by decide +kernel) ⟨Nat.le_of_ble_eq_true rfl, Nat.le_of_ble_eq_true rfl⟩) hK hP hS (gF_le hS.1) (aC9 Y A S) (show vwCl[2]? = some (RX2, TX2, 3) from rfl) rfl rfl hl.1 (Nat.le_of_ble_eq_true rfl) dX2_solve_2 ⟨Nat.zero_le _, Nat.zero_le _⟩ ?_
  intro S14 H locs h hP hS
  refine lv_lconst (v := (1 : Int64)) hx hb dX2_solve_5 (by decide) ?_
  refine lv_lstore (lv' := [(4, .long (1 : Int64)), (0, .ref (A 9)), (1, .ref (A 19)), (2, .int a2), (3, .int a3)]) hx hb dX2_solve_6 hl (by decide) rfl (fun ls hl => ?_)
  refine lv_lconst (v := (0 : Int64)) hx hb dX2_solve_8 (by decide) ?_
  refine lv_lstore (lv' := [(6, .long (0 : Int64)), (4, .long (1 : Int64)), (0, .ref (A 9)), (1, .ref (A 19)), (2, .int a2), (3, .int a3)]) hx hb dX2_solve_9 hl (by decide) rfl (fun ls hl => ?_)
  refine lv_lconst (v := (0 : Int64)) hx hb dX2_solve_11 (by decide) ?_
  refine lv_lstore (lv' := [(8, .long (0 : Int64)), (6, .long (0 : Int64)), (4, .long (1 : Int64)), (0, .ref (A 9)), (1, .ref (A 19)), (2, .int a2), (3, .int a3)]) hx hb dX2_solve_12 hl (by decide) rfl (fun ls hl => ?_)
  refine lv_iconst (v := (0 : Int32)) hx hb dX2_solve_14 (by decide) ?_
  refine lv_istore (lv' := [(10, .int (0 : Int32)), (8, .long (0 : Int64)), (6, .long (0 : Int64)), (4, .long (1 : Int64)), (0, .ref (A 9)), (1, .ref (A 19)), (2, .int a2), (3, .int a3)]) hx hb dX2_solve_15 hl (by decide) rfl (fun ls hl => ?_)
  exact tL17  (1 : Int64) (0 : Int64) (0 : Int64) (0 : Int32) S14 h _ _ _ hP hS (lv_sub hl [4, 6, 7, 3, 2, 1, 0] rfl)

def qX3_add (S : gS) (a1 : Int32) (a2 : Int32) (a3 : Int32) (Q : Int32 → gS → Prop) : Prop :=
  ∀ x1 : Int32, x1 = (gi S 5) → ((x1 < (12 : Int32) → (vp_in x1 12 ∧ (∀ S3 : gS, S3 = sA S 29 (upd (ga S 29) x1.toNatClampNeg a1) → (∀ S5 : gS, S5 = sA S3 30 (upd (ga S3 30) x1.toNatClampNeg a2) → (∀ S6 : gS, S6 = sA S5 31 (upd (ga S5 31) x1.toNatClampNeg a3) → (∀ S7 : gS, S7 = sI S6 5 (x1 + (1 : Int32)) → (Q x1 S7))))))) ∧ (¬ x1 < (12 : Int32) → (Q (-1 : Int32) S)))
abbrev rmX3_add : Room := { frames := 0, cells := 0, slots := 0, locals := 0 }
set_option maxHeartbeats 4000000 in
set_option maxRecDepth 100000 in
theorem kX3_add (l : Launch) (D : va_G) (Y : Nat → ClassId) (A : Nat → Nat) (hI : iC A) (sz : Nat) (S : gS) (a1 : Int32) (a2 : Int32) (a3 : Int32) (Q : Int32 → gS → Prop) (h : qX3_add S a1 a2 a3 Q) : Met l yX3_add wsX3_add rmX3_add (gPc [.ref (A 4), .int a1, .int a2, .int a3] sz D vwCl (tY Y) (wC Y A S)) (va_Qi Q (fun S' t => gH D vwCl (tY Y) (wC Y A S') t) (gF A 65 sz)) 0 0 (gF A 65 sz) := by
  refine gMet_i (cc := cX3_add) (maxL := 5) (by decide +kernel) rfl (Nat.le_of_ble_eq_true rfl) (fun p e s m args below meth c Z H locs hx hb hml hts hown hK hP hS hret ls hl => ?_)
  have hown : s.vm.findClass RX3 = some m.cls := hown
  have hl : lv_has ls 5 [(0, .ref (A 4)), (1, .int a1), (2, .int a2), (3, .int a3)] := hl
  have hD : ∀ S0 : gS, va_D (gF A 65 s.heap.size) (wC Y A S0) := fun S0 => dC hI S0 (fun k hk => gF_in hk)
  have k0 : ∀ w ∈ u_ws RX3 TX3 7, w ∈ wsX3_add := by decide +kernel
  have k1 := hts (.fieldLink RX3 11 "CoastWatch$Hides" "size" "I") (by decide +kernel)
  have k2 := hts (.fieldLink RX3 15 "CoastWatch$Hides" "cove" "[I") (by decide +kernel)
  have k3 := hts (.fieldLink RX3 19 "CoastWatch$Hides" "room" "[I") (by decide +kernel)
  have k4 := hts (.fieldLink RX3 22 "CoastWatch$Hides" "cost" "[I") (by decide +kernel)
  refine lv_aload_n hx hb dX3_add_0 rfl (lv_at hl 0 rfl) ?_
  refine va_get (ci := 3) (v := .int (gi S 5)) (C := RX3) (T := TX3) (N := 7) hx hb hts k0 hown hK hP 4 (aC4 Y A S) rfl 0 (by decide) k1 (fun _ h9 => h9) rfl dX3_add_1 ?_
  refine lv_topi (fun x1 ex1 => ?_)
  have h := h x1 ex1
  refine lv_istore (lv' := [(4, .int x1), (0, .ref (A 4)), (1, .int a1), (2, .int a2), (3, .int a3)]) hx hb dX3_add_4 hl (by decide) rfl (fun ls hl => ?_)
  refine lv_iload hx hb dX3_add_6 (lv_at hl 0 rfl) ?_
  refine lv_bipush (v := (12 : Int32)) hx hb dX3_add_8 (by decide) ?_
  refine lv_icmp_lt (tgt := 15) hx hb dX3_add_10 (by decide) (fun c2 => ?_) (fun c2 => ?_)
  · have h := h.1 c2
    refine lv_aload_n hx hb dX3_add_15 rfl (lv_at hl 1 rfl) ?_
    refine va_get (ci := 3) (v := .ref (A 41)) (C := RX3) (T := TX3) (N := 7) hx hb hts k0 hown hK hP 4 (aC4 Y A S) rfl 1 (by decide) k2 (fun _ h9 => h9) rfl dX3_add_16 ?_
    refine lv_iload hx hb dX3_add_19 (lv_at hl 0 rfl) ?_
    refine lv_iload_n hx hb dX3_add_21 rfl (lv_at hl 2 rfl) ?_
    have v_4 := h.1
    have h := h.2
    obtain ⟨S3, eS3⟩ : ∃ z : gS, z = sA S 29 (upd (ga S 29) x1.toNatClampNeg a1) := ⟨_, rfl⟩
    refine va_iast hx hb hK hP (hD S) hS 41 0 (aC41 Y A S) rfl v_4 dX3_add_22 (fun H locs hP _ hS => ?_)
    have hP := uC41 eS3 hP
    have h := h S3 eS3
    refine lv_aload_n hx hb dX3_add_23 rfl (lv_at hl 1 rfl) ?_
    refine va_get (ci := 3) (v := .ref (A 42)) (C := RX3) (T := TX3) (N := 7) hx hb hts k0 hown hK hP 4 (aC4 Y A S3) rfl 2 (by decide) k3 (fun _ h9 => h9) rfl dX3_add_24 ?_
    refine lv_iload hx hb dX3_add_27 (lv_at hl 0 rfl) ?_
    refine lv_iload_n hx hb dX3_add_29 rfl (lv_at hl 3 rfl) ?_
    obtain ⟨S5, eS5⟩ : ∃ z : gS, z = sA S3 30 (upd (ga S3 30) x1.toNatClampNeg a2) := ⟨_, rfl⟩
    refine va_iast hx hb hK hP (hD S3) hS 42 0 (aC42 Y A S3) rfl v_4 dX3_add_30 (fun H locs hP _ hS => ?_)
    have hP := uC42 eS5 hP
    have h := h S5 eS5
    refine lv_aload_n hx hb dX3_add_31 rfl (lv_at hl 1 rfl) ?_
    refine va_get (ci := 3) (v := .ref (A 43)) (C := RX3) (T := TX3) (N := 7) hx hb hts k0 hown hK hP 4 (aC4 Y A S5) rfl 3 (by decide) k4 (fun _ h9 => h9) rfl dX3_add_32 ?_
    refine lv_iload hx hb dX3_add_35 (lv_at hl 0 rfl) ?_
    refine lv_iload_n hx hb dX3_add_37 rfl (lv_at hl 4 rfl) ?_
    obtain ⟨S6, eS6⟩ : ∃ z : gS, z = sA S5 31 (upd (ga S5 31) x1.toNatClampNeg a3) := ⟨_, rfl⟩
    refine va_iast hx hb hK hP (hD S5) hS 43 0 (aC43 Y A S5) rfl v_4 dX3_add_38 (fun H locs hP _ hS => ?_)
    have hP := uC43 eS6 hP
    have h := h S6 eS6
    refine lv_aload_n hx hb dX3_add_39 rfl (lv_at hl 1 rfl) ?_
    refine lv_iload hx hb dX3_add_40 (lv_at hl 0 rfl) ?_
    refine lv_iconst (v := (1 : Int32)) hx hb dX3_add_42 (by decide) ?_
    refine lv_iadd hx hb dX3_add_43 ?_
    obtain ⟨S7, eS7⟩ : ∃ z : gS, z = sI S6 5 (x1 + (1 : Int32)) := ⟨_, rfl⟩
    have h := h S7 eS7
    refine va_put (ci := 3) (v := .int (x1 + (1 : Int32))) (ty := .int) (C := RX3) (T := TX3) (N := 7) hx hb hts k0 tyX3 tyX3_ok nmX3 hown hK hP (hD S6) hS 4 (aC4 Y A S6) rfl 0 (by decide) k1 (fun _ h9 => h9) rfl rfl rfl rfl (by simp) dX3_add_44 (fun H locs hP _ hS => ?_)
    have hP := pC4_0 eS7 hP
    refine lv_iload hx hb dX3_add_47 (lv_at hl 0 rfl) ?_
    exact hret _ _ _ _ _ _ dX3_add_49 h hP hS
  · have h := h.2 c2
    refine lv_iconst (v := (-1 : Int32)) hx hb dX3_add_13 (by decide) ?_
    exact hret _ _ _ _ _ _ dX3_add_14 h hP hS

def qX3_firstWithRoom_L2 (a1 : Int32) (a2 : Int32) (Q : Int32 → gS → Prop) (K2 : Int32 × gS → Prop) : Int32 × gS → Prop := fun ⟨v3, S⟩ =>
  ((gi S 5) ≤ v3 → (Q (-1 : Int32) S)) ∧ (¬ (gi S 5) ≤ v3 → (vp_in v3 12 ∧ (((ga S 29 v3.toNatClampNeg) = a1 → ((((ga S 30 v3.toNatClampNeg) - (ga S 33 v3.toNatClampNeg)) < a2 → (∀ x6 : Int32, x6 = v3 + (1 : Int32) → (K2 (x6, S)))) ∧ (¬ ((ga S 30 v3.toNatClampNeg) - (ga S 33 v3.toNatClampNeg)) < a2 → (Q v3 S)))) ∧ (¬ (ga S 29 v3.toNatClampNeg) = a1 → (∀ x4 : Int32, x4 = v3 + (1 : Int32) → (K2 (x4, S)))))))
def qX3_firstWithRoom (S : gS) (a1 : Int32) (a2 : Int32) (Q : Int32 → gS → Prop) : Prop :=
  lp (qX3_firstWithRoom_L2 a1 a2 Q) ((0 : Int32), S)
abbrev rmX3_firstWithRoom : Room := { frames := 0, cells := 0, slots := 0, locals := 0 }
set_option maxHeartbeats 4000000 in
set_option maxRecDepth 100000 in
theorem kX3_firstWithRoom (l : Launch) (D : va_G) (Y : Nat → ClassId) (A : Nat → Nat) (hI : iC A) (sz : Nat) (S : gS) (a1 : Int32) (a2 : Int32) (Q : Int32 → gS → Prop) (h : qX3_firstWithRoom S a1 a2 Q) : Met l yX3_firstWithRoom wsX3_firstWithRoom rmX3_firstWithRoom (gPc [.ref (A 4), .int a1, .int a2] sz D vwCl (tY Y) (wC Y A S)) (va_Qi Q (fun S' t => gH D vwCl (tY Y) (wC Y A S') t) (gF A 65 sz)) 0 0 (gF A 65 sz) := by
  refine gMet_i (cc := cX3_firstWithRoom) (maxL := 4) (by decide +kernel) rfl (Nat.le_of_ble_eq_true rfl) (fun p e s m args below meth c Z H locs hx hb hml hts hown hK hP hS hret ls hl => ?_)
  have hown : s.vm.findClass RX3 = some m.cls := hown
  have hl : lv_has ls 4 [(0, .ref (A 4)), (1, .int a1), (2, .int a2)] := hl
  have hD : ∀ S0 : gS, va_D (gF A 65 s.heap.size) (wC Y A S0) := fun S0 => dC hI S0 (fun k hk => gF_in hk)
  have k0 : ∀ w ∈ u_ws RX3 TX3 7, w ∈ wsX3_firstWithRoom := by decide +kernel
  have k1 := hts (.fieldLink RX3 11 "CoastWatch$Hides" "size" "I") (by decide +kernel)
  have k2 := hts (.fieldLink RX3 15 "CoastWatch$Hides" "cove" "[I") (by decide +kernel)
  have k3 := hts (.fieldLink RX3 19 "CoastWatch$Hides" "room" "[I") (by decide +kernel)
  have k4 := hts (.fieldLink RX3 28 "CoastWatch$Hides" "lying" "[I") (by decide +kernel)
  have tL2 : ∀ (v3 : Int32) (S : gS), lp (qX3_firstWithRoom_L2 a1 a2 Q) (v3, S) → ∀ (H : Heap) (locs : List Loc) (ls : Array Slot), va_P D vwCl (wC Y A S) H → va_S (gF A 65 s.heap.size) s.heap H locs → lv_has ls 4 [(0, .ref (A 4)), (1, .int a1), (2, .int a2), (3, .int v3)] → W p l e rmX3_firstWithRoom s m args below meth c H locs 0 0 Z (F0 m 2 ls []) := by
    intro  v3 S h
    refine lp_walk (G := fun a => match a with | (v3, S) => ∀ (H : Heap) (locs : List Loc) (ls : Array Slot), va_P D vwCl (wC Y A S) H → va_S (gF A 65 s.heap.size) s.heap H locs → lv_has ls 4 [(0, .ref (A 4)), (1, .int a1), (2, .int a2), (3, .int v3)] → W p l e rmX3_firstWithRoom s m args below meth c H locs 0 0 Z (F0 m 2 ls [])) (fun K2 a ih2 h => ?_) (v3, S) h
    obtain ⟨v3, S⟩ := a
    have ih2 : ∀ (v3 : Int32) (S : gS), K2 (v3, S) → ∀ (H : Heap) (locs : List Loc) (ls : Array Slot), va_P D vwCl (wC Y A S) H → va_S (gF A 65 s.heap.size) s.heap H locs → lv_has ls 4 [(0, .ref (A 4)), (1, .int a1), (2, .int a2), (3, .int v3)] → W p l e rmX3_firstWithRoom s m args below meth c H locs 0 0 Z (F0 m 2 ls []) := fun v3 S q => ih2 (v3, S) q
    intro H locs ls hP hS hl
    refine lv_iload_n hx hb dX3_firstWithRoom_2 rfl (lv_at hl 3 rfl) ?_
    refine lv_aload_n hx hb dX3_firstWithRoom_3 rfl (lv_at hl 0 rfl) ?_
    refine va_get (ci := 3) (v := .int (gi S 5)) (C := RX3) (T := TX3) (N := 7) hx hb hts k0 hown hK hP 4 (aC4 Y A S) rfl 0 (by decide) k1 (fun _ h9 => h9) rfl dX3_firstWithRoom_4 ?_
    refine lv_icmp_ge (tgt := 45) hx hb dX3_firstWithRoom_7 (by decide) (fun c1 => ?_) (fun c1 => ?_)
    · have h := h.1 c1
      refine lv_iconst (v := (-1 : Int32)) hx hb dX3_firstWithRoom_45 (by decide) ?_
      exact hret _ _ _ _ _ _ dX3_firstWithRoom_46 h hP hS
    · have h := h.2 c1
      refine lv_aload_n hx hb dX3_firstWithRoom_10 rfl (lv_at hl 0 rfl) ?_
      refine va_get (ci := 3) (v := .ref (A 41)) (C := RX3) (T := TX3) (N := 7) hx hb hts k0 hown hK hP 4 (aC4 Y A S) rfl 1 (by decide) k2 (fun _ h9 => h9) rfl dX3_firstWithRoom_11 ?_
      refine lv_iload_n hx hb dX3_firstWithRoom_14 rfl (lv_at hl 3 rfl) ?_
      have v_2 := h.1
      have h := h.2
      refine va_iald hx hb hK hP 41 0 (aC41 Y A S) rfl v_2 dX3_firstWithRoom_15 ?_
      refine lv_iload_n hx hb dX3_firstWithRoom_16 rfl (lv_at hl 1 rfl) ?_
      refine lv_icmp_ne (tgt := 39) hx hb dX3_firstWithRoom_17 (by decide) (fun c3 => ?_) (fun c3 => ?_)
      · have h := h.2 c3
        obtain ⟨x4, ex4⟩ : ∃ z : Int32, z = v3 + (1 : Int32) := ⟨_, rfl⟩
        have h := h x4 ex4
        refine lv_iinc (v := x4) (lv' := [(3, .int x4), (0, .ref (A 4)), (1, .int a1), (2, .int a2)]) hx hb dX3_firstWithRoom_39 hl (k := 3) rfl (by rw [ex4]; rfl) (by decide) rfl (fun ls hl => ?_)
        refine lv_goto (tgt := 2) hx hb dX3_firstWithRoom_42 (by decide) ?_
        exact ih2 x4 S h _ _ _ hP hS (lv_sub hl [1, 2, 3, 0] rfl)
      · have h := h.1 c3
        refine lv_iload_n hx hb dX3_firstWithRoom_20 rfl (lv_at hl 2 rfl) ?_
        refine lv_aload_n hx hb dX3_firstWithRoom_21 rfl (lv_at hl 0 rfl) ?_
        refine va_get (ci := 3) (v := .ref (A 42)) (C := RX3) (T := TX3) (N := 7) hx hb hts k0 hown hK hP 4 (aC4 Y A S) rfl 2 (by decide) k3 (fun _ h9 => h9) rfl dX3_firstWithRoom_22 ?_
        refine lv_iload_n hx hb dX3_firstWithRoom_25 rfl (lv_at hl 3 rfl) ?_
        refine va_iald hx hb hK hP 42 0 (aC42 Y A S) rfl v_2 dX3_firstWithRoom_26 ?_
        refine lv_aload_n hx hb dX3_firstWithRoom_27 rfl (lv_at hl 0 rfl) ?_
        refine va_get (ci := 3) (v := .ref (A 45)) (C := RX3) (T := TX3) (N := 7) hx hb hts k0 hown hK hP 4 (aC4 Y A S) rfl 5 (by decide) k4 (fun _ h9 => h9) rfl dX3_firstWithRoom_28 ?_
        refine lv_iload_n hx hb dX3_firstWithRoom_31 rfl (lv_at hl 3 rfl) ?_
        refine va_iald hx hb hK hP 45 0 (aC45 Y A S) rfl v_2 dX3_firstWithRoom_32 ?_
        refine lv_isub hx hb dX3_firstWithRoom_33 ?_
        refine lv_icmp_gt (tgt := 39) hx hb dX3_firstWithRoom_34 (by decide) (fun c5 => ?_) (fun c5 => ?_)
        · have h := h.1 c5
          obtain ⟨x6, ex6⟩ : ∃ z : Int32, z = v3 + (1 : Int32) := ⟨_, rfl⟩
          have h := h x6 ex6
          refine lv_iinc (v := x6) (lv' := [(3, .int x6), (0, .ref (A 4)), (1, .int a1), (2, .int a2)]) hx hb dX3_firstWithRoom_39 hl (k := 3) rfl (by rw [ex6]; rfl) (by decide) rfl (fun ls hl => ?_)
          refine lv_goto (tgt := 2) hx hb dX3_firstWithRoom_42 (by decide) ?_
          exact ih2 x6 S h _ _ _ hP hS (lv_sub hl [1, 2, 3, 0] rfl)
        · have h := h.2 c5
          refine lv_iload_n hx hb dX3_firstWithRoom_37 rfl (lv_at hl 3 rfl) ?_
          exact hret _ _ _ _ _ _ dX3_firstWithRoom_38 h hP hS
  refine lv_iconst (v := (0 : Int32)) hx hb dX3_firstWithRoom_0 (by decide) ?_
  refine lv_istore_n (lv' := [(3, .int (0 : Int32)), (0, .ref (A 4)), (1, .int a1), (2, .int a2)]) hx hb dX3_firstWithRoom_1 rfl hl (by decide) rfl (fun ls hl => ?_)
  exact tL2  (0 : Int32) S h _ _ _ hP hS (lv_sub hl [1, 2, 3, 0] rfl)

def qX3_suspect_L2 (a1 : Int32) (Q : gS → Prop) (K2 : Int32 × gS → Prop) : Int32 × gS → Prop := fun ⟨v2, S⟩ =>
  ((gi S 5) ≤ v2 → (Q S)) ∧ (¬ (gi S 5) ≤ v2 → (vp_in v2 12 ∧ (((ga S 29 v2.toNatClampNeg) = a1 → (∀ S5 : gS, S5 = sA S 32 (upd (ga S 32) v2.toNatClampNeg (if ((ga S 32 v2.toNatClampNeg) + (10 : Int32)) < (999 : Int32) then ((ga S 32 v2.toNatClampNeg) + (10 : Int32)) else (999 : Int32))) → (∀ x6 : Int32, x6 = v2 + (1 : Int32) → (K2 (x6, S5))))) ∧ (¬ (ga S 29 v2.toNatClampNeg) = a1 → (∀ x4 : Int32, x4 = v2 + (1 : Int32) → (K2 (x4, S)))))))
def qX3_suspect (S : gS) (a1 : Int32) (Q : gS → Prop) : Prop :=
  lp (qX3_suspect_L2 a1 Q) ((0 : Int32), S)
abbrev rmX3_suspect : Room := { frames := 1, cells := 0, slots := 0, locals := 15 }
set_option maxHeartbeats 4000000 in
set_option maxRecDepth 100000 in
theorem kX3_suspect (l : Launch) (D : va_G) (Y : Nat → ClassId) (A : Nat → Nat) (hI : iC A) (sz : Nat) (S : gS) (a1 : Int32) (Q : gS → Prop) (h : qX3_suspect S a1 Q) : Met l yX3_suspect wsX3_suspect rmX3_suspect (gPc [.ref (A 4), .int a1] sz D vwCl (tY Y) (wC Y A S)) (va_Qv Q (fun S' t => gH D vwCl (tY Y) (wC Y A S') t) (gF A 65 sz)) 0 0 (gF A 65 sz) := by
  refine gMet_v (cc := cX3_suspect) (maxL := 3) (by decide +kernel) rfl (Nat.le_of_ble_eq_true rfl) (fun p e s m args below meth c Z H locs hx hb hml hts hown hK hP hS hret ls hl => ?_)
  have hown : s.vm.findClass RX3 = some m.cls := hown
  have hl : lv_has ls 3 [(0, .ref (A 4)), (1, .int a1)] := hl
  have hD : ∀ S0 : gS, va_D (gF A 65 s.heap.size) (wC Y A S0) := fun S0 => dC hI S0 (fun k hk => gF_in hk)
  have k0 : ∀ w ∈ u_ws RX3 TX3 7, w ∈ wsX3_suspect := by decide +kernel
  have k1 := hts (.fieldLink RX3 11 "CoastWatch$Hides" "size" "I") (by decide +kernel)
  have k2 := hts (.fieldLink RX3 15 "CoastWatch$Hides" "cove" "[I") (by decide +kernel)
  have k3 := hts (.fieldLink RX3 25 "CoastWatch$Hides" "guess" "[I") (by decide +kernel)
  have k4 := hts (.methodLink RX3 35 Lib.Math.min.name) (by decide +kernel)
  have k5 := hts (.static Lib.Math.min.name) (by decide +kernel)
  have k6 := hts (.initialized "java/lang/Math") (by decide +kernel)
  have k7 := hts (.code Lib.Math.min.name Lib.Math.min.code 2 (some .int)) (by decide +kernel)
  have tL2 : ∀ (v2 : Int32) (S : gS), lp (qX3_suspect_L2 a1 Q) (v2, S) → ∀ (H : Heap) (locs : List Loc) (ls : Array Slot), va_P D vwCl (wC Y A S) H → va_S (gF A 65 s.heap.size) s.heap H locs → lv_has ls 3 [(0, .ref (A 4)), (1, .int a1), (2, .int v2)] → W p l e rmX3_suspect s m args below meth c H locs 0 0 Z (F0 m 2 ls []) := by
    intro  v2 S h
    refine lp_walk (G := fun a => match a with | (v2, S) => ∀ (H : Heap) (locs : List Loc) (ls : Array Slot), va_P D vwCl (wC Y A S) H → va_S (gF A 65 s.heap.size) s.heap H locs → lv_has ls 3 [(0, .ref (A 4)), (1, .int a1), (2, .int v2)] → W p l e rmX3_suspect s m args below meth c H locs 0 0 Z (F0 m 2 ls [])) (fun K2 a ih2 h => ?_) (v2, S) h
    obtain ⟨v2, S⟩ := a
    have ih2 : ∀ (v2 : Int32) (S : gS), K2 (v2, S) → ∀ (H : Heap) (locs : List Loc) (ls : Array Slot), va_P D vwCl (wC Y A S) H → va_S (gF A 65 s.heap.size) s.heap H locs → lv_has ls 3 [(0, .ref (A 4)), (1, .int a1), (2, .int v2)] → W p l e rmX3_suspect s m args below meth c H locs 0 0 Z (F0 m 2 ls []) := fun v2 S q => ih2 (v2, S) q
    intro H locs ls hP hS hl
    refine lv_iload_n hx hb dX3_suspect_2 rfl (lv_at hl 2 rfl) ?_
    refine lv_aload_n hx hb dX3_suspect_3 rfl (lv_at hl 0 rfl) ?_
    refine va_get (ci := 3) (v := .int (gi S 5)) (C := RX3) (T := TX3) (N := 7) hx hb hts k0 hown hK hP 4 (aC4 Y A S) rfl 0 (by decide) k1 (fun _ h9 => h9) rfl dX3_suspect_4 ?_
    refine lv_icmp_ge (tgt := 47) hx hb dX3_suspect_7 (by decide) (fun c1 => ?_) (fun c1 => ?_)
    · have h := h.1 c1
      exact hret _ _ _ _ _ dX3_suspect_47 h hP hS
    · have h := h.2 c1
      refine lv_aload_n hx hb dX3_suspect_10 rfl (lv_at hl 0 rfl) ?_
      refine va_get (ci := 3) (v := .ref (A 41)) (C := RX3) (T := TX3) (N := 7) hx hb hts k0 hown hK hP 4 (aC4 Y A S) rfl 1 (by decide) k2 (fun _ h9 => h9) rfl dX3_suspect_11 ?_
      refine lv_iload_n hx hb dX3_suspect_14 rfl (lv_at hl 2 rfl) ?_
      have v_2 := h.1
      have h := h.2
      refine va_iald hx hb hK hP 41 0 (aC41 Y A S) rfl v_2 dX3_suspect_15 ?_
      refine lv_iload_n hx hb dX3_suspect_16 rfl (lv_at hl 1 rfl) ?_
      refine lv_icmp_ne (tgt := 41) hx hb dX3_suspect_17 (by decide) (fun c3 => ?_) (fun c3 => ?_)
      · have h := h.2 c3
        obtain ⟨x4, ex4⟩ : ∃ z : Int32, z = v2 + (1 : Int32) := ⟨_, rfl⟩
        have h := h x4 ex4
        refine lv_iinc (v := x4) (lv' := [(2, .int x4), (0, .ref (A 4)), (1, .int a1)]) hx hb dX3_suspect_41 hl (k := 2) rfl (by rw [ex4]; rfl) (by decide) rfl (fun ls hl => ?_)
        refine lv_goto (tgt := 2) hx hb dX3_suspect_44 (by decide) ?_
        exact ih2 x4 S h _ _ _ hP hS (lv_sub hl [1, 2, 0] rfl)
      · have h := h.1 c3
        refine lv_aload_n hx hb dX3_suspect_20 rfl (lv_at hl 0 rfl) ?_
        refine va_get (ci := 3) (v := .ref (A 44)) (C := RX3) (T := TX3) (N := 7) hx hb hts k0 hown hK hP 4 (aC4 Y A S) rfl 4 (by decide) k3 (fun _ h9 => h9) rfl dX3_suspect_21 ?_
        refine lv_iload_n hx hb dX3_suspect_24 rfl (lv_at hl 2 rfl) ?_
        refine lv_sipush (v := (999 : Int32)) hx hb dX3_suspect_25 (by decide) ?_
        refine lv_aload_n hx hb dX3_suspect_28 rfl (lv_at hl 0 rfl) ?_
        refine va_get (ci := 3) (v := .ref (A 44)) (C := RX3) (T := TX3) (N := 7) hx hb hts k0 hown hK hP 4 (aC4 Y A S) rfl 4 (by decide) k3 (fun _ h9 => h9) rfl dX3_suspect_29 ?_
        refine lv_iload_n hx hb dX3_suspect_32 rfl (lv_at hl 2 rfl) ?_
        refine va_iald hx hb hK hP 44 0 (aC44 Y A S) rfl v_2 dX3_suspect_33 ?_
        refine lv_bipush (v := (10 : Int32)) hx hb dX3_suspect_34 (by decide) ?_
        refine lv_iadd hx hb dX3_suspect_36 ?_
        refine va_mmin hx hb (hml.trans hl.1.symm) hown k4 k5 k6 k7 (Nat.le_of_ble_eq_true rfl) (Nat.le_of_ble_eq_true rfl) (Nat.zero_le _) (Nat.zero_le _) dX3_suspect_37 ?_
        obtain ⟨S5, eS5⟩ : ∃ z : gS, z = sA S 32 (upd (ga S 32) v2.toNatClampNeg (if ((ga S 32 v2.toNatClampNeg) + (10 : Int32)) < (999 : Int32) then ((ga S 32 v2.toNatClampNeg) + (10 : Int32)) else (999 : Int32))) := ⟨_, rfl⟩
        refine va_iast hx hb hK hP (hD S) hS 44 0 (aC44 Y A S) rfl v_2 dX3_suspect_40 (fun H locs hP _ hS => ?_)
        have hP := uC44 eS5 hP
        have h := h S5 eS5
        obtain ⟨x6, ex6⟩ : ∃ z : Int32, z = v2 + (1 : Int32) := ⟨_, rfl⟩
        have h := h x6 ex6
        refine lv_iinc (v := x6) (lv' := [(2, .int x6), (0, .ref (A 4)), (1, .int a1)]) hx hb dX3_suspect_41 hl (k := 2) rfl (by rw [ex6]; rfl) (by decide) rfl (fun ls hl => ?_)
        refine lv_goto (tgt := 2) hx hb dX3_suspect_44 (by decide) ?_
        exact ih2 x6 S5 h _ _ _ hP hS (lv_sub hl [1, 2, 0] rfl)
  refine lv_iconst (v := (0 : Int32)) hx hb dX3_suspect_0 (by decide) ?_
  refine lv_istore_n (lv' := [(2, .int (0 : Int32)), (0, .ref (A 4)), (1, .int a1)]) hx hb dX3_suspect_1 rfl hl (by decide) rfl (fun ls hl => ?_)
  exact tL2  (0 : Int32) S h _ _ _ hP hS (lv_sub hl [1, 2, 0] rfl)

def qX3_bestSet_L60 (a1 : Int32) (Q : Int32 → gS → Prop) (K29 : Int32 × Int32 × gS → Prop) (K60 : Int32 × Int32 × Int64 × Int32 × gS → Prop) : Int32 × Int32 × Int64 × Int32 × gS → Prop := fun ⟨v2, v3, v4, v6, S⟩ =>
  vp_in v3 12 ∧ ((v6 < (ga S 31 v3.toNatClampNeg) → (∀ x3 : Int32, x3 = v3 + (1 : Int32) → (K29 (v2, x3, S)))) ∧ (¬ v6 < (ga S 31 v3.toNatClampNeg) → (vp_in v6 101 ∧ (vp_in (v6 - (ga S 31 v3.toNatClampNeg)) 101 ∧ (∀ S6 : gS, S6 = sC S (vp_updL (gc S) v6.toNatClampNeg (if ((gc S (v6 - (ga S 31 v3.toNatClampNeg)).toNatClampNeg) + v4) < (gc S v6.toNatClampNeg) then (gc S v6.toNatClampNeg) else ((gc S (v6 - (ga S 31 v3.toNatClampNeg)).toNatClampNeg) + v4))) → (∀ x7 : Int32, x7 = v6 + (-1 : Int32) → (K60 (v2, v3, v4, x7, S6))))))))
def qX3_bestSet_L29 (a1 : Int32) (Q : Int32 → gS → Prop) (K29 : Int32 × Int32 × gS → Prop) : Int32 × Int32 × gS → Prop := fun ⟨v2, v3, S⟩ =>
  ((gi S 5) ≤ v3 → ((0 ≤ v2 → (vp_in v2 101 ∧ (Q (((-(gc S v2.toNatClampNeg)) &&& (8191 : Int64)).toInt32) S))) ∧ (¬ 0 ≤ v2 → (Q (0 : Int32) S)))) ∧ (¬ (gi S 5) ≤ v3 → (vp_in v3 12 ∧ (∀ x12 : Int64, x12 = ((((ga S 32 v3.toNatClampNeg).toInt64 <<< ((20 : Int32).toInt64 &&& 63)) - (8192 : Int64)) - ((1 : Int64) <<< (v3.toInt64 &&& 63))) → (lp (qX3_bestSet_L60 a1 Q K29) (v2, v3, x12, v2, S)))))
def qX3_bestSet_L9 (a1 : Int32) (Q : Int32 → gS → Prop) (K9 : Int32 × Int32 × gS → Prop) : Int32 × Int32 × gS → Prop := fun ⟨v2, v3, S⟩ =>
  (v2 < v3 → (lp (qX3_bestSet_L29 a1 Q) (v2, (0 : Int32), S))) ∧ (¬ v2 < v3 → (vp_in v3 101 ∧ (∀ S14 : gS, S14 = sC S (vp_updL (gc S) v3.toNatClampNeg (0 : Int64)) → (∀ x16 : Int32, x16 = v3 + (1 : Int32) → (K9 (v2, x16, S14))))))
def qX3_bestSet (S : gS) (a1 : Int32) (Q : Int32 → gS → Prop) : Prop :=
  ∀ x17 : Int32, x17 = (if (100 : Int32) < a1 then (100 : Int32) else a1) → (lp (qX3_bestSet_L9 a1 Q) (x17, (0 : Int32), S))
abbrev rmX3_bestSet : Room := { frames := 1, cells := 0, slots := 0, locals := 17 }
set_option maxHeartbeats 4000000 in
set_option maxRecDepth 100000 in
theorem kX3_bestSet (l : Launch) (D : va_G) (Y : Nat → ClassId) (A : Nat → Nat) (hI : iC A) (sz : Nat) (S : gS) (a1 : Int32) (Q : Int32 → gS → Prop) (h : qX3_bestSet S a1 Q) : Met l yX3_bestSet wsX3_bestSet rmX3_bestSet (gPc [.ref (A 4), .int a1] sz D vwCl (tY Y) (wC Y A S)) (va_Qi Q (fun S' t => gH D vwCl (tY Y) (wC Y A S') t) (gF A 65 sz)) 0 0 (gF A 65 sz) := by
  refine gMet_i (cc := cX3_bestSet) (maxL := 7) (by decide +kernel) rfl (Nat.le_of_ble_eq_true rfl) (fun p e s m args below meth c Z H locs hx hb hml hts hown hK hP hS hret ls hl => ?_)
  have hown : s.vm.findClass RX3 = some m.cls := hown
  have hl : lv_has ls 7 [(0, .ref (A 4)), (1, .int a1)] := hl
  have hD : ∀ S0 : gS, va_D (gF A 65 s.heap.size) (wC Y A S0) := fun S0 => dC hI S0 (fun k hk => gF_in hk)
  have k0 : ∀ w ∈ u_ws RX3 TX3 7, w ∈ wsX3_bestSet := by decide +kernel
  have k1 := hts (.fieldLink RX3 22 "CoastWatch$Hides" "cost" "[I") (by decide +kernel)
  have k2 := hts (.fieldLink RX3 31 "CoastWatch$Hides" "scores" "[J") (by decide +kernel)
  have k3 := hts (.methodLink RX3 43 Lib.MathLoose.max_long.x) (by decide +kernel)
  have k4 := hts (.static Lib.MathLoose.max_long.x) (by decide +kernel)
  have k5 := hts (.initialized "java/lang/Math") (by decide +kernel)
  have k6 := hts (.code Lib.MathLoose.max_long.x Lib.MathLoose.max_long.code 4 (some .long)) (by decide +kernel)
  have k7 := hts (.fieldLink RX3 11 "CoastWatch$Hides" "size" "I") (by decide +kernel)
  have k8 := hts (.constantLong RX3 47 8191) (by decide +kernel)
  have k9 := hts (.fieldLink RX3 25 "CoastWatch$Hides" "guess" "[I") (by decide +kernel)
  have k10 := hts (.constantLong RX3 41 8192) (by decide +kernel)
  have k11 := hts (.methodLink RX3 35 Lib.Math.min.name) (by decide +kernel)
  have k12 := hts (.static Lib.Math.min.name) (by decide +kernel)
  have k13 := hts (.code Lib.Math.min.name Lib.Math.min.code 2 (some .int)) (by decide +kernel)
  have tL60 : ∀ (K29 : Int32 × Int32 × gS → Prop) (ih29 : ∀ (v2 : Int32) (v3 : Int32) (S : gS), K29 (v2, v3, S) → ∀ (H : Heap) (locs : List Loc) (ls : Array Slot), va_P D vwCl (wC Y A S) H → va_S (gF A 65 s.heap.size) s.heap H locs → lv_has ls 7 [(0, .ref (A 4)), (2, .int v2), (3, .int v3)] → W p l e rmX3_bestSet s m args below meth c H locs 0 0 Z (F0 m 29 ls [])) (v2 : Int32) (v3 : Int32) (v4 : Int64) (v6 : Int32) (S : gS), lp (qX3_bestSet_L60 a1 Q K29) (v2, v3, v4, v6, S) → ∀ (H : Heap) (locs : List Loc) (ls : Array Slot), va_P D vwCl (wC Y A S) H → va_S (gF A 65 s.heap.size) s.heap H locs → lv_has ls 7 [(0, .ref (A 4)), (2, .int v2), (3, .int v3), (4, .long v4), (6, .int v6)] → W p l e rmX3_bestSet s m args below meth c H locs 0 0 Z (F0 m 60 ls []) := by
    intro K29 ih29 v2 v3 v4 v6 S h
    refine lp_walk (G := fun a => match a with | (v2, v3, v4, v6, S) => ∀ (H : Heap) (locs : List Loc) (ls : Array Slot), va_P D vwCl (wC Y A S) H → va_S (gF A 65 s.heap.size) s.heap H locs → lv_has ls 7 [(0, .ref (A 4)), (2, .int v2), (3, .int v3), (4, .long v4), (6, .int v6)] → W p l e rmX3_bestSet s m args below meth c H locs 0 0 Z (F0 m 60 ls [])) (fun K60 a ih60 h => ?_) (v2, v3, v4, v6, S) h
    obtain ⟨v2, v3, v4, v6, S⟩ := a
    have ih60 : ∀ (v2 : Int32) (v3 : Int32) (v4 : Int64) (v6 : Int32) (S : gS), K60 (v2, v3, v4, v6, S) → ∀ (H : Heap) (locs : List Loc) (ls : Array Slot), va_P D vwCl (wC Y A S) H → va_S (gF A 65 s.heap.size) s.heap H locs → lv_has ls 7 [(0, .ref (A 4)), (2, .int v2), (3, .int v3), (4, .long v4), (6, .int v6)] → W p l e rmX3_bestSet s m args below meth c H locs 0 0 Z (F0 m 60 ls []) := fun v2 v3 v4 v6 S q => ih60 (v2, v3, v4, v6, S) q
    intro H locs ls hP hS hl
    refine lv_iload hx hb dX3_bestSet_60 (lv_at hl 4 rfl) ?_
    refine lv_aload_n hx hb dX3_bestSet_62 rfl (lv_at hl 0 rfl) ?_
    refine va_get (ci := 3) (v := .ref (A 43)) (C := RX3) (T := TX3) (N := 7) hx hb hts k0 hown hK hP 4 (aC4 Y A S) rfl 3 (by decide) k1 (fun _ h9 => h9) rfl dX3_bestSet_63 ?_
    refine lv_iload_n hx hb dX3_bestSet_66 rfl (lv_at hl 2 rfl) ?_
    have v_1 := h.1
    have h := h.2
    refine va_iald hx hb hK hP 43 0 (aC43 Y A S) rfl v_1 dX3_bestSet_67 ?_
    refine lv_icmp_lt (tgt := 111) hx hb dX3_bestSet_68 (by decide) (fun c2 => ?_) (fun c2 => ?_)
    · have h := h.1 c2
      obtain ⟨x3, ex3⟩ : ∃ z : Int32, z = v3 + (1 : Int32) := ⟨_, rfl⟩
      have h := h x3 ex3
      refine lv_iinc (v := x3) (lv' := [(3, .int x3), (0, .ref (A 4)), (2, .int v2), (4, .long v4), (6, .int v6)]) hx hb dX3_bestSet_111 hl (k := 2) rfl (by rw [ex3]; rfl) (by decide) rfl (fun ls hl => ?_)
      refine lv_goto (tgt := 29) hx hb dX3_bestSet_114 (by decide) ?_
      exact ih29 v2 x3 S h _ _ _ hP hS (lv_sub hl [1, 2, 0] rfl)
    · have h := h.2 c2
      refine lv_aload_n hx hb dX3_bestSet_71 rfl (lv_at hl 0 rfl) ?_
      refine va_get (ci := 3) (v := .ref (A 46)) (C := RX3) (T := TX3) (N := 7) hx hb hts k0 hown hK hP 4 (aC4 Y A S) rfl 6 (by decide) k2 (fun _ h9 => h9) rfl dX3_bestSet_72 ?_
      refine lv_iload hx hb dX3_bestSet_75 (lv_at hl 4 rfl) ?_
      refine lv_aload_n hx hb dX3_bestSet_77 rfl (lv_at hl 0 rfl) ?_
      refine va_get (ci := 3) (v := .ref (A 46)) (C := RX3) (T := TX3) (N := 7) hx hb hts k0 hown hK hP 4 (aC4 Y A S) rfl 6 (by decide) k2 (fun _ h9 => h9) rfl dX3_bestSet_78 ?_
      refine lv_iload hx hb dX3_bestSet_81 (lv_at hl 4 rfl) ?_
      have v_4 := h.1
      have h := h.2
      refine va_lald hx hb hK hP 46 2 (aC46 Y A S) rfl v_4 dX3_bestSet_83 ?_
      refine lv_aload_n hx hb dX3_bestSet_84 rfl (lv_at hl 0 rfl) ?_
      refine va_get (ci := 3) (v := .ref (A 46)) (C := RX3) (T := TX3) (N := 7) hx hb hts k0 hown hK hP 4 (aC4 Y A S) rfl 6 (by decide) k2 (fun _ h9 => h9) rfl dX3_bestSet_85 ?_
      refine lv_iload hx hb dX3_bestSet_88 (lv_at hl 4 rfl) ?_
      refine lv_aload_n hx hb dX3_bestSet_90 rfl (lv_at hl 0 rfl) ?_
      refine va_get (ci := 3) (v := .ref (A 43)) (C := RX3) (T := TX3) (N := 7) hx hb hts k0 hown hK hP 4 (aC4 Y A S) rfl 3 (by decide) k1 (fun _ h9 => h9) rfl dX3_bestSet_91 ?_
      refine lv_iload_n hx hb dX3_bestSet_94 rfl (lv_at hl 2 rfl) ?_
      refine va_iald hx hb hK hP 43 0 (aC43 Y A S) rfl v_1 dX3_bestSet_95 ?_
      refine lv_isub hx hb dX3_bestSet_96 ?_
      have v_5 := h.1
      have h := h.2
      refine va_lald hx hb hK hP 46 2 (aC46 Y A S) rfl v_5 dX3_bestSet_97 ?_
      refine lv_lload hx hb dX3_bestSet_98 (lv_at hl 3 rfl) ?_
      refine lv_ladd hx hb dX3_bestSet_100 ?_
      refine va_mmax_long hx hb (hml.trans hl.1.symm) hown k3 k4 k5 k6 (Nat.le_of_ble_eq_true rfl) (Nat.le_of_ble_eq_true rfl) (Nat.zero_le _) (Nat.zero_le _) dX3_bestSet_101 ?_
      obtain ⟨S6, eS6⟩ : ∃ z : gS, z = sC S (vp_updL (gc S) v6.toNatClampNeg (if ((gc S (v6 - (ga S 31 v3.toNatClampNeg)).toNatClampNeg) + v4) < (gc S v6.toNatClampNeg) then (gc S v6.toNatClampNeg) else ((gc S (v6 - (ga S 31 v3.toNatClampNeg)).toNatClampNeg) + v4))) := ⟨_, rfl⟩
      refine va_last hx hb hK hP (hD S) hS 46 2 (aC46 Y A S) rfl v_4 dX3_bestSet_104 (fun H locs hP _ hS => ?_)
      have hP := uC46 eS6 hP
      have h := h S6 eS6
      obtain ⟨x7, ex7⟩ : ∃ z : Int32, z = v6 + (-1 : Int32) := ⟨_, rfl⟩
      have h := h x7 ex7
      refine lv_iinc (v := x7) (lv' := [(6, .int x7), (0, .ref (A 4)), (2, .int v2), (3, .int v3), (4, .long v4)]) hx hb dX3_bestSet_105 hl (k := 4) rfl (by rw [ex7]; rfl) (by decide) rfl (fun ls hl => ?_)
      refine lv_goto (tgt := 60) hx hb dX3_bestSet_108 (by decide) ?_
      exact ih60 v2 v3 v4 x7 S6 h _ _ _ hP hS (lv_sub hl [1, 2, 3, 4, 0] rfl)
  have tL29 : ∀ (v2 : Int32) (v3 : Int32) (S : gS), lp (qX3_bestSet_L29 a1 Q) (v2, v3, S) → ∀ (H : Heap) (locs : List Loc) (ls : Array Slot), va_P D vwCl (wC Y A S) H → va_S (gF A 65 s.heap.size) s.heap H locs → lv_has ls 7 [(0, .ref (A 4)), (2, .int v2), (3, .int v3)] → W p l e rmX3_bestSet s m args below meth c H locs 0 0 Z (F0 m 29 ls []) := by
    intro  v2 v3 S h
    refine lp_walk (G := fun a => match a with | (v2, v3, S) => ∀ (H : Heap) (locs : List Loc) (ls : Array Slot), va_P D vwCl (wC Y A S) H → va_S (gF A 65 s.heap.size) s.heap H locs → lv_has ls 7 [(0, .ref (A 4)), (2, .int v2), (3, .int v3)] → W p l e rmX3_bestSet s m args below meth c H locs 0 0 Z (F0 m 29 ls [])) (fun K29 a ih29 h => ?_) (v2, v3, S) h
    obtain ⟨v2, v3, S⟩ := a
    have ih29 : ∀ (v2 : Int32) (v3 : Int32) (S : gS), K29 (v2, v3, S) → ∀ (H : Heap) (locs : List Loc) (ls : Array Slot), va_P D vwCl (wC Y A S) H → va_S (gF A 65 s.heap.size) s.heap H locs → lv_has ls 7 [(0, .ref (A 4)), (2, .int v2), (3, .int v3)] → W p l e rmX3_bestSet s m args below meth c H locs 0 0 Z (F0 m 29 ls []) := fun v2 v3 S q => ih29 (v2, v3, S) q
    intro H locs ls hP hS hl
    refine lv_iload_n hx hb dX3_bestSet_29 rfl (lv_at hl 2 rfl) ?_
    refine lv_aload_n hx hb dX3_bestSet_30 rfl (lv_at hl 0 rfl) ?_
    refine va_get (ci := 3) (v := .int (gi S 5)) (C := RX3) (T := TX3) (N := 7) hx hb hts k0 hown hK hP 4 (aC4 Y A S) rfl 0 (by decide) k7 (fun _ h9 => h9) rfl dX3_bestSet_31 ?_
    refine lv_icmp_ge (tgt := 117) hx hb dX3_bestSet_34 (by decide) (fun c8 => ?_) (fun c8 => ?_)
    · have h := h.1 c8
      refine lv_iload_n hx hb dX3_bestSet_117 rfl (lv_at hl 1 rfl) ?_
      refine lv_if_ge (tgt := 125) hx hb dX3_bestSet_118 (by decide) (fun c9 => ?_) (fun c9 => ?_)
      · have h := h.1 c9
        refine lv_aload_n hx hb dX3_bestSet_125 rfl (lv_at hl 0 rfl) ?_
        refine va_get (ci := 3) (v := .ref (A 46)) (C := RX3) (T := TX3) (N := 7) hx hb hts k0 hown hK hP 4 (aC4 Y A S) rfl 6 (by decide) k2 (fun _ h9 => h9) rfl dX3_bestSet_126 ?_
        refine lv_iload_n hx hb dX3_bestSet_129 rfl (lv_at hl 1 rfl) ?_
        have v_10 := h.1
        have h := h.2
        refine va_lald hx hb hK hP 46 2 (aC46 Y A S) rfl v_10 dX3_bestSet_130 ?_
        refine lv_lneg hx hb dX3_bestSet_131 ?_
        refine lv_ldc2 (v := (8191 : Int64)) hx hb hown k8 dX3_bestSet_132 ?_
        refine lv_land hx hb dX3_bestSet_135 ?_
        refine lv_l2i hx hb dX3_bestSet_136 rfl ?_
        exact hret _ _ _ _ _ _ dX3_bestSet_137 h hP hS
      · have h := h.2 c9
        refine lv_iconst (v := (0 : Int32)) hx hb dX3_bestSet_121 (by decide) ?_
        refine lv_goto (tgt := 137) hx hb dX3_bestSet_122 (by decide) ?_
        exact hret _ _ _ _ _ _ dX3_bestSet_137 h hP hS
    · have h := h.2 c8
      refine lv_aload_n hx hb dX3_bestSet_37 rfl (lv_at hl 0 rfl) ?_
      refine va_get (ci := 3) (v := .ref (A 44)) (C := RX3) (T := TX3) (N := 7) hx hb hts k0 hown hK hP 4 (aC4 Y A S) rfl 4 (by decide) k9 (fun _ h9 => h9) rfl dX3_bestSet_38 ?_
      refine lv_iload_n hx hb dX3_bestSet_41 rfl (lv_at hl 2 rfl) ?_
      have v_11 := h.1
      have h := h.2
      refine va_iald hx hb hK hP 44 0 (aC44 Y A S) rfl v_11 dX3_bestSet_42 ?_
      refine lv_i2l hx hb dX3_bestSet_43 rfl ?_
      refine lv_bipush (v := (20 : Int32)) hx hb dX3_bestSet_44 (by decide) ?_
      refine lv_lshl hx hb dX3_bestSet_46 rfl ?_
      refine lv_ldc2 (v := (8192 : Int64)) hx hb hown k10 dX3_bestSet_47 ?_
      refine lv_lsub hx hb dX3_bestSet_50 ?_
      refine lv_lconst (v := (1 : Int64)) hx hb dX3_bestSet_51 (by decide) ?_
      refine lv_iload_n hx hb dX3_bestSet_52 rfl (lv_at hl 2 rfl) ?_
      refine lv_lshl hx hb dX3_bestSet_53 rfl ?_
      refine lv_lsub hx hb dX3_bestSet_54 ?_
      refine lv_topl (fun x12 ex12 => ?_)
      have h := h x12 ex12
      refine lv_lstore (lv' := [(4, .long x12), (0, .ref (A 4)), (2, .int v2), (3, .int v3)]) hx hb dX3_bestSet_55 hl (by decide) rfl (fun ls hl => ?_)
      refine lv_iload_n hx hb dX3_bestSet_57 rfl (lv_at hl 2 rfl) ?_
      refine lv_istore (lv' := [(6, .int v2), (4, .long x12), (0, .ref (A 4)), (2, .int v2), (3, .int v3)]) hx hb dX3_bestSet_58 hl (by decide) rfl (fun ls hl => ?_)
      exact tL60 K29 ih29 v2 v3 x12 v2 S h _ _ _ hP hS (lv_sub hl [2, 3, 4, 1, 0] rfl)
  have tL9 : ∀ (v2 : Int32) (v3 : Int32) (S : gS), lp (qX3_bestSet_L9 a1 Q) (v2, v3, S) → ∀ (H : Heap) (locs : List Loc) (ls : Array Slot), va_P D vwCl (wC Y A S) H → va_S (gF A 65 s.heap.size) s.heap H locs → lv_has ls 7 [(0, .ref (A 4)), (2, .int v2), (3, .int v3)] → W p l e rmX3_bestSet s m args below meth c H locs 0 0 Z (F0 m 9 ls []) := by
    intro  v2 v3 S h
    refine lp_walk (G := fun a => match a with | (v2, v3, S) => ∀ (H : Heap) (locs : List Loc) (ls : Array Slot), va_P D vwCl (wC Y A S) H → va_S (gF A 65 s.heap.size) s.heap H locs → lv_has ls 7 [(0, .ref (A 4)), (2, .int v2), (3, .int v3)] → W p l e rmX3_bestSet s m args below meth c H locs 0 0 Z (F0 m 9 ls [])) (fun K9 a ih9 h => ?_) (v2, v3, S) h
    obtain ⟨v2, v3, S⟩ := a
    have ih9 : ∀ (v2 : Int32) (v3 : Int32) (S : gS), K9 (v2, v3, S) → ∀ (H : Heap) (locs : List Loc) (ls : Array Slot), va_P D vwCl (wC Y A S) H → va_S (gF A 65 s.heap.size) s.heap H locs → lv_has ls 7 [(0, .ref (A 4)), (2, .int v2), (3, .int v3)] → W p l e rmX3_bestSet s m args below meth c H locs 0 0 Z (F0 m 9 ls []) := fun v2 v3 S q => ih9 (v2, v3, S) q
    intro H locs ls hP hS hl
    refine lv_iload_n hx hb dX3_bestSet_9 rfl (lv_at hl 2 rfl) ?_
    refine lv_iload_n hx hb dX3_bestSet_10 rfl (lv_at hl 1 rfl) ?_
    refine lv_icmp_gt (tgt := 27) hx hb dX3_bestSet_11 (by decide) (fun c13 => ?_) (fun c13 => ?_)
    · have h := h.1 c13
      refine lv_iconst (v := (0 : Int32)) hx hb dX3_bestSet_27 (by decide) ?_
      refine lv_istore_n (lv' := [(3, .int (0 : Int32)), (0, .ref (A 4)), (2, .int v2)]) hx hb dX3_bestSet_28 rfl hl (by decide) rfl (fun ls hl => ?_)
      exact tL29  v2 (0 : Int32) S h _ _ _ hP hS (lv_sub hl [1, 2, 0] rfl)
    · have h := h.2 c13
      refine lv_aload_n hx hb dX3_bestSet_14 rfl (lv_at hl 0 rfl) ?_
      refine va_get (ci := 3) (v := .ref (A 46)) (C := RX3) (T := TX3) (N := 7) hx hb hts k0 hown hK hP 4 (aC4 Y A S) rfl 6 (by decide) k2 (fun _ h9 => h9) rfl dX3_bestSet_15 ?_
      refine lv_iload_n hx hb dX3_bestSet_18 rfl (lv_at hl 2 rfl) ?_
      refine lv_lconst (v := (0 : Int64)) hx hb dX3_bestSet_19 (by decide) ?_
      have v_15 := h.1
      have h := h.2
      obtain ⟨S14, eS14⟩ : ∃ z : gS, z = sC S (vp_updL (gc S) v3.toNatClampNeg (0 : Int64)) := ⟨_, rfl⟩
      refine va_last hx hb hK hP (hD S) hS 46 2 (aC46 Y A S) rfl v_15 dX3_bestSet_20 (fun H locs hP _ hS => ?_)
      have hP := uC46 eS14 hP
      have h := h S14 eS14
      obtain ⟨x16, ex16⟩ : ∃ z : Int32, z = v3 + (1 : Int32) := ⟨_, rfl⟩
      have h := h x16 ex16
      refine lv_iinc (v := x16) (lv' := [(3, .int x16), (0, .ref (A 4)), (2, .int v2)]) hx hb dX3_bestSet_21 hl (k := 2) rfl (by rw [ex16]; rfl) (by decide) rfl (fun ls hl => ?_)
      refine lv_goto (tgt := 9) hx hb dX3_bestSet_24 (by decide) ?_
      exact ih9 v2 x16 S14 h _ _ _ hP hS (lv_sub hl [1, 2, 0] rfl)
  refine lv_iload_n hx hb dX3_bestSet_0 rfl (lv_at hl 1 rfl) ?_
  refine lv_bipush (v := (100 : Int32)) hx hb dX3_bestSet_1 (by decide) ?_
  refine va_mmin hx hb (hml.trans hl.1.symm) hown k11 k12 k5 k13 (Nat.le_of_ble_eq_true rfl) (Nat.le_of_ble_eq_true rfl) (Nat.zero_le _) (Nat.zero_le _) dX3_bestSet_3 ?_
  refine lv_topi (fun x17 ex17 => ?_)
  have h := h x17 ex17
  refine lv_istore_n (lv' := [(2, .int x17), (0, .ref (A 4)), (1, .int a1)]) hx hb dX3_bestSet_6 rfl hl (by decide) rfl (fun ls hl => ?_)
  refine lv_iconst (v := (0 : Int32)) hx hb dX3_bestSet_7 (by decide) ?_
  refine lv_istore_n (lv' := [(3, .int (0 : Int32)), (2, .int x17), (0, .ref (A 4)), (1, .int a1)]) hx hb dX3_bestSet_8 rfl hl (by decide) rfl (fun ls hl => ?_)
  exact tL9  x17 (0 : Int32) S h _ _ _ hP hS (lv_sub hl [2, 1, 0] rfl)

def qX4_add (S : gS) (a1 : Int32) (a2 : Int32) (a3 : Int32) (Q : Int32 → gS → Prop) : Prop :=
  ∀ x1 : Int32, x1 = (gi S 7) → ((x1 < (20 : Int32) → (vp_in x1 20 ∧ (∀ S3 : gS, S3 = sA S 40 (upd (ga S 40) x1.toNatClampNeg a1) → (∀ S5 : gS, S5 = sA S3 41 (upd (ga S3 41) x1.toNatClampNeg a2) → (∀ S6 : gS, S6 = sA S5 42 (upd (ga S5 42) x1.toNatClampNeg a3) → (∀ S7 : gS, S7 = sI S6 7 (x1 + (1 : Int32)) → (Q x1 S7))))))) ∧ (¬ x1 < (20 : Int32) → (Q (-1 : Int32) S)))
abbrev rmX4_add : Room := { frames := 0, cells := 0, slots := 0, locals := 0 }
set_option maxHeartbeats 4000000 in
set_option maxRecDepth 100000 in
theorem kX4_add (l : Launch) (D : va_G) (Y : Nat → ClassId) (A : Nat → Nat) (hI : iC A) (sz : Nat) (S : gS) (a1 : Int32) (a2 : Int32) (a3 : Int32) (Q : Int32 → gS → Prop) (h : qX4_add S a1 a2 a3 Q) : Met l yX4_add wsX4_add rmX4_add (gPc [.ref (A 6), .int a1, .int a2, .int a3] sz D vwCl (tY Y) (wC Y A S)) (va_Qi Q (fun S' t => gH D vwCl (tY Y) (wC Y A S') t) (gF A 65 sz)) 0 0 (gF A 65 sz) := by
  refine gMet_i (cc := cX4_add) (maxL := 5) (by decide +kernel) rfl (Nat.le_of_ble_eq_true rfl) (fun p e s m args below meth c Z H locs hx hb hml hts hown hK hP hS hret ls hl => ?_)
  have hown : s.vm.findClass RX4 = some m.cls := hown
  have hl : lv_has ls 5 [(0, .ref (A 6)), (1, .int a1), (2, .int a2), (3, .int a3)] := hl
  have hD : ∀ S0 : gS, va_D (gF A 65 s.heap.size) (wC Y A S0) := fun S0 => dC hI S0 (fun k hk => gF_in hk)
  have k0 : ∀ w ∈ u_ws RX4 TX4 4, w ∈ wsX4_add := by decide +kernel
  have k1 := hts (.fieldLink RX4 9 "CoastWatch$Laws" "size" "I") (by decide +kernel)
  have k2 := hts (.fieldLink RX4 15 "CoastWatch$Laws" "crew" "[I") (by decide +kernel)
  have k3 := hts (.fieldLink RX4 19 "CoastWatch$Laws" "informer" "[I") (by decide +kernel)
  have k4 := hts (.fieldLink RX4 22 "CoastWatch$Laws" "from" "[I") (by decide +kernel)
  refine lv_aload_n hx hb dX4_add_0 rfl (lv_at hl 0 rfl) ?_
  refine va_get (ci := 4) (v := .int (gi S 7)) (C := RX4) (T := TX4) (N := 4) hx hb hts k0 hown hK hP 6 (aC6 Y A S) rfl 0 (by decide) k1 (fun _ h9 => h9) rfl dX4_add_1 ?_
  refine lv_topi (fun x1 ex1 => ?_)
  have h := h x1 ex1
  refine lv_istore (lv' := [(4, .int x1), (0, .ref (A 6)), (1, .int a1), (2, .int a2), (3, .int a3)]) hx hb dX4_add_4 hl (by decide) rfl (fun ls hl => ?_)
  refine lv_iload hx hb dX4_add_6 (lv_at hl 0 rfl) ?_
  refine lv_bipush (v := (20 : Int32)) hx hb dX4_add_8 (by decide) ?_
  refine lv_icmp_lt (tgt := 15) hx hb dX4_add_10 (by decide) (fun c2 => ?_) (fun c2 => ?_)
  · have h := h.1 c2
    refine lv_aload_n hx hb dX4_add_15 rfl (lv_at hl 1 rfl) ?_
    refine va_get (ci := 4) (v := .ref (A 53)) (C := RX4) (T := TX4) (N := 4) hx hb hts k0 hown hK hP 6 (aC6 Y A S) rfl 1 (by decide) k2 (fun _ h9 => h9) rfl dX4_add_16 ?_
    refine lv_iload hx hb dX4_add_19 (lv_at hl 0 rfl) ?_
    refine lv_iload_n hx hb dX4_add_21 rfl (lv_at hl 2 rfl) ?_
    have v_4 := h.1
    have h := h.2
    obtain ⟨S3, eS3⟩ : ∃ z : gS, z = sA S 40 (upd (ga S 40) x1.toNatClampNeg a1) := ⟨_, rfl⟩
    refine va_iast hx hb hK hP (hD S) hS 53 0 (aC53 Y A S) rfl v_4 dX4_add_22 (fun H locs hP _ hS => ?_)
    have hP := uC53 eS3 hP
    have h := h S3 eS3
    refine lv_aload_n hx hb dX4_add_23 rfl (lv_at hl 1 rfl) ?_
    refine va_get (ci := 4) (v := .ref (A 54)) (C := RX4) (T := TX4) (N := 4) hx hb hts k0 hown hK hP 6 (aC6 Y A S3) rfl 2 (by decide) k3 (fun _ h9 => h9) rfl dX4_add_24 ?_
    refine lv_iload hx hb dX4_add_27 (lv_at hl 0 rfl) ?_
    refine lv_iload_n hx hb dX4_add_29 rfl (lv_at hl 3 rfl) ?_
    obtain ⟨S5, eS5⟩ : ∃ z : gS, z = sA S3 41 (upd (ga S3 41) x1.toNatClampNeg a2) := ⟨_, rfl⟩
    refine va_iast hx hb hK hP (hD S3) hS 54 0 (aC54 Y A S3) rfl v_4 dX4_add_30 (fun H locs hP _ hS => ?_)
    have hP := uC54 eS5 hP
    have h := h S5 eS5
    refine lv_aload_n hx hb dX4_add_31 rfl (lv_at hl 1 rfl) ?_
    refine va_get (ci := 4) (v := .ref (A 55)) (C := RX4) (T := TX4) (N := 4) hx hb hts k0 hown hK hP 6 (aC6 Y A S5) rfl 3 (by decide) k4 (fun _ h9 => h9) rfl dX4_add_32 ?_
    refine lv_iload hx hb dX4_add_35 (lv_at hl 0 rfl) ?_
    refine lv_iload_n hx hb dX4_add_37 rfl (lv_at hl 4 rfl) ?_
    obtain ⟨S6, eS6⟩ : ∃ z : gS, z = sA S5 42 (upd (ga S5 42) x1.toNatClampNeg a3) := ⟨_, rfl⟩
    refine va_iast hx hb hK hP (hD S5) hS 55 0 (aC55 Y A S5) rfl v_4 dX4_add_38 (fun H locs hP _ hS => ?_)
    have hP := uC55 eS6 hP
    have h := h S6 eS6
    refine lv_aload_n hx hb dX4_add_39 rfl (lv_at hl 1 rfl) ?_
    refine lv_iload hx hb dX4_add_40 (lv_at hl 0 rfl) ?_
    refine lv_iconst (v := (1 : Int32)) hx hb dX4_add_42 (by decide) ?_
    refine lv_iadd hx hb dX4_add_43 ?_
    obtain ⟨S7, eS7⟩ : ∃ z : gS, z = sI S6 7 (x1 + (1 : Int32)) := ⟨_, rfl⟩
    have h := h S7 eS7
    refine va_put (ci := 4) (v := .int (x1 + (1 : Int32))) (ty := .int) (C := RX4) (T := TX4) (N := 4) hx hb hts k0 tyX4 tyX4_ok nmX4 hown hK hP (hD S6) hS 6 (aC6 Y A S6) rfl 0 (by decide) k1 (fun _ h9 => h9) rfl rfl rfl rfl (by simp) dX4_add_44 (fun H locs hP _ hS => ?_)
    have hP := pC6_0 eS7 hP
    refine lv_iload hx hb dX4_add_47 (lv_at hl 0 rfl) ?_
    exact hret _ _ _ _ _ _ dX4_add_49 h hP hS
  · have h := h.2 c2
    refine lv_iconst (v := (-1 : Int32)) hx hb dX4_add_13 (by decide) ?_
    exact hret _ _ _ _ _ _ dX4_add_14 h hP hS

def qX4_inForceOn_L4 (a1 : Int32) (Q : Int32 → gS → Prop) (K4 : Int32 × Int32 × gS → Prop) : Int32 × Int32 × gS → Prop := fun ⟨v2, v3, S⟩ =>
  ((gi S 7) ≤ v3 → (Q v2 S)) ∧ (¬ (gi S 7) ≤ v3 → (vp_in v3 20 ∧ ((a1 < (ga S 42 v3.toNatClampNeg) → (∀ x4 : Int32, x4 = v3 + (1 : Int32) → (K4 (v2, x4, S)))) ∧ (¬ a1 < (ga S 42 v3.toNatClampNeg) → ((v2 = (-1 : Int32) → (∀ x6 : Int32, x6 = v3 + (1 : Int32) → (K4 (v3, x6, S)))) ∧ (¬ v2 = (-1 : Int32) → (vp_in v2 20 ∧ (((ga S 42 v3.toNatClampNeg) < (ga S 42 v2.toNatClampNeg) → (∀ x9 : Int32, x9 = v3 + (1 : Int32) → (K4 (v2, x9, S)))) ∧ (¬ (ga S 42 v3.toNatClampNeg) < (ga S 42 v2.toNatClampNeg) → (∀ x10 : Int32, x10 = v3 + (1 : Int32) → (K4 (v3, x10, S))))))))))))
def qX4_inForceOn (S : gS) (a1 : Int32) (Q : Int32 → gS → Prop) : Prop :=
  lp (qX4_inForceOn_L4 a1 Q) ((-1 : Int32), (0 : Int32), S)
abbrev rmX4_inForceOn : Room := { frames := 0, cells := 0, slots := 0, locals := 0 }
set_option maxHeartbeats 4000000 in
set_option maxRecDepth 100000 in
theorem kX4_inForceOn (l : Launch) (D : va_G) (Y : Nat → ClassId) (A : Nat → Nat) (hI : iC A) (sz : Nat) (S : gS) (a1 : Int32) (Q : Int32 → gS → Prop) (h : qX4_inForceOn S a1 Q) : Met l yX4_inForceOn wsX4_inForceOn rmX4_inForceOn (gPc [.ref (A 6), .int a1] sz D vwCl (tY Y) (wC Y A S)) (va_Qi Q (fun S' t => gH D vwCl (tY Y) (wC Y A S') t) (gF A 65 sz)) 0 0 (gF A 65 sz) := by
  refine gMet_i (cc := cX4_inForceOn) (maxL := 4) (by decide +kernel) rfl (Nat.le_of_ble_eq_true rfl) (fun p e s m args below meth c Z H locs hx hb hml hts hown hK hP hS hret ls hl => ?_)
  have hown : s.vm.findClass RX4 = some m.cls := hown
  have hl : lv_has ls 4 [(0, .ref (A 6)), (1, .int a1)] := hl
  have hD : ∀ S0 : gS, va_D (gF A 65 s.heap.size) (wC Y A S0) := fun S0 => dC hI S0 (fun k hk => gF_in hk)
  have k0 : ∀ w ∈ u_ws RX4 TX4 4, w ∈ wsX4_inForceOn := by decide +kernel
  have k1 := hts (.fieldLink RX4 9 "CoastWatch$Laws" "size" "I") (by decide +kernel)
  have k2 := hts (.fieldLink RX4 22 "CoastWatch$Laws" "from" "[I") (by decide +kernel)
  have tL4 : ∀ (v2 : Int32) (v3 : Int32) (S : gS), lp (qX4_inForceOn_L4 a1 Q) (v2, v3, S) → ∀ (H : Heap) (locs : List Loc) (ls : Array Slot), va_P D vwCl (wC Y A S) H → va_S (gF A 65 s.heap.size) s.heap H locs → lv_has ls 4 [(0, .ref (A 6)), (1, .int a1), (2, .int v2), (3, .int v3)] → W p l e rmX4_inForceOn s m args below meth c H locs 0 0 Z (F0 m 4 ls []) := by
    intro  v2 v3 S h
    refine lp_walk (G := fun a => match a with | (v2, v3, S) => ∀ (H : Heap) (locs : List Loc) (ls : Array Slot), va_P D vwCl (wC Y A S) H → va_S (gF A 65 s.heap.size) s.heap H locs → lv_has ls 4 [(0, .ref (A 6)), (1, .int a1), (2, .int v2), (3, .int v3)] → W p l e rmX4_inForceOn s m args below meth c H locs 0 0 Z (F0 m 4 ls [])) (fun K4 a ih4 h => ?_) (v2, v3, S) h
    obtain ⟨v2, v3, S⟩ := a
    have ih4 : ∀ (v2 : Int32) (v3 : Int32) (S : gS), K4 (v2, v3, S) → ∀ (H : Heap) (locs : List Loc) (ls : Array Slot), va_P D vwCl (wC Y A S) H → va_S (gF A 65 s.heap.size) s.heap H locs → lv_has ls 4 [(0, .ref (A 6)), (1, .int a1), (2, .int v2), (3, .int v3)] → W p l e rmX4_inForceOn s m args below meth c H locs 0 0 Z (F0 m 4 ls []) := fun v2 v3 S q => ih4 (v2, v3, S) q
    intro H locs ls hP hS hl
    refine lv_iload_n hx hb dX4_inForceOn_4 rfl (lv_at hl 3 rfl) ?_
    refine lv_aload_n hx hb dX4_inForceOn_5 rfl (lv_at hl 0 rfl) ?_
    refine va_get (ci := 4) (v := .int (gi S 7)) (C := RX4) (T := TX4) (N := 4) hx hb hts k0 hown hK hP 6 (aC6 Y A S) rfl 0 (by decide) k1 (fun _ h9 => h9) rfl dX4_inForceOn_6 ?_
    refine lv_icmp_ge (tgt := 50) hx hb dX4_inForceOn_9 (by decide) (fun c1 => ?_) (fun c1 => ?_)
    · have h := h.1 c1
      refine lv_iload_n hx hb dX4_inForceOn_50 rfl (lv_at hl 2 rfl) ?_
      exact hret _ _ _ _ _ _ dX4_inForceOn_51 h hP hS
    · have h := h.2 c1
      refine lv_aload_n hx hb dX4_inForceOn_12 rfl (lv_at hl 0 rfl) ?_
      refine va_get (ci := 4) (v := .ref (A 55)) (C := RX4) (T := TX4) (N := 4) hx hb hts k0 hown hK hP 6 (aC6 Y A S) rfl 3 (by decide) k2 (fun _ h9 => h9) rfl dX4_inForceOn_13 ?_
      refine lv_iload_n hx hb dX4_inForceOn_16 rfl (lv_at hl 3 rfl) ?_
      have v_2 := h.1
      have h := h.2
      refine va_iald hx hb hK hP 55 0 (aC55 Y A S) rfl v_2 dX4_inForceOn_17 ?_
      refine lv_iload_n hx hb dX4_inForceOn_18 rfl (lv_at hl 1 rfl) ?_
      refine lv_icmp_gt (tgt := 44) hx hb dX4_inForceOn_19 (by decide) (fun c3 => ?_) (fun c3 => ?_)
      · have h := h.1 c3
        obtain ⟨x4, ex4⟩ : ∃ z : Int32, z = v3 + (1 : Int32) := ⟨_, rfl⟩
        have h := h x4 ex4
        refine lv_iinc (v := x4) (lv' := [(3, .int x4), (0, .ref (A 6)), (1, .int a1), (2, .int v2)]) hx hb dX4_inForceOn_44 hl (k := 3) rfl (by rw [ex4]; rfl) (by decide) rfl (fun ls hl => ?_)
        refine lv_goto (tgt := 4) hx hb dX4_inForceOn_47 (by decide) ?_
        exact ih4 v2 x4 S h _ _ _ hP hS (lv_sub hl [1, 2, 3, 0] rfl)
      · have h := h.2 c3
        refine lv_iload_n hx hb dX4_inForceOn_22 rfl (lv_at hl 2 rfl) ?_
        refine lv_iconst (v := (-1 : Int32)) hx hb dX4_inForceOn_23 (by decide) ?_
        refine lv_icmp_eq (tgt := 42) hx hb dX4_inForceOn_24 (by decide) (fun c5 => ?_) (fun c5 => ?_)
        · have h := h.1 c5
          refine lv_iload_n hx hb dX4_inForceOn_42 rfl (lv_at hl 3 rfl) ?_
          refine lv_istore_n (lv' := [(2, .int v3), (0, .ref (A 6)), (1, .int a1), (3, .int v3)]) hx hb dX4_inForceOn_43 rfl hl (by decide) rfl (fun ls hl => ?_)
          obtain ⟨x6, ex6⟩ : ∃ z : Int32, z = v3 + (1 : Int32) := ⟨_, rfl⟩
          have h := h x6 ex6
          refine lv_iinc (v := x6) (lv' := [(3, .int x6), (2, .int v3), (0, .ref (A 6)), (1, .int a1)]) hx hb dX4_inForceOn_44 hl (k := 3) rfl (by rw [ex6]; rfl) (by decide) rfl (fun ls hl => ?_)
          refine lv_goto (tgt := 4) hx hb dX4_inForceOn_47 (by decide) ?_
          exact ih4 v3 x6 S h _ _ _ hP hS (lv_sub hl [2, 3, 1, 0] rfl)
        · have h := h.2 c5
          refine lv_aload_n hx hb dX4_inForceOn_27 rfl (lv_at hl 0 rfl) ?_
          refine va_get (ci := 4) (v := .ref (A 55)) (C := RX4) (T := TX4) (N := 4) hx hb hts k0 hown hK hP 6 (aC6 Y A S) rfl 3 (by decide) k2 (fun _ h9 => h9) rfl dX4_inForceOn_28 ?_
          refine lv_iload_n hx hb dX4_inForceOn_31 rfl (lv_at hl 3 rfl) ?_
          refine va_iald hx hb hK hP 55 0 (aC55 Y A S) rfl v_2 dX4_inForceOn_32 ?_
          refine lv_aload_n hx hb dX4_inForceOn_33 rfl (lv_at hl 0 rfl) ?_
          refine va_get (ci := 4) (v := .ref (A 55)) (C := RX4) (T := TX4) (N := 4) hx hb hts k0 hown hK hP 6 (aC6 Y A S) rfl 3 (by decide) k2 (fun _ h9 => h9) rfl dX4_inForceOn_34 ?_
          refine lv_iload_n hx hb dX4_inForceOn_37 rfl (lv_at hl 2 rfl) ?_
          have v_7 := h.1
          have h := h.2
          refine va_iald hx hb hK hP 55 0 (aC55 Y A S) rfl v_7 dX4_inForceOn_38 ?_
          refine lv_icmp_lt (tgt := 44) hx hb dX4_inForceOn_39 (by decide) (fun c8 => ?_) (fun c8 => ?_)
          · have h := h.1 c8
            obtain ⟨x9, ex9⟩ : ∃ z : Int32, z = v3 + (1 : Int32) := ⟨_, rfl⟩
            have h := h x9 ex9
            refine lv_iinc (v := x9) (lv' := [(3, .int x9), (0, .ref (A 6)), (1, .int a1), (2, .int v2)]) hx hb dX4_inForceOn_44 hl (k := 3) rfl (by rw [ex9]; rfl) (by decide) rfl (fun ls hl => ?_)
            refine lv_goto (tgt := 4) hx hb dX4_inForceOn_47 (by decide) ?_
            exact ih4 v2 x9 S h _ _ _ hP hS (lv_sub hl [1, 2, 3, 0] rfl)
          · have h := h.2 c8
            refine lv_iload_n hx hb dX4_inForceOn_42 rfl (lv_at hl 3 rfl) ?_
            refine lv_istore_n (lv' := [(2, .int v3), (0, .ref (A 6)), (1, .int a1), (3, .int v3)]) hx hb dX4_inForceOn_43 rfl hl (by decide) rfl (fun ls hl => ?_)
            obtain ⟨x10, ex10⟩ : ∃ z : Int32, z = v3 + (1 : Int32) := ⟨_, rfl⟩
            have h := h x10 ex10
            refine lv_iinc (v := x10) (lv' := [(3, .int x10), (2, .int v3), (0, .ref (A 6)), (1, .int a1)]) hx hb dX4_inForceOn_44 hl (k := 3) rfl (by rw [ex10]; rfl) (by decide) rfl (fun ls hl => ?_)
            refine lv_goto (tgt := 4) hx hb dX4_inForceOn_47 (by decide) ?_
            exact ih4 v3 x10 S h _ _ _ hP hS (lv_sub hl [2, 3, 1, 0] rfl)
  refine lv_iconst (v := (-1 : Int32)) hx hb dX4_inForceOn_0 (by decide) ?_
  refine lv_istore_n (lv' := [(2, .int (-1 : Int32)), (0, .ref (A 6)), (1, .int a1)]) hx hb dX4_inForceOn_1 rfl hl (by decide) rfl (fun ls hl => ?_)
  refine lv_iconst (v := (0 : Int32)) hx hb dX4_inForceOn_2 (by decide) ?_
  refine lv_istore_n (lv' := [(3, .int (0 : Int32)), (2, .int (-1 : Int32)), (0, .ref (A 6)), (1, .int a1)]) hx hb dX4_inForceOn_3 rfl hl (by decide) rfl (fun ls hl => ?_)
  exact tL4  (-1 : Int32) (0 : Int32) S h _ _ _ hP hS (lv_sub hl [2, 3, 1, 0] rfl)

def qX5_add (S : gS) (a1 : Int32) (a2 : Int32) (a3 : Int32) (a4 : Int32) (a5 : Int32) (a6 : Int32) (Q : gS → Prop) : Prop :=
  ((gi S 6) < (100 : Int32) → (vp_in (gi S 6) 100 ∧ (∀ S2 : gS, S2 = sA S 34 (upd (ga S 34) (gi S 6).toNatClampNeg a1) → (vp_in (gi S2 6) 100 ∧ (∀ S4 : gS, S4 = sA S2 35 (upd (ga S2 35) (gi S2 6).toNatClampNeg a2) → (vp_in (gi S4 6) 100 ∧ (∀ S6 : gS, S6 = sA S4 36 (upd (ga S4 36) (gi S4 6).toNatClampNeg a3) → (vp_in (gi S6 6) 100 ∧ (∀ S8 : gS, S8 = sA S6 37 (upd (ga S6 37) (gi S6 6).toNatClampNeg a4) → (vp_in (gi S8 6) 100 ∧ (∀ S10 : gS, S10 = sA S8 38 (upd (ga S8 38) (gi S8 6).toNatClampNeg a5) → (vp_in (gi S10 6) 100 ∧ (∀ S12 : gS, S12 = sA S10 39 (upd (ga S10 39) (gi S10 6).toNatClampNeg a6) → (∀ S14 : gS, S14 = sI S12 6 ((gi S12 6) + (1 : Int32)) → (Q S14))))))))))))))) ∧ (¬ (gi S 6) < (100 : Int32) → (Q S))
abbrev rmX5_add : Room := { frames := 0, cells := 0, slots := 0, locals := 0 }
set_option maxHeartbeats 4000000 in
set_option maxRecDepth 100000 in
theorem kX5_add (l : Launch) (D : va_G) (Y : Nat → ClassId) (A : Nat → Nat) (hI : iC A) (sz : Nat) (S : gS) (a1 : Int32) (a2 : Int32) (a3 : Int32) (a4 : Int32) (a5 : Int32) (a6 : Int32) (Q : gS → Prop) (h : qX5_add S a1 a2 a3 a4 a5 a6 Q) : Met l yX5_add wsX5_add rmX5_add (gPc [.ref (A 5), .int a1, .int a2, .int a3, .int a4, .int a5, .int a6] sz D vwCl (tY Y) (wC Y A S)) (va_Qv Q (fun S' t => gH D vwCl (tY Y) (wC Y A S') t) (gF A 65 sz)) 0 0 (gF A 65 sz) := by
  refine gMet_v (cc := cX5_add) (maxL := 7) (by decide +kernel) rfl (Nat.le_of_ble_eq_true rfl) (fun p e s m args below meth c Z H locs hx hb hml hts hown hK hP hS hret ls hl => ?_)
  have hown : s.vm.findClass RX5 = some m.cls := hown
  have hl : lv_has ls 7 [(0, .ref (A 5)), (1, .int a1), (2, .int a2), (3, .int a3), (4, .int a4), (5, .int a5), (6, .int a6)] := hl
  have hD : ∀ S0 : gS, va_D (gF A 65 s.heap.size) (wC Y A S0) := fun S0 => dC hI S0 (fun k hk => gF_in hk)
  have k0 : ∀ w ∈ u_ws RX5 TX5 7, w ∈ wsX5_add := by decide +kernel
  have k1 := hts (.fieldLink RX5 9 "CoastWatch$Lots" "size" "I") (by decide +kernel)
  have k2 := hts (.fieldLink RX5 15 "CoastWatch$Lots" "boat" "[I") (by decide +kernel)
  have k3 := hts (.fieldLink RX5 19 "CoastWatch$Lots" "casks" "[I") (by decide +kernel)
  have k4 := hts (.fieldLink RX5 22 "CoastWatch$Lots" "night" "[I") (by decide +kernel)
  have k5 := hts (.fieldLink RX5 25 "CoastWatch$Lots" "cove" "[I") (by decide +kernel)
  have k6 := hts (.fieldLink RX5 28 "CoastWatch$Lots" "place" "[I") (by decide +kernel)
  have k7 := hts (.fieldLink RX5 31 "CoastWatch$Lots" "hide" "[I") (by decide +kernel)
  refine lv_aload_n hx hb dX5_add_0 rfl (lv_at hl 0 rfl) ?_
  refine va_get (ci := 5) (v := .int (gi S 6)) (C := RX5) (T := TX5) (N := 7) hx hb hts k0 hown hK hP 5 (aC5 Y A S) rfl 0 (by decide) k1 (fun _ h9 => h9) rfl dX5_add_1 ?_
  refine lv_bipush (v := (100 : Int32)) hx hb dX5_add_4 (by decide) ?_
  refine lv_icmp_lt (tgt := 10) hx hb dX5_add_6 (by decide) (fun c1 => ?_) (fun c1 => ?_)
  · have h := h.1 c1
    refine lv_aload_n hx hb dX5_add_10 rfl (lv_at hl 0 rfl) ?_
    refine va_get (ci := 5) (v := .ref (A 47)) (C := RX5) (T := TX5) (N := 7) hx hb hts k0 hown hK hP 5 (aC5 Y A S) rfl 1 (by decide) k2 (fun _ h9 => h9) rfl dX5_add_11 ?_
    refine lv_aload_n hx hb dX5_add_14 rfl (lv_at hl 0 rfl) ?_
    refine va_get (ci := 5) (v := .int (gi S 6)) (C := RX5) (T := TX5) (N := 7) hx hb hts k0 hown hK hP 5 (aC5 Y A S) rfl 0 (by decide) k1 (fun _ h9 => h9) rfl dX5_add_15 ?_
    refine lv_iload_n hx hb dX5_add_18 rfl (lv_at hl 1 rfl) ?_
    have v_3 := h.1
    have h := h.2
    obtain ⟨S2, eS2⟩ : ∃ z : gS, z = sA S 34 (upd (ga S 34) (gi S 6).toNatClampNeg a1) := ⟨_, rfl⟩
    refine va_iast hx hb hK hP (hD S) hS 47 0 (aC47 Y A S) rfl v_3 dX5_add_19 (fun H locs hP _ hS => ?_)
    have hP := uC47 eS2 hP
    have h := h S2 eS2
    refine lv_aload_n hx hb dX5_add_20 rfl (lv_at hl 0 rfl) ?_
    refine va_get (ci := 5) (v := .ref (A 48)) (C := RX5) (T := TX5) (N := 7) hx hb hts k0 hown hK hP 5 (aC5 Y A S2) rfl 2 (by decide) k3 (fun _ h9 => h9) rfl dX5_add_21 ?_
    refine lv_aload_n hx hb dX5_add_24 rfl (lv_at hl 0 rfl) ?_
    refine va_get (ci := 5) (v := .int (gi S2 6)) (C := RX5) (T := TX5) (N := 7) hx hb hts k0 hown hK hP 5 (aC5 Y A S2) rfl 0 (by decide) k1 (fun _ h9 => h9) rfl dX5_add_25 ?_
    refine lv_iload_n hx hb dX5_add_28 rfl (lv_at hl 2 rfl) ?_
    have v_5 := h.1
    have h := h.2
    obtain ⟨S4, eS4⟩ : ∃ z : gS, z = sA S2 35 (upd (ga S2 35) (gi S2 6).toNatClampNeg a2) := ⟨_, rfl⟩
    refine va_iast hx hb hK hP (hD S2) hS 48 0 (aC48 Y A S2) rfl v_5 dX5_add_29 (fun H locs hP _ hS => ?_)
    have hP := uC48 eS4 hP
    have h := h S4 eS4
    refine lv_aload_n hx hb dX5_add_30 rfl (lv_at hl 0 rfl) ?_
    refine va_get (ci := 5) (v := .ref (A 49)) (C := RX5) (T := TX5) (N := 7) hx hb hts k0 hown hK hP 5 (aC5 Y A S4) rfl 3 (by decide) k4 (fun _ h9 => h9) rfl dX5_add_31 ?_
    refine lv_aload_n hx hb dX5_add_34 rfl (lv_at hl 0 rfl) ?_
    refine va_get (ci := 5) (v := .int (gi S4 6)) (C := RX5) (T := TX5) (N := 7) hx hb hts k0 hown hK hP 5 (aC5 Y A S4) rfl 0 (by decide) k1 (fun _ h9 => h9) rfl dX5_add_35 ?_
    refine lv_iload_n hx hb dX5_add_38 rfl (lv_at hl 3 rfl) ?_
    have v_7 := h.1
    have h := h.2
    obtain ⟨S6, eS6⟩ : ∃ z : gS, z = sA S4 36 (upd (ga S4 36) (gi S4 6).toNatClampNeg a3) := ⟨_, rfl⟩
    refine va_iast hx hb hK hP (hD S4) hS 49 0 (aC49 Y A S4) rfl v_7 dX5_add_39 (fun H locs hP _ hS => ?_)
    have hP := uC49 eS6 hP
    have h := h S6 eS6
    refine lv_aload_n hx hb dX5_add_40 rfl (lv_at hl 0 rfl) ?_
    refine va_get (ci := 5) (v := .ref (A 50)) (C := RX5) (T := TX5) (N := 7) hx hb hts k0 hown hK hP 5 (aC5 Y A S6) rfl 4 (by decide) k5 (fun _ h9 => h9) rfl dX5_add_41 ?_
    refine lv_aload_n hx hb dX5_add_44 rfl (lv_at hl 0 rfl) ?_
    refine va_get (ci := 5) (v := .int (gi S6 6)) (C := RX5) (T := TX5) (N := 7) hx hb hts k0 hown hK hP 5 (aC5 Y A S6) rfl 0 (by decide) k1 (fun _ h9 => h9) rfl dX5_add_45 ?_
    refine lv_iload hx hb dX5_add_48 (lv_at hl 4 rfl) ?_
    have v_9 := h.1
    have h := h.2
    obtain ⟨S8, eS8⟩ : ∃ z : gS, z = sA S6 37 (upd (ga S6 37) (gi S6 6).toNatClampNeg a4) := ⟨_, rfl⟩
    refine va_iast hx hb hK hP (hD S6) hS 50 0 (aC50 Y A S6) rfl v_9 dX5_add_50 (fun H locs hP _ hS => ?_)
    have hP := uC50 eS8 hP
    have h := h S8 eS8
    refine lv_aload_n hx hb dX5_add_51 rfl (lv_at hl 0 rfl) ?_
    refine va_get (ci := 5) (v := .ref (A 51)) (C := RX5) (T := TX5) (N := 7) hx hb hts k0 hown hK hP 5 (aC5 Y A S8) rfl 5 (by decide) k6 (fun _ h9 => h9) rfl dX5_add_52 ?_
    refine lv_aload_n hx hb dX5_add_55 rfl (lv_at hl 0 rfl) ?_
    refine va_get (ci := 5) (v := .int (gi S8 6)) (C := RX5) (T := TX5) (N := 7) hx hb hts k0 hown hK hP 5 (aC5 Y A S8) rfl 0 (by decide) k1 (fun _ h9 => h9) rfl dX5_add_56 ?_
    refine lv_iload hx hb dX5_add_59 (lv_at hl 5 rfl) ?_
    have v_11 := h.1
    have h := h.2
    obtain ⟨S10, eS10⟩ : ∃ z : gS, z = sA S8 38 (upd (ga S8 38) (gi S8 6).toNatClampNeg a5) := ⟨_, rfl⟩
    refine va_iast hx hb hK hP (hD S8) hS 51 0 (aC51 Y A S8) rfl v_11 dX5_add_61 (fun H locs hP _ hS => ?_)
    have hP := uC51 eS10 hP
    have h := h S10 eS10
    refine lv_aload_n hx hb dX5_add_62 rfl (lv_at hl 0 rfl) ?_
    refine va_get (ci := 5) (v := .ref (A 52)) (C := RX5) (T := TX5) (N := 7) hx hb hts k0 hown hK hP 5 (aC5 Y A S10) rfl 6 (by decide) k7 (fun _ h9 => h9) rfl dX5_add_63 ?_
    refine lv_aload_n hx hb dX5_add_66 rfl (lv_at hl 0 rfl) ?_
    refine va_get (ci := 5) (v := .int (gi S10 6)) (C := RX5) (T := TX5) (N := 7) hx hb hts k0 hown hK hP 5 (aC5 Y A S10) rfl 0 (by decide) k1 (fun _ h9 => h9) rfl dX5_add_67 ?_
    refine lv_iload hx hb dX5_add_70 (lv_at hl 6 rfl) ?_
    have v_13 := h.1
    have h := h.2
    obtain ⟨S12, eS12⟩ : ∃ z : gS, z = sA S10 39 (upd (ga S10 39) (gi S10 6).toNatClampNeg a6) := ⟨_, rfl⟩
    refine va_iast hx hb hK hP (hD S10) hS 52 0 (aC52 Y A S10) rfl v_13 dX5_add_72 (fun H locs hP _ hS => ?_)
    have hP := uC52 eS12 hP
    have h := h S12 eS12
    refine lv_aload_n hx hb dX5_add_73 rfl (lv_at hl 0 rfl) ?_
    refine lv_dup hx hb dX5_add_74 rfl ?_
    refine va_get (ci := 5) (v := .int (gi S12 6)) (C := RX5) (T := TX5) (N := 7) hx hb hts k0 hown hK hP 5 (aC5 Y A S12) rfl 0 (by decide) k1 (fun _ h9 => h9) rfl dX5_add_75 ?_
    refine lv_iconst (v := (1 : Int32)) hx hb dX5_add_78 (by decide) ?_
    refine lv_iadd hx hb dX5_add_79 ?_
    obtain ⟨S14, eS14⟩ : ∃ z : gS, z = sI S12 6 ((gi S12 6) + (1 : Int32)) := ⟨_, rfl⟩
    have h := h S14 eS14
    refine va_put (ci := 5) (v := .int ((gi S12 6) + (1 : Int32))) (ty := .int) (C := RX5) (T := TX5) (N := 7) hx hb hts k0 tyX5 tyX5_ok nmX5 hown hK hP (hD S12) hS 5 (aC5 Y A S12) rfl 0 (by decide) k1 (fun _ h9 => h9) rfl rfl rfl rfl (by simp) dX5_add_80 (fun H locs hP _ hS => ?_)
    have hP := pC5_0 eS14 hP
    exact hret _ _ _ _ _ dX5_add_83 h hP hS
  · have h := h.2 c1
    exact hret _ _ _ _ _ dX5_add_9 h hP hS

def qX5_liesIn (S : gS) (a1 : Int32) (a2 : Int32) (Q : Int32 → gS → Prop) : Prop :=
  vp_in a1 100 ∧ (((ga S 38 a1.toNatClampNeg) = 0 → (((ga S 39 a1.toNatClampNeg) = a2 → (Q (1 : Int32) S)) ∧ (¬ (ga S 39 a1.toNatClampNeg) = a2 → (Q (0 : Int32) S)))) ∧ (¬ (ga S 38 a1.toNatClampNeg) = 0 → (Q (0 : Int32) S)))
abbrev rmX5_liesIn : Room := { frames := 0, cells := 0, slots := 0, locals := 0 }
set_option maxHeartbeats 4000000 in
set_option maxRecDepth 100000 in
theorem kX5_liesIn (l : Launch) (D : va_G) (Y : Nat → ClassId) (A : Nat → Nat) (hI : iC A) (sz : Nat) (S : gS) (a1 : Int32) (a2 : Int32) (Q : Int32 → gS → Prop) (h : qX5_liesIn S a1 a2 Q) : Met l yX5_liesIn wsX5_liesIn rmX5_liesIn (gPc [.ref (A 5), .int a1, .int a2] sz D vwCl (tY Y) (wC Y A S)) (va_Qi Q (fun S' t => gH D vwCl (tY Y) (wC Y A S') t) (gF A 65 sz)) 0 0 (gF A 65 sz) := by
  refine gMet_z (cc := cX5_liesIn) (maxL := 3) (by decide +kernel) rfl (Nat.le_of_ble_eq_true rfl) (fun p e s m args below meth c Z H locs hx hb hml hts hown hK hP hS hret ls hl => ?_)
  have hown : s.vm.findClass RX5 = some m.cls := hown
  have hl : lv_has ls 3 [(0, .ref (A 5)), (1, .int a1), (2, .int a2)] := hl
  have hD : ∀ S0 : gS, va_D (gF A 65 s.heap.size) (wC Y A S0) := fun S0 => dC hI S0 (fun k hk => gF_in hk)
  have k0 : ∀ w ∈ u_ws RX5 TX5 7, w ∈ wsX5_liesIn := by decide +kernel
  have k1 := hts (.fieldLink RX5 28 "CoastWatch$Lots" "place" "[I") (by decide +kernel)
  have k2 := hts (.fieldLink RX5 31 "CoastWatch$Lots" "hide" "[I") (by decide +kernel)
  refine lv_aload_n hx hb dX5_liesIn_0 rfl (lv_at hl 0 rfl) ?_
  refine va_get (ci := 5) (v := .ref (A 51)) (C := RX5) (T := TX5) (N := 7) hx hb hts k0 hown hK hP 5 (aC5 Y A S) rfl 5 (by decide) k1 (fun _ h9 => h9) rfl dX5_liesIn_1 ?_
  refine lv_iload_n hx hb dX5_liesIn_4 rfl (lv_at hl 1 rfl) ?_
  have v_1 := h.1
  have h := h.2
  refine va_iald hx hb hK hP 51 0 (aC51 Y A S) rfl v_1 dX5_liesIn_5 ?_
  refine lv_if_ne (tgt := 23) hx hb dX5_liesIn_6 (by decide) (fun c2 => ?_) (fun c2 => ?_)
  · have h := h.2 c2
    refine lv_iconst (v := (0 : Int32)) hx hb dX5_liesIn_23 (by decide) ?_
    exact hret _ _ _ _ _ _ dX5_liesIn_24 rfl h hP hS
  · have h := h.1 c2
    refine lv_aload_n hx hb dX5_liesIn_9 rfl (lv_at hl 0 rfl) ?_
    refine va_get (ci := 5) (v := .ref (A 52)) (C := RX5) (T := TX5) (N := 7) hx hb hts k0 hown hK hP 5 (aC5 Y A S) rfl 6 (by decide) k2 (fun _ h9 => h9) rfl dX5_liesIn_10 ?_
    refine lv_iload_n hx hb dX5_liesIn_13 rfl (lv_at hl 1 rfl) ?_
    refine va_iald hx hb hK hP 52 0 (aC52 Y A S) rfl v_1 dX5_liesIn_14 ?_
    refine lv_iload_n hx hb dX5_liesIn_15 rfl (lv_at hl 2 rfl) ?_
    refine lv_icmp_ne (tgt := 23) hx hb dX5_liesIn_16 (by decide) (fun c3 => ?_) (fun c3 => ?_)
    · have h := h.2 c3
      refine lv_iconst (v := (0 : Int32)) hx hb dX5_liesIn_23 (by decide) ?_
      exact hret _ _ _ _ _ _ dX5_liesIn_24 rfl h hP hS
    · have h := h.1 c3
      refine lv_iconst (v := (1 : Int32)) hx hb dX5_liesIn_19 (by decide) ?_
      refine lv_goto (tgt := 24) hx hb dX5_liesIn_20 (by decide) ?_
      exact hret _ _ _ _ _ _ dX5_liesIn_24 rfl h hP hS

def qX5_cameTo_L2 (a1 : Int32) (a2 : Int32) (Q : Int32 → gS → Prop) (K2 : Int32 × gS → Prop) : Int32 × gS → Prop := fun ⟨v3, S⟩ =>
  ((gi S 6) ≤ v3 → (Q (0 : Int32) S)) ∧ (¬ (gi S 6) ≤ v3 → (vp_in v3 100 ∧ (((ga S 37 v3.toNatClampNeg) = a1 → (((ga S 36 v3.toNatClampNeg) = a2 → (Q (1 : Int32) S)) ∧ (¬ (ga S 36 v3.toNatClampNeg) = a2 → (∀ x6 : Int32, x6 = v3 + (1 : Int32) → (K2 (x6, S)))))) ∧ (¬ (ga S 37 v3.toNatClampNeg) = a1 → (∀ x4 : Int32, x4 = v3 + (1 : Int32) → (K2 (x4, S)))))))
def qX5_cameTo (S : gS) (a1 : Int32) (a2 : Int32) (Q : Int32 → gS → Prop) : Prop :=
  lp (qX5_cameTo_L2 a1 a2 Q) ((0 : Int32), S)
abbrev rmX5_cameTo : Room := { frames := 0, cells := 0, slots := 0, locals := 0 }
set_option maxHeartbeats 4000000 in
set_option maxRecDepth 100000 in
theorem kX5_cameTo (l : Launch) (D : va_G) (Y : Nat → ClassId) (A : Nat → Nat) (hI : iC A) (sz : Nat) (S : gS) (a1 : Int32) (a2 : Int32) (Q : Int32 → gS → Prop) (h : qX5_cameTo S a1 a2 Q) : Met l yX5_cameTo wsX5_cameTo rmX5_cameTo (gPc [.ref (A 5), .int a1, .int a2] sz D vwCl (tY Y) (wC Y A S)) (va_Qi Q (fun S' t => gH D vwCl (tY Y) (wC Y A S') t) (gF A 65 sz)) 0 0 (gF A 65 sz) := by
  refine gMet_z (cc := cX5_cameTo) (maxL := 4) (by decide +kernel) rfl (Nat.le_of_ble_eq_true rfl) (fun p e s m args below meth c Z H locs hx hb hml hts hown hK hP hS hret ls hl => ?_)
  have hown : s.vm.findClass RX5 = some m.cls := hown
  have hl : lv_has ls 4 [(0, .ref (A 5)), (1, .int a1), (2, .int a2)] := hl
  have hD : ∀ S0 : gS, va_D (gF A 65 s.heap.size) (wC Y A S0) := fun S0 => dC hI S0 (fun k hk => gF_in hk)
  have k0 : ∀ w ∈ u_ws RX5 TX5 7, w ∈ wsX5_cameTo := by decide +kernel
  have k1 := hts (.fieldLink RX5 9 "CoastWatch$Lots" "size" "I") (by decide +kernel)
  have k2 := hts (.fieldLink RX5 25 "CoastWatch$Lots" "cove" "[I") (by decide +kernel)
  have k3 := hts (.fieldLink RX5 22 "CoastWatch$Lots" "night" "[I") (by decide +kernel)
  have tL2 : ∀ (v3 : Int32) (S : gS), lp (qX5_cameTo_L2 a1 a2 Q) (v3, S) → ∀ (H : Heap) (locs : List Loc) (ls : Array Slot), va_P D vwCl (wC Y A S) H → va_S (gF A 65 s.heap.size) s.heap H locs → lv_has ls 4 [(0, .ref (A 5)), (1, .int a1), (2, .int a2), (3, .int v3)] → W p l e rmX5_cameTo s m args below meth c H locs 0 0 Z (F0 m 2 ls []) := by
    intro  v3 S h
    refine lp_walk (G := fun a => match a with | (v3, S) => ∀ (H : Heap) (locs : List Loc) (ls : Array Slot), va_P D vwCl (wC Y A S) H → va_S (gF A 65 s.heap.size) s.heap H locs → lv_has ls 4 [(0, .ref (A 5)), (1, .int a1), (2, .int a2), (3, .int v3)] → W p l e rmX5_cameTo s m args below meth c H locs 0 0 Z (F0 m 2 ls [])) (fun K2 a ih2 h => ?_) (v3, S) h
    obtain ⟨v3, S⟩ := a
    have ih2 : ∀ (v3 : Int32) (S : gS), K2 (v3, S) → ∀ (H : Heap) (locs : List Loc) (ls : Array Slot), va_P D vwCl (wC Y A S) H → va_S (gF A 65 s.heap.size) s.heap H locs → lv_has ls 4 [(0, .ref (A 5)), (1, .int a1), (2, .int a2), (3, .int v3)] → W p l e rmX5_cameTo s m args below meth c H locs 0 0 Z (F0 m 2 ls []) := fun v3 S q => ih2 (v3, S) q
    intro H locs ls hP hS hl
    refine lv_iload_n hx hb dX5_cameTo_2 rfl (lv_at hl 3 rfl) ?_
    refine lv_aload_n hx hb dX5_cameTo_3 rfl (lv_at hl 0 rfl) ?_
    refine va_get (ci := 5) (v := .int (gi S 6)) (C := RX5) (T := TX5) (N := 7) hx hb hts k0 hown hK hP 5 (aC5 Y A S) rfl 0 (by decide) k1 (fun _ h9 => h9) rfl dX5_cameTo_4 ?_
    refine lv_icmp_ge (tgt := 38) hx hb dX5_cameTo_7 (by decide) (fun c1 => ?_) (fun c1 => ?_)
    · have h := h.1 c1
      refine lv_iconst (v := (0 : Int32)) hx hb dX5_cameTo_38 (by decide) ?_
      exact hret _ _ _ _ _ _ dX5_cameTo_39 rfl h hP hS
    · have h := h.2 c1
      refine lv_aload_n hx hb dX5_cameTo_10 rfl (lv_at hl 0 rfl) ?_
      refine va_get (ci := 5) (v := .ref (A 50)) (C := RX5) (T := TX5) (N := 7) hx hb hts k0 hown hK hP 5 (aC5 Y A S) rfl 4 (by decide) k2 (fun _ h9 => h9) rfl dX5_cameTo_11 ?_
      refine lv_iload_n hx hb dX5_cameTo_14 rfl (lv_at hl 3 rfl) ?_
      have v_2 := h.1
      have h := h.2
      refine va_iald hx hb hK hP 50 0 (aC50 Y A S) rfl v_2 dX5_cameTo_15 ?_
      refine lv_iload_n hx hb dX5_cameTo_16 rfl (lv_at hl 1 rfl) ?_
      refine lv_icmp_ne (tgt := 32) hx hb dX5_cameTo_17 (by decide) (fun c3 => ?_) (fun c3 => ?_)
      · have h := h.2 c3
        obtain ⟨x4, ex4⟩ : ∃ z : Int32, z = v3 + (1 : Int32) := ⟨_, rfl⟩
        have h := h x4 ex4
        refine lv_iinc (v := x4) (lv' := [(3, .int x4), (0, .ref (A 5)), (1, .int a1), (2, .int a2)]) hx hb dX5_cameTo_32 hl (k := 3) rfl (by rw [ex4]; rfl) (by decide) rfl (fun ls hl => ?_)
        refine lv_goto (tgt := 2) hx hb dX5_cameTo_35 (by decide) ?_
        exact ih2 x4 S h _ _ _ hP hS (lv_sub hl [1, 2, 3, 0] rfl)
      · have h := h.1 c3
        refine lv_aload_n hx hb dX5_cameTo_20 rfl (lv_at hl 0 rfl) ?_
        refine va_get (ci := 5) (v := .ref (A 49)) (C := RX5) (T := TX5) (N := 7) hx hb hts k0 hown hK hP 5 (aC5 Y A S) rfl 3 (by decide) k3 (fun _ h9 => h9) rfl dX5_cameTo_21 ?_
        refine lv_iload_n hx hb dX5_cameTo_24 rfl (lv_at hl 3 rfl) ?_
        refine va_iald hx hb hK hP 49 0 (aC49 Y A S) rfl v_2 dX5_cameTo_25 ?_
        refine lv_iload_n hx hb dX5_cameTo_26 rfl (lv_at hl 2 rfl) ?_
        refine lv_icmp_ne (tgt := 32) hx hb dX5_cameTo_27 (by decide) (fun c5 => ?_) (fun c5 => ?_)
        · have h := h.2 c5
          obtain ⟨x6, ex6⟩ : ∃ z : Int32, z = v3 + (1 : Int32) := ⟨_, rfl⟩
          have h := h x6 ex6
          refine lv_iinc (v := x6) (lv' := [(3, .int x6), (0, .ref (A 5)), (1, .int a1), (2, .int a2)]) hx hb dX5_cameTo_32 hl (k := 3) rfl (by rw [ex6]; rfl) (by decide) rfl (fun ls hl => ?_)
          refine lv_goto (tgt := 2) hx hb dX5_cameTo_35 (by decide) ?_
          exact ih2 x6 S h _ _ _ hP hS (lv_sub hl [1, 2, 3, 0] rfl)
        · have h := h.1 c5
          refine lv_iconst (v := (1 : Int32)) hx hb dX5_cameTo_30 (by decide) ?_
          exact hret _ _ _ _ _ _ dX5_cameTo_31 rfl h hP hS
  refine lv_iconst (v := (0 : Int32)) hx hb dX5_cameTo_0 (by decide) ?_
  refine lv_istore_n (lv' := [(3, .int (0 : Int32)), (0, .ref (A 5)), (1, .int a1), (2, .int a2)]) hx hb dX5_cameTo_1 rfl hl (by decide) rfl (fun ls hl => ?_)
  exact tL2  (0 : Int32) S h _ _ _ hP hS (lv_sub hl [1, 2, 3, 0] rfl)

def qX5_heldIn_L4 (a1 : Int32) (Q : Int32 → gS → Prop) (K4 : Int32 × Int32 × gS → Prop) : Int32 × Int32 × gS → Prop := fun ⟨v2, v3, S⟩ =>
  ((gi S 6) ≤ v3 → (Q v2 S)) ∧ (¬ (gi S 6) ≤ v3 → (vp_in v3 100 ∧ ((((ga S 36 v3.toNatClampNeg) / (30 : Int32)) = a1 → (((ga S 38 v3.toNatClampNeg) = 0 → (∀ x7 : Int32, x7 = (v2 + (ga S 35 v3.toNatClampNeg)) → (∀ x8 : Int32, x8 = v3 + (1 : Int32) → (K4 (x7, x8, S))))) ∧ (¬ (ga S 38 v3.toNatClampNeg) = 0 → (∀ x6 : Int32, x6 = v3 + (1 : Int32) → (K4 (v2, x6, S)))))) ∧ (¬ ((ga S 36 v3.toNatClampNeg) / (30 : Int32)) = a1 → (∀ x4 : Int32, x4 = v3 + (1 : Int32) → (K4 (v2, x4, S)))))))
def qX5_heldIn (S : gS) (a1 : Int32) (Q : Int32 → gS → Prop) : Prop :=
  lp (qX5_heldIn_L4 a1 Q) ((0 : Int32), (0 : Int32), S)
abbrev rmX5_heldIn : Room := { frames := 0, cells := 0, slots := 0, locals := 0 }
set_option maxHeartbeats 4000000 in
set_option maxRecDepth 100000 in
theorem kX5_heldIn (l : Launch) (D : va_G) (Y : Nat → ClassId) (A : Nat → Nat) (hI : iC A) (sz : Nat) (S : gS) (a1 : Int32) (Q : Int32 → gS → Prop) (h : qX5_heldIn S a1 Q) : Met l yX5_heldIn wsX5_heldIn rmX5_heldIn (gPc [.ref (A 5), .int a1] sz D vwCl (tY Y) (wC Y A S)) (va_Qi Q (fun S' t => gH D vwCl (tY Y) (wC Y A S') t) (gF A 65 sz)) 0 0 (gF A 65 sz) := by
  refine gMet_i (cc := cX5_heldIn) (maxL := 4) (by decide +kernel) rfl (Nat.le_of_ble_eq_true rfl) (fun p e s m args below meth c Z H locs hx hb hml hts hown hK hP hS hret ls hl => ?_)
  have hown : s.vm.findClass RX5 = some m.cls := hown
  have hl : lv_has ls 4 [(0, .ref (A 5)), (1, .int a1)] := hl
  have hD : ∀ S0 : gS, va_D (gF A 65 s.heap.size) (wC Y A S0) := fun S0 => dC hI S0 (fun k hk => gF_in hk)
  have k0 : ∀ w ∈ u_ws RX5 TX5 7, w ∈ wsX5_heldIn := by decide +kernel
  have k1 := hts (.fieldLink RX5 9 "CoastWatch$Lots" "size" "I") (by decide +kernel)
  have k2 := hts (.fieldLink RX5 22 "CoastWatch$Lots" "night" "[I") (by decide +kernel)
  have k3 := hts (.fieldLink RX5 28 "CoastWatch$Lots" "place" "[I") (by decide +kernel)
  have k4 := hts (.fieldLink RX5 19 "CoastWatch$Lots" "casks" "[I") (by decide +kernel)
  have tL4 : ∀ (v2 : Int32) (v3 : Int32) (S : gS), lp (qX5_heldIn_L4 a1 Q) (v2, v3, S) → ∀ (H : Heap) (locs : List Loc) (ls : Array Slot), va_P D vwCl (wC Y A S) H → va_S (gF A 65 s.heap.size) s.heap H locs → lv_has ls 4 [(0, .ref (A 5)), (1, .int a1), (2, .int v2), (3, .int v3)] → W p l e rmX5_heldIn s m args below meth c H locs 0 0 Z (F0 m 4 ls []) := by
    intro  v2 v3 S h
    refine lp_walk (G := fun a => match a with | (v2, v3, S) => ∀ (H : Heap) (locs : List Loc) (ls : Array Slot), va_P D vwCl (wC Y A S) H → va_S (gF A 65 s.heap.size) s.heap H locs → lv_has ls 4 [(0, .ref (A 5)), (1, .int a1), (2, .int v2), (3, .int v3)] → W p l e rmX5_heldIn s m args below meth c H locs 0 0 Z (F0 m 4 ls [])) (fun K4 a ih4 h => ?_) (v2, v3, S) h
    obtain ⟨v2, v3, S⟩ := a
    have ih4 : ∀ (v2 : Int32) (v3 : Int32) (S : gS), K4 (v2, v3, S) → ∀ (H : Heap) (locs : List Loc) (ls : Array Slot), va_P D vwCl (wC Y A S) H → va_S (gF A 65 s.heap.size) s.heap H locs → lv_has ls 4 [(0, .ref (A 5)), (1, .int a1), (2, .int v2), (3, .int v3)] → W p l e rmX5_heldIn s m args below meth c H locs 0 0 Z (F0 m 4 ls []) := fun v2 v3 S q => ih4 (v2, v3, S) q
    intro H locs ls hP hS hl
    refine lv_iload_n hx hb dX5_heldIn_4 rfl (lv_at hl 3 rfl) ?_
    refine lv_aload_n hx hb dX5_heldIn_5 rfl (lv_at hl 0 rfl) ?_
    refine va_get (ci := 5) (v := .int (gi S 6)) (C := RX5) (T := TX5) (N := 7) hx hb hts k0 hown hK hP 5 (aC5 Y A S) rfl 0 (by decide) k1 (fun _ h9 => h9) rfl dX5_heldIn_6 ?_
    refine lv_icmp_ge (tgt := 49) hx hb dX5_heldIn_9 (by decide) (fun c1 => ?_) (fun c1 => ?_)
    · have h := h.1 c1
      refine lv_iload_n hx hb dX5_heldIn_49 rfl (lv_at hl 2 rfl) ?_
      exact hret _ _ _ _ _ _ dX5_heldIn_50 h hP hS
    · have h := h.2 c1
      refine lv_aload_n hx hb dX5_heldIn_12 rfl (lv_at hl 0 rfl) ?_
      refine va_get (ci := 5) (v := .ref (A 49)) (C := RX5) (T := TX5) (N := 7) hx hb hts k0 hown hK hP 5 (aC5 Y A S) rfl 3 (by decide) k2 (fun _ h9 => h9) rfl dX5_heldIn_13 ?_
      refine lv_iload_n hx hb dX5_heldIn_16 rfl (lv_at hl 3 rfl) ?_
      have v_2 := h.1
      have h := h.2
      refine va_iald hx hb hK hP 49 0 (aC49 Y A S) rfl v_2 dX5_heldIn_17 ?_
      refine lv_bipush (v := (30 : Int32)) hx hb dX5_heldIn_18 (by decide) ?_
      refine lv_idiv hx hb dX5_heldIn_20 (by decide) ?_
      refine lv_iload_n hx hb dX5_heldIn_21 rfl (lv_at hl 1 rfl) ?_
      refine lv_icmp_ne (tgt := 43) hx hb dX5_heldIn_22 (by decide) (fun c3 => ?_) (fun c3 => ?_)
      · have h := h.2 c3
        obtain ⟨x4, ex4⟩ : ∃ z : Int32, z = v3 + (1 : Int32) := ⟨_, rfl⟩
        have h := h x4 ex4
        refine lv_iinc (v := x4) (lv' := [(3, .int x4), (0, .ref (A 5)), (1, .int a1), (2, .int v2)]) hx hb dX5_heldIn_43 hl (k := 3) rfl (by rw [ex4]; rfl) (by decide) rfl (fun ls hl => ?_)
        refine lv_goto (tgt := 4) hx hb dX5_heldIn_46 (by decide) ?_
        exact ih4 v2 x4 S h _ _ _ hP hS (lv_sub hl [1, 2, 3, 0] rfl)
      · have h := h.1 c3
        refine lv_aload_n hx hb dX5_heldIn_25 rfl (lv_at hl 0 rfl) ?_
        refine va_get (ci := 5) (v := .ref (A 51)) (C := RX5) (T := TX5) (N := 7) hx hb hts k0 hown hK hP 5 (aC5 Y A S) rfl 5 (by decide) k3 (fun _ h9 => h9) rfl dX5_heldIn_26 ?_
        refine lv_iload_n hx hb dX5_heldIn_29 rfl (lv_at hl 3 rfl) ?_
        refine va_iald hx hb hK hP 51 0 (aC51 Y A S) rfl v_2 dX5_heldIn_30 ?_
        refine lv_if_ne (tgt := 43) hx hb dX5_heldIn_31 (by decide) (fun c5 => ?_) (fun c5 => ?_)
        · have h := h.2 c5
          obtain ⟨x6, ex6⟩ : ∃ z : Int32, z = v3 + (1 : Int32) := ⟨_, rfl⟩
          have h := h x6 ex6
          refine lv_iinc (v := x6) (lv' := [(3, .int x6), (0, .ref (A 5)), (1, .int a1), (2, .int v2)]) hx hb dX5_heldIn_43 hl (k := 3) rfl (by rw [ex6]; rfl) (by decide) rfl (fun ls hl => ?_)
          refine lv_goto (tgt := 4) hx hb dX5_heldIn_46 (by decide) ?_
          exact ih4 v2 x6 S h _ _ _ hP hS (lv_sub hl [1, 2, 3, 0] rfl)
        · have h := h.1 c5
          refine lv_iload_n hx hb dX5_heldIn_34 rfl (lv_at hl 2 rfl) ?_
          refine lv_aload_n hx hb dX5_heldIn_35 rfl (lv_at hl 0 rfl) ?_
          refine va_get (ci := 5) (v := .ref (A 48)) (C := RX5) (T := TX5) (N := 7) hx hb hts k0 hown hK hP 5 (aC5 Y A S) rfl 2 (by decide) k4 (fun _ h9 => h9) rfl dX5_heldIn_36 ?_
          refine lv_iload_n hx hb dX5_heldIn_39 rfl (lv_at hl 3 rfl) ?_
          refine va_iald hx hb hK hP 48 0 (aC48 Y A S) rfl v_2 dX5_heldIn_40 ?_
          refine lv_iadd hx hb dX5_heldIn_41 ?_
          refine lv_topi (fun x7 ex7 => ?_)
          have h := h x7 ex7
          refine lv_istore_n (lv' := [(2, .int x7), (0, .ref (A 5)), (1, .int a1), (3, .int v3)]) hx hb dX5_heldIn_42 rfl hl (by decide) rfl (fun ls hl => ?_)
          obtain ⟨x8, ex8⟩ : ∃ z : Int32, z = v3 + (1 : Int32) := ⟨_, rfl⟩
          have h := h x8 ex8
          refine lv_iinc (v := x8) (lv' := [(3, .int x8), (2, .int x7), (0, .ref (A 5)), (1, .int a1)]) hx hb dX5_heldIn_43 hl (k := 3) rfl (by rw [ex8]; rfl) (by decide) rfl (fun ls hl => ?_)
          refine lv_goto (tgt := 4) hx hb dX5_heldIn_46 (by decide) ?_
          exact ih4 x7 x8 S h _ _ _ hP hS (lv_sub hl [2, 3, 1, 0] rfl)
  refine lv_iconst (v := (0 : Int32)) hx hb dX5_heldIn_0 (by decide) ?_
  refine lv_istore_n (lv' := [(2, .int (0 : Int32)), (0, .ref (A 5)), (1, .int a1)]) hx hb dX5_heldIn_1 rfl hl (by decide) rfl (fun ls hl => ?_)
  refine lv_iconst (v := (0 : Int32)) hx hb dX5_heldIn_2 (by decide) ?_
  refine lv_istore_n (lv' := [(3, .int (0 : Int32)), (2, .int (0 : Int32)), (0, .ref (A 5)), (1, .int a1)]) hx hb dX5_heldIn_3 rfl hl (by decide) rfl (fun ls hl => ?_)
  exact tL4  (0 : Int32) (0 : Int32) S h _ _ _ hP hS (lv_sub hl [2, 3, 1, 0] rfl)

def qX5_seizedIn_L4 (a1 : Int32) (Q : Int32 → gS → Prop) (K4 : Int32 × Int32 × gS → Prop) : Int32 × Int32 × gS → Prop := fun ⟨v2, v3, S⟩ =>
  ((gi S 6) ≤ v3 → (Q v2 S)) ∧ (¬ (gi S 6) ≤ v3 → (vp_in v3 100 ∧ ((((ga S 36 v3.toNatClampNeg) / (30 : Int32)) = a1 → (((ga S 38 v3.toNatClampNeg) = 0 → (∀ x6 : Int32, x6 = v3 + (1 : Int32) → (K4 (v2, x6, S)))) ∧ (¬ (ga S 38 v3.toNatClampNeg) = 0 → (∀ x7 : Int32, x7 = (v2 + (ga S 35 v3.toNatClampNeg)) → (∀ x8 : Int32, x8 = v3 + (1 : Int32) → (K4 (x7, x8, S))))))) ∧ (¬ ((ga S 36 v3.toNatClampNeg) / (30 : Int32)) = a1 → (∀ x4 : Int32, x4 = v3 + (1 : Int32) → (K4 (v2, x4, S)))))))
def qX5_seizedIn (S : gS) (a1 : Int32) (Q : Int32 → gS → Prop) : Prop :=
  lp (qX5_seizedIn_L4 a1 Q) ((0 : Int32), (0 : Int32), S)
abbrev rmX5_seizedIn : Room := { frames := 0, cells := 0, slots := 0, locals := 0 }
set_option maxHeartbeats 4000000 in
set_option maxRecDepth 100000 in
theorem kX5_seizedIn (l : Launch) (D : va_G) (Y : Nat → ClassId) (A : Nat → Nat) (hI : iC A) (sz : Nat) (S : gS) (a1 : Int32) (Q : Int32 → gS → Prop) (h : qX5_seizedIn S a1 Q) : Met l yX5_seizedIn wsX5_seizedIn rmX5_seizedIn (gPc [.ref (A 5), .int a1] sz D vwCl (tY Y) (wC Y A S)) (va_Qi Q (fun S' t => gH D vwCl (tY Y) (wC Y A S') t) (gF A 65 sz)) 0 0 (gF A 65 sz) := by
  refine gMet_i (cc := cX5_seizedIn) (maxL := 4) (by decide +kernel) rfl (Nat.le_of_ble_eq_true rfl) (fun p e s m args below meth c Z H locs hx hb hml hts hown hK hP hS hret ls hl => ?_)
  have hown : s.vm.findClass RX5 = some m.cls := hown
  have hl : lv_has ls 4 [(0, .ref (A 5)), (1, .int a1)] := hl
  have hD : ∀ S0 : gS, va_D (gF A 65 s.heap.size) (wC Y A S0) := fun S0 => dC hI S0 (fun k hk => gF_in hk)
  have k0 : ∀ w ∈ u_ws RX5 TX5 7, w ∈ wsX5_seizedIn := by decide +kernel
  have k1 := hts (.fieldLink RX5 9 "CoastWatch$Lots" "size" "I") (by decide +kernel)
  have k2 := hts (.fieldLink RX5 22 "CoastWatch$Lots" "night" "[I") (by decide +kernel)
  have k3 := hts (.fieldLink RX5 28 "CoastWatch$Lots" "place" "[I") (by decide +kernel)
  have k4 := hts (.fieldLink RX5 19 "CoastWatch$Lots" "casks" "[I") (by decide +kernel)
  have tL4 : ∀ (v2 : Int32) (v3 : Int32) (S : gS), lp (qX5_seizedIn_L4 a1 Q) (v2, v3, S) → ∀ (H : Heap) (locs : List Loc) (ls : Array Slot), va_P D vwCl (wC Y A S) H → va_S (gF A 65 s.heap.size) s.heap H locs → lv_has ls 4 [(0, .ref (A 5)), (1, .int a1), (2, .int v2), (3, .int v3)] → W p l e rmX5_seizedIn s m args below meth c H locs 0 0 Z (F0 m 4 ls []) := by
    intro  v2 v3 S h
    refine lp_walk (G := fun a => match a with | (v2, v3, S) => ∀ (H : Heap) (locs : List Loc) (ls : Array Slot), va_P D vwCl (wC Y A S) H → va_S (gF A 65 s.heap.size) s.heap H locs → lv_has ls 4 [(0, .ref (A 5)), (1, .int a1), (2, .int v2), (3, .int v3)] → W p l e rmX5_seizedIn s m args below meth c H locs 0 0 Z (F0 m 4 ls [])) (fun K4 a ih4 h => ?_) (v2, v3, S) h
    obtain ⟨v2, v3, S⟩ := a
    have ih4 : ∀ (v2 : Int32) (v3 : Int32) (S : gS), K4 (v2, v3, S) → ∀ (H : Heap) (locs : List Loc) (ls : Array Slot), va_P D vwCl (wC Y A S) H → va_S (gF A 65 s.heap.size) s.heap H locs → lv_has ls 4 [(0, .ref (A 5)), (1, .int a1), (2, .int v2), (3, .int v3)] → W p l e rmX5_seizedIn s m args below meth c H locs 0 0 Z (F0 m 4 ls []) := fun v2 v3 S q => ih4 (v2, v3, S) q
    intro H locs ls hP hS hl
    refine lv_iload_n hx hb dX5_seizedIn_4 rfl (lv_at hl 3 rfl) ?_
    refine lv_aload_n hx hb dX5_seizedIn_5 rfl (lv_at hl 0 rfl) ?_
    refine va_get (ci := 5) (v := .int (gi S 6)) (C := RX5) (T := TX5) (N := 7) hx hb hts k0 hown hK hP 5 (aC5 Y A S) rfl 0 (by decide) k1 (fun _ h9 => h9) rfl dX5_seizedIn_6 ?_
    refine lv_icmp_ge (tgt := 49) hx hb dX5_seizedIn_9 (by decide) (fun c1 => ?_) (fun c1 => ?_)
    · have h := h.1 c1
      refine lv_iload_n hx hb dX5_seizedIn_49 rfl (lv_at hl 2 rfl) ?_
      exact hret _ _ _ _ _ _ dX5_seizedIn_50 h hP hS
    · have h := h.2 c1
      refine lv_aload_n hx hb dX5_seizedIn_12 rfl (lv_at hl 0 rfl) ?_
      refine va_get (ci := 5) (v := .ref (A 49)) (C := RX5) (T := TX5) (N := 7) hx hb hts k0 hown hK hP 5 (aC5 Y A S) rfl 3 (by decide) k2 (fun _ h9 => h9) rfl dX5_seizedIn_13 ?_
      refine lv_iload_n hx hb dX5_seizedIn_16 rfl (lv_at hl 3 rfl) ?_
      have v_2 := h.1
      have h := h.2
      refine va_iald hx hb hK hP 49 0 (aC49 Y A S) rfl v_2 dX5_seizedIn_17 ?_
      refine lv_bipush (v := (30 : Int32)) hx hb dX5_seizedIn_18 (by decide) ?_
      refine lv_idiv hx hb dX5_seizedIn_20 (by decide) ?_
      refine lv_iload_n hx hb dX5_seizedIn_21 rfl (lv_at hl 1 rfl) ?_
      refine lv_icmp_ne (tgt := 43) hx hb dX5_seizedIn_22 (by decide) (fun c3 => ?_) (fun c3 => ?_)
      · have h := h.2 c3
        obtain ⟨x4, ex4⟩ : ∃ z : Int32, z = v3 + (1 : Int32) := ⟨_, rfl⟩
        have h := h x4 ex4
        refine lv_iinc (v := x4) (lv' := [(3, .int x4), (0, .ref (A 5)), (1, .int a1), (2, .int v2)]) hx hb dX5_seizedIn_43 hl (k := 3) rfl (by rw [ex4]; rfl) (by decide) rfl (fun ls hl => ?_)
        refine lv_goto (tgt := 4) hx hb dX5_seizedIn_46 (by decide) ?_
        exact ih4 v2 x4 S h _ _ _ hP hS (lv_sub hl [1, 2, 3, 0] rfl)
      · have h := h.1 c3
        refine lv_aload_n hx hb dX5_seizedIn_25 rfl (lv_at hl 0 rfl) ?_
        refine va_get (ci := 5) (v := .ref (A 51)) (C := RX5) (T := TX5) (N := 7) hx hb hts k0 hown hK hP 5 (aC5 Y A S) rfl 5 (by decide) k3 (fun _ h9 => h9) rfl dX5_seizedIn_26 ?_
        refine lv_iload_n hx hb dX5_seizedIn_29 rfl (lv_at hl 3 rfl) ?_
        refine va_iald hx hb hK hP 51 0 (aC51 Y A S) rfl v_2 dX5_seizedIn_30 ?_
        refine lv_if_eq (tgt := 43) hx hb dX5_seizedIn_31 (by decide) (fun c5 => ?_) (fun c5 => ?_)
        · have h := h.1 c5
          obtain ⟨x6, ex6⟩ : ∃ z : Int32, z = v3 + (1 : Int32) := ⟨_, rfl⟩
          have h := h x6 ex6
          refine lv_iinc (v := x6) (lv' := [(3, .int x6), (0, .ref (A 5)), (1, .int a1), (2, .int v2)]) hx hb dX5_seizedIn_43 hl (k := 3) rfl (by rw [ex6]; rfl) (by decide) rfl (fun ls hl => ?_)
          refine lv_goto (tgt := 4) hx hb dX5_seizedIn_46 (by decide) ?_
          exact ih4 v2 x6 S h _ _ _ hP hS (lv_sub hl [1, 2, 3, 0] rfl)
        · have h := h.2 c5
          refine lv_iload_n hx hb dX5_seizedIn_34 rfl (lv_at hl 2 rfl) ?_
          refine lv_aload_n hx hb dX5_seizedIn_35 rfl (lv_at hl 0 rfl) ?_
          refine va_get (ci := 5) (v := .ref (A 48)) (C := RX5) (T := TX5) (N := 7) hx hb hts k0 hown hK hP 5 (aC5 Y A S) rfl 2 (by decide) k4 (fun _ h9 => h9) rfl dX5_seizedIn_36 ?_
          refine lv_iload_n hx hb dX5_seizedIn_39 rfl (lv_at hl 3 rfl) ?_
          refine va_iald hx hb hK hP 48 0 (aC48 Y A S) rfl v_2 dX5_seizedIn_40 ?_
          refine lv_iadd hx hb dX5_seizedIn_41 ?_
          refine lv_topi (fun x7 ex7 => ?_)
          have h := h x7 ex7
          refine lv_istore_n (lv' := [(2, .int x7), (0, .ref (A 5)), (1, .int a1), (3, .int v3)]) hx hb dX5_seizedIn_42 rfl hl (by decide) rfl (fun ls hl => ?_)
          obtain ⟨x8, ex8⟩ : ∃ z : Int32, z = v3 + (1 : Int32) := ⟨_, rfl⟩
          have h := h x8 ex8
          refine lv_iinc (v := x8) (lv' := [(3, .int x8), (2, .int x7), (0, .ref (A 5)), (1, .int a1)]) hx hb dX5_seizedIn_43 hl (k := 3) rfl (by rw [ex8]; rfl) (by decide) rfl (fun ls hl => ?_)
          refine lv_goto (tgt := 4) hx hb dX5_seizedIn_46 (by decide) ?_
          exact ih4 x7 x8 S h _ _ _ hP hS (lv_sub hl [2, 3, 1, 0] rfl)
  refine lv_iconst (v := (0 : Int32)) hx hb dX5_seizedIn_0 (by decide) ?_
  refine lv_istore_n (lv' := [(2, .int (0 : Int32)), (0, .ref (A 5)), (1, .int a1)]) hx hb dX5_seizedIn_1 rfl hl (by decide) rfl (fun ls hl => ?_)
  refine lv_iconst (v := (0 : Int32)) hx hb dX5_seizedIn_2 (by decide) ?_
  refine lv_istore_n (lv' := [(3, .int (0 : Int32)), (2, .int (0 : Int32)), (0, .ref (A 5)), (1, .int a1)]) hx hb dX5_seizedIn_3 rfl hl (by decide) rfl (fun ls hl => ?_)
  exact tL4  (0 : Int32) (0 : Int32) S h _ _ _ hP hS (lv_sub hl [2, 3, 1, 0] rfl)

def qX6_landedOf (S : gS) (a1 : Int32) (a2 : Int32) (a3 : Int32) (Q : Int32 → gS → Prop) : Prop :=
  vp_in a1 34 ∧ (Q (if (0 : Int32) < ((a2 - (ga S 50 a1.toNatClampNeg)) - a3) then ((a2 - (ga S 50 a1.toNatClampNeg)) - a3) else (0 : Int32)) S)
abbrev rmX6_landedOf : Room := { frames := 1, cells := 0, slots := 0, locals := 15 }
set_option maxHeartbeats 4000000 in
set_option maxRecDepth 100000 in
theorem kX6_landedOf (l : Launch) (D : va_G) (Y : Nat → ClassId) (A : Nat → Nat) (hI : iC A) (sz : Nat) (S : gS) (a1 : Int32) (a2 : Int32) (a3 : Int32) (Q : Int32 → gS → Prop) (h : qX6_landedOf S a1 a2 a3 Q) : Met l yX6_landedOf wsX6_landedOf rmX6_landedOf (gPc [.ref (A 8), .int a1, .int a2, .int a3] sz D vwCl (tY Y) (wC Y A S)) (va_Qi Q (fun S' t => gH D vwCl (tY Y) (wC Y A S') t) (gF A 65 sz)) 0 0 (gF A 65 sz) := by
  refine gMet_i (cc := cX6_landedOf) (maxL := 4) (by decide +kernel) rfl (Nat.le_of_ble_eq_true rfl) (fun p e s m args below meth c Z H locs hx hb hml hts hown hK hP hS hret ls hl => ?_)
  have hown : s.vm.findClass RX6 = some m.cls := hown
  have hl : lv_has ls 4 [(0, .ref (A 8)), (1, .int a1), (2, .int a2), (3, .int a3)] := hl
  have hD : ∀ S0 : gS, va_D (gF A 65 s.heap.size) (wC Y A S0) := fun S0 => dC hI S0 (fun k hk => gF_in hk)
  have k0 : ∀ w ∈ u_ws RX6 TX6 3, w ∈ wsX6_landedOf := by decide +kernel
  have k1 := hts (.fieldLink RX6 18 "CoastWatch$Seasons" "byLaw" "[I") (by decide +kernel)
  have k2 := hts (.methodLink RX6 21 Lib.Math.max.name) (by decide +kernel)
  have k3 := hts (.static Lib.Math.max.name) (by decide +kernel)
  have k4 := hts (.initialized "java/lang/Math") (by decide +kernel)
  have k5 := hts (.code Lib.Math.max.name Lib.Math.max.code 2 (some .int)) (by decide +kernel)
  refine lv_iconst (v := (0 : Int32)) hx hb dX6_landedOf_0 (by decide) ?_
  refine lv_iload_n hx hb dX6_landedOf_1 rfl (lv_at hl 2 rfl) ?_
  refine lv_aload_n hx hb dX6_landedOf_2 rfl (lv_at hl 0 rfl) ?_
  refine va_get (ci := 6) (v := .ref (A 63)) (C := RX6) (T := TX6) (N := 3) hx hb hts k0 hown hK hP 8 (aC8 Y A S) rfl 2 (by decide) k1 (fun _ h9 => h9) rfl dX6_landedOf_3 ?_
  refine lv_iload_n hx hb dX6_landedOf_6 rfl (lv_at hl 1 rfl) ?_
  have v_1 := h.1
  have h := h.2
  refine va_iald hx hb hK hP 63 0 (aC63 Y A S) rfl v_1 dX6_landedOf_7 ?_
  refine lv_isub hx hb dX6_landedOf_8 ?_
  refine lv_iload_n hx hb dX6_landedOf_9 rfl (lv_at hl 3 rfl) ?_
  refine lv_isub hx hb dX6_landedOf_10 ?_
  refine va_mmax hx hb (hml.trans hl.1.symm) hown k2 k3 k4 k5 (Nat.le_of_ble_eq_true rfl) (Nat.le_of_ble_eq_true rfl) (Nat.zero_le _) (Nat.zero_le _) dX6_landedOf_11 ?_
  exact hret _ _ _ _ _ _ dX6_landedOf_14 h hP hS

def qX7_isMissing (S : gS) (a1 : Int32) (Q : Int32 → gS → Prop) : Prop :=
  vp_in a1 4 ∧ ((0 ≤ (ga S 6 a1.toNatClampNeg) → (Q (0 : Int32) S)) ∧ (¬ 0 ≤ (ga S 6 a1.toNatClampNeg) → (Q (1 : Int32) S)))
abbrev rmX7_isMissing : Room := { frames := 0, cells := 0, slots := 0, locals := 0 }
set_option maxHeartbeats 4000000 in
set_option maxRecDepth 100000 in
theorem kX7_isMissing (l : Launch) (D : va_G) (Y : Nat → ClassId) (A : Nat → Nat) (hI : iC A) (sz : Nat) (S : gS) (a1 : Int32) (Q : Int32 → gS → Prop) (h : qX7_isMissing S a1 Q) : Met l yX7_isMissing wsX7_isMissing rmX7_isMissing (gPc [.ref (A 1), .int a1] sz D vwCl (tY Y) (wC Y A S)) (va_Qi Q (fun S' t => gH D vwCl (tY Y) (wC Y A S') t) (gF A 65 sz)) 0 0 (gF A 65 sz) := by
  refine gMet_z (cc := cX7_isMissing) (maxL := 2) (by decide +kernel) rfl (Nat.le_of_ble_eq_true rfl) (fun p e s m args below meth c Z H locs hx hb hml hts hown hK hP hS hret ls hl => ?_)
  have hown : s.vm.findClass RX7 = some m.cls := hown
  have hl : lv_has ls 2 [(0, .ref (A 1)), (1, .int a1)] := hl
  have hD : ∀ S0 : gS, va_D (gF A 65 s.heap.size) (wC Y A S0) := fun S0 => dC hI S0 (fun k hk => gF_in hk)
  have k0 : ∀ w ∈ u_ws RX7 TX7 2, w ∈ wsX7_isMissing := by decide +kernel
  have k1 := hts (.fieldLink RX7 16 "CoastWatch$Tables" "length" "[I") (by decide +kernel)
  refine lv_aload_n hx hb dX7_isMissing_0 rfl (lv_at hl 0 rfl) ?_
  refine va_get (ci := 7) (v := .ref (A 17)) (C := RX7) (T := TX7) (N := 2) hx hb hts k0 hown hK hP 1 (aC1 Y A S) rfl 1 (by decide) k1 (fun _ h9 => h9) rfl dX7_isMissing_1 ?_
  refine lv_iload_n hx hb dX7_isMissing_4 rfl (lv_at hl 1 rfl) ?_
  have v_1 := h.1
  have h := h.2
  refine va_iald hx hb hK hP 17 0 (aC17 Y A S) rfl v_1 dX7_isMissing_5 ?_
  refine lv_if_ge (tgt := 13) hx hb dX7_isMissing_6 (by decide) (fun c2 => ?_) (fun c2 => ?_)
  · have h := h.1 c2
    refine lv_iconst (v := (0 : Int32)) hx hb dX7_isMissing_13 (by decide) ?_
    exact hret _ _ _ _ _ _ dX7_isMissing_14 rfl h hP hS
  · have h := h.2 c2
    refine lv_iconst (v := (1 : Int32)) hx hb dX7_isMissing_9 (by decide) ?_
    refine lv_goto (tgt := 14) hx hb dX7_isMissing_10 (by decide) ?_
    exact hret _ _ _ _ _ _ dX7_isMissing_14 rfl h hP hS

def qX7_begin_L9 (a1 : Int32) (a2 : Int32) (Q : gS → Prop) (K9 : Int32 × gS → Prop) : Int32 × gS → Prop := fun ⟨v3, S⟩ =>
  ((30 : Int32) ≤ v3 → (Q S)) ∧ (¬ (30 : Int32) ≤ v3 → (vp_in a1 4 ∧ (vp_in v3 30 ∧ (∀ S3 : gS, S3 = sA S (2 + a1.toNatClampNeg) (upd (ga S (2 + a1.toNatClampNeg)) v3.toNatClampNeg (0 : Int32)) → (∀ x5 : Int32, x5 = v3 + (1 : Int32) → (K9 (x5, S3)))))))
def qX7_begin (S : gS) (a1 : Int32) (a2 : Int32) (Q : gS → Prop) : Prop :=
  vp_in a1 4 ∧ (∀ S6 : gS, S6 = sA S 6 (upd (ga S 6) a1.toNatClampNeg a2) → (lp (qX7_begin_L9 a1 a2 Q) ((0 : Int32), S6)))
abbrev rmX7_begin : Room := { frames := 0, cells := 0, slots := 0, locals := 0 }
set_option maxHeartbeats 4000000 in
set_option maxRecDepth 100000 in
theorem kX7_begin (l : Launch) (D : va_G) (Y : Nat → ClassId) (A : Nat → Nat) (hI : iC A) (sz : Nat) (S : gS) (a1 : Int32) (a2 : Int32) (Q : gS → Prop) (h : qX7_begin S a1 a2 Q) : Met l yX7_begin wsX7_begin rmX7_begin (gPc [.ref (A 1), .int a1, .int a2] sz D vwCl (tY Y) (wC Y A S)) (va_Qv Q (fun S' t => gH D vwCl (tY Y) (wC Y A S') t) (gF A 65 sz)) 0 0 (gF A 65 sz) := by
  refine gMet_v (cc := cX7_begin) (maxL := 4) (by decide +kernel) rfl (Nat.le_of_ble_eq_true rfl) (fun p e s m args below meth c Z H locs hx hb hml hts hown hK hP hS hret ls hl => ?_)
  have hown : s.vm.findClass RX7 = some m.cls := hown
  have hl : lv_has ls 4 [(0, .ref (A 1)), (1, .int a1), (2, .int a2)] := hl
  have hD : ∀ S0 : gS, va_D (gF A 65 s.heap.size) (wC Y A S0) := fun S0 => dC hI S0 (fun k hk => gF_in hk)
  have k0 : ∀ w ∈ u_ws RX7 TX7 2, w ∈ wsX7_begin := by decide +kernel
  have k1 := hts (.fieldLink RX7 11 "CoastWatch$Tables" "numbers" "[[I") (by decide +kernel)
  have k2 := hts (.fieldLink RX7 16 "CoastWatch$Tables" "length" "[I") (by decide +kernel)
  have tL9 : ∀ (v3 : Int32) (S : gS), lp (qX7_begin_L9 a1 a2 Q) (v3, S) → ∀ (H : Heap) (locs : List Loc) (ls : Array Slot), va_P D vwCl (wC Y A S) H → va_S (gF A 65 s.heap.size) s.heap H locs → lv_has ls 4 [(0, .ref (A 1)), (1, .int a1), (3, .int v3)] → W p l e rmX7_begin s m args below meth c H locs 0 0 Z (F0 m 9 ls []) := by
    intro  v3 S h
    refine lp_walk (G := fun a => match a with | (v3, S) => ∀ (H : Heap) (locs : List Loc) (ls : Array Slot), va_P D vwCl (wC Y A S) H → va_S (gF A 65 s.heap.size) s.heap H locs → lv_has ls 4 [(0, .ref (A 1)), (1, .int a1), (3, .int v3)] → W p l e rmX7_begin s m args below meth c H locs 0 0 Z (F0 m 9 ls [])) (fun K9 a ih9 h => ?_) (v3, S) h
    obtain ⟨v3, S⟩ := a
    have ih9 : ∀ (v3 : Int32) (S : gS), K9 (v3, S) → ∀ (H : Heap) (locs : List Loc) (ls : Array Slot), va_P D vwCl (wC Y A S) H → va_S (gF A 65 s.heap.size) s.heap H locs → lv_has ls 4 [(0, .ref (A 1)), (1, .int a1), (3, .int v3)] → W p l e rmX7_begin s m args below meth c H locs 0 0 Z (F0 m 9 ls []) := fun v3 S q => ih9 (v3, S) q
    intro H locs ls hP hS hl
    refine lv_iload_n hx hb dX7_begin_9 rfl (lv_at hl 2 rfl) ?_
    refine lv_bipush (v := (30 : Int32)) hx hb dX7_begin_10 (by decide) ?_
    refine lv_icmp_ge (tgt := 30) hx hb dX7_begin_12 (by decide) (fun c1 => ?_) (fun c1 => ?_)
    · have h := h.1 c1
      exact hret _ _ _ _ _ dX7_begin_30 h hP hS
    · have h := h.2 c1
      refine lv_aload_n hx hb dX7_begin_15 rfl (lv_at hl 0 rfl) ?_
      refine va_get (ci := 7) (v := .ref (A 12)) (C := RX7) (T := TX7) (N := 2) hx hb hts k0 hown hK hP 1 (aC1 Y A S) rfl 0 (by decide) k1 (fun _ h9 => h9) rfl dX7_begin_16 ?_
      refine lv_iload_n hx hb dX7_begin_19 rfl (lv_at hl 1 rfl) ?_
      have v_2 := h.1
      have h := h.2
      refine gAald (g := fun j => A (13 + j)) hx hb hK hP 12 3 (aC12 Y A S) rfl (fun j hj => if_pos hj) v_2 dX7_begin_20 ?_
      refine lv_iload_n hx hb dX7_begin_21 rfl (lv_at hl 2 rfl) ?_
      refine lv_iconst (v := (0 : Int32)) hx hb dX7_begin_22 (by decide) ?_
      have v_4 := h.1
      have h := h.2
      obtain ⟨S3, eS3⟩ : ∃ z : gS, z = sA S (2 + a1.toNatClampNeg) (upd (ga S (2 + a1.toNatClampNeg)) v3.toNatClampNeg (0 : Int32)) := ⟨_, rfl⟩
      refine va_iast hx hb hK hP (hD S) hS (13 + a1.toNatClampNeg) 0 (arC12 Y A S (vp_lt v_2)) rfl v_4 dX7_begin_23 (fun H locs hP _ hS => ?_)
      have hP := urC12 (vp_lt v_2) eS3 hP
      have h := h S3 eS3
      obtain ⟨x5, ex5⟩ : ∃ z : Int32, z = v3 + (1 : Int32) := ⟨_, rfl⟩
      have h := h x5 ex5
      refine lv_iinc (v := x5) (lv' := [(3, .int x5), (0, .ref (A 1)), (1, .int a1)]) hx hb dX7_begin_24 hl (k := 2) rfl (by rw [ex5]; rfl) (by decide) rfl (fun ls hl => ?_)
      refine lv_goto (tgt := 9) hx hb dX7_begin_27 (by decide) ?_
      exact ih9 x5 S3 h _ _ _ hP hS (lv_sub hl [1, 2, 0] rfl)
  refine lv_aload_n hx hb dX7_begin_0 rfl (lv_at hl 0 rfl) ?_
  refine va_get (ci := 7) (v := .ref (A 17)) (C := RX7) (T := TX7) (N := 2) hx hb hts k0 hown hK hP 1 (aC1 Y A S) rfl 1 (by decide) k2 (fun _ h9 => h9) rfl dX7_begin_1 ?_
  refine lv_iload_n hx hb dX7_begin_4 rfl (lv_at hl 1 rfl) ?_
  refine lv_iload_n hx hb dX7_begin_5 rfl (lv_at hl 2 rfl) ?_
  have v_7 := h.1
  have h := h.2
  obtain ⟨S6, eS6⟩ : ∃ z : gS, z = sA S 6 (upd (ga S 6) a1.toNatClampNeg a2) := ⟨_, rfl⟩
  refine va_iast hx hb hK hP (hD S) hS 17 0 (aC17 Y A S) rfl v_7 dX7_begin_6 (fun H locs hP _ hS => ?_)
  have hP := uC17 eS6 hP
  have h := h S6 eS6
  refine lv_iconst (v := (0 : Int32)) hx hb dX7_begin_7 (by decide) ?_
  refine lv_istore_n (lv' := [(3, .int (0 : Int32)), (0, .ref (A 1)), (1, .int a1), (2, .int a2)]) hx hb dX7_begin_8 rfl hl (by decide) rfl (fun ls hl => ?_)
  exact tL9  (0 : Int32) S6 h _ _ _ hP hS (lv_sub hl [1, 2, 0] rfl)

def qX7_forget (S : gS) (a1 : Int32) (Q : gS → Prop) : Prop :=
  vp_in a1 4 ∧ (∀ S1 : gS, S1 = sA S 6 (upd (ga S 6) a1.toNatClampNeg (-1 : Int32)) → (Q S1))
abbrev rmX7_forget : Room := { frames := 0, cells := 0, slots := 0, locals := 0 }
set_option maxHeartbeats 4000000 in
set_option maxRecDepth 100000 in
theorem kX7_forget (l : Launch) (D : va_G) (Y : Nat → ClassId) (A : Nat → Nat) (hI : iC A) (sz : Nat) (S : gS) (a1 : Int32) (Q : gS → Prop) (h : qX7_forget S a1 Q) : Met l yX7_forget wsX7_forget rmX7_forget (gPc [.ref (A 1), .int a1] sz D vwCl (tY Y) (wC Y A S)) (va_Qv Q (fun S' t => gH D vwCl (tY Y) (wC Y A S') t) (gF A 65 sz)) 0 0 (gF A 65 sz) := by
  refine gMet_v (cc := cX7_forget) (maxL := 2) (by decide +kernel) rfl (Nat.le_of_ble_eq_true rfl) (fun p e s m args below meth c Z H locs hx hb hml hts hown hK hP hS hret ls hl => ?_)
  have hown : s.vm.findClass RX7 = some m.cls := hown
  have hl : lv_has ls 2 [(0, .ref (A 1)), (1, .int a1)] := hl
  have hD : ∀ S0 : gS, va_D (gF A 65 s.heap.size) (wC Y A S0) := fun S0 => dC hI S0 (fun k hk => gF_in hk)
  have k0 : ∀ w ∈ u_ws RX7 TX7 2, w ∈ wsX7_forget := by decide +kernel
  have k1 := hts (.fieldLink RX7 16 "CoastWatch$Tables" "length" "[I") (by decide +kernel)
  refine lv_aload_n hx hb dX7_forget_0 rfl (lv_at hl 0 rfl) ?_
  refine va_get (ci := 7) (v := .ref (A 17)) (C := RX7) (T := TX7) (N := 2) hx hb hts k0 hown hK hP 1 (aC1 Y A S) rfl 1 (by decide) k1 (fun _ h9 => h9) rfl dX7_forget_1 ?_
  refine lv_iload_n hx hb dX7_forget_4 rfl (lv_at hl 1 rfl) ?_
  refine lv_iconst (v := (-1 : Int32)) hx hb dX7_forget_5 (by decide) ?_
  have v_2 := h.1
  have h := h.2
  obtain ⟨S1, eS1⟩ : ∃ z : gS, z = sA S 6 (upd (ga S 6) a1.toNatClampNeg (-1 : Int32)) := ⟨_, rfl⟩
  refine va_iast hx hb hK hP (hD S) hS 17 0 (aC17 Y A S) rfl v_2 dX7_forget_6 (fun H locs hP _ hS => ?_)
  have hP := uC17 eS1 hP
  have h := h S1 eS1
  exact hret _ _ _ _ _ dX7_forget_7 h hP hS

def qX7_hasPlaces (S : gS) (a1 : Int32) (a2 : Int32) (a3 : Int32) (Q : Int32 → gS → Prop) : Prop :=
  (a3 < 0 → (Q (0 : Int32) S)) ∧ (¬ a3 < 0 → ((a2 < 0 → (Q (0 : Int32) S)) ∧ (¬ a2 < 0 → (vp_in a1 4 ∧ ((((ga S 6 a1.toNatClampNeg) - a3) < a2 → (Q (0 : Int32) S)) ∧ (¬ ((ga S 6 a1.toNatClampNeg) - a3) < a2 → (Q (1 : Int32) S)))))))
abbrev rmX7_hasPlaces : Room := { frames := 0, cells := 0, slots := 0, locals := 0 }
set_option maxHeartbeats 4000000 in
set_option maxRecDepth 100000 in
theorem kX7_hasPlaces (l : Launch) (D : va_G) (Y : Nat → ClassId) (A : Nat → Nat) (hI : iC A) (sz : Nat) (S : gS) (a1 : Int32) (a2 : Int32) (a3 : Int32) (Q : Int32 → gS → Prop) (h : qX7_hasPlaces S a1 a2 a3 Q) : Met l yX7_hasPlaces wsX7_hasPlaces rmX7_hasPlaces (gPc [.ref (A 1), .int a1, .int a2, .int a3] sz D vwCl (tY Y) (wC Y A S)) (va_Qi Q (fun S' t => gH D vwCl (tY Y) (wC Y A S') t) (gF A 65 sz)) 0 0 (gF A 65 sz) := by
  refine gMet_z (cc := cX7_hasPlaces) (maxL := 4) (by decide +kernel) rfl (Nat.le_of_ble_eq_true rfl) (fun p e s m args below meth c Z H locs hx hb hml hts hown hK hP hS hret ls hl => ?_)
  have hown : s.vm.findClass RX7 = some m.cls := hown
  have hl : lv_has ls 4 [(0, .ref (A 1)), (1, .int a1), (2, .int a2), (3, .int a3)] := hl
  have hD : ∀ S0 : gS, va_D (gF A 65 s.heap.size) (wC Y A S0) := fun S0 => dC hI S0 (fun k hk => gF_in hk)
  have k0 : ∀ w ∈ u_ws RX7 TX7 2, w ∈ wsX7_hasPlaces := by decide +kernel
  have k1 := hts (.fieldLink RX7 16 "CoastWatch$Tables" "length" "[I") (by decide +kernel)
  refine lv_iload_n hx hb dX7_hasPlaces_0 rfl (lv_at hl 3 rfl) ?_
  refine lv_if_lt (tgt := 24) hx hb dX7_hasPlaces_1 (by decide) (fun c1 => ?_) (fun c1 => ?_)
  · have h := h.1 c1
    refine lv_iconst (v := (0 : Int32)) hx hb dX7_hasPlaces_24 (by decide) ?_
    exact hret _ _ _ _ _ _ dX7_hasPlaces_25 rfl h hP hS
  · have h := h.2 c1
    refine lv_iload_n hx hb dX7_hasPlaces_4 rfl (lv_at hl 2 rfl) ?_
    refine lv_if_lt (tgt := 24) hx hb dX7_hasPlaces_5 (by decide) (fun c2 => ?_) (fun c2 => ?_)
    · have h := h.1 c2
      refine lv_iconst (v := (0 : Int32)) hx hb dX7_hasPlaces_24 (by decide) ?_
      exact hret _ _ _ _ _ _ dX7_hasPlaces_25 rfl h hP hS
    · have h := h.2 c2
      refine lv_iload_n hx hb dX7_hasPlaces_8 rfl (lv_at hl 2 rfl) ?_
      refine lv_aload_n hx hb dX7_hasPlaces_9 rfl (lv_at hl 0 rfl) ?_
      refine va_get (ci := 7) (v := .ref (A 17)) (C := RX7) (T := TX7) (N := 2) hx hb hts k0 hown hK hP 1 (aC1 Y A S) rfl 1 (by decide) k1 (fun _ h9 => h9) rfl dX7_hasPlaces_10 ?_
      refine lv_iload_n hx hb dX7_hasPlaces_13 rfl (lv_at hl 1 rfl) ?_
      have v_3 := h.1
      have h := h.2
      refine va_iald hx hb hK hP 17 0 (aC17 Y A S) rfl v_3 dX7_hasPlaces_14 ?_
      refine lv_iload_n hx hb dX7_hasPlaces_15 rfl (lv_at hl 3 rfl) ?_
      refine lv_isub hx hb dX7_hasPlaces_16 ?_
      refine lv_icmp_gt (tgt := 24) hx hb dX7_hasPlaces_17 (by decide) (fun c4 => ?_) (fun c4 => ?_)
      · have h := h.1 c4
        refine lv_iconst (v := (0 : Int32)) hx hb dX7_hasPlaces_24 (by decide) ?_
        exact hret _ _ _ _ _ _ dX7_hasPlaces_25 rfl h hP hS
      · have h := h.2 c4
        refine lv_iconst (v := (1 : Int32)) hx hb dX7_hasPlaces_20 (by decide) ?_
        refine lv_goto (tgt := 25) hx hb dX7_hasPlaces_21 (by decide) ?_
        exact hret _ _ _ _ _ _ dX7_hasPlaces_25 rfl h hP hS

def qX8_add (S : gS) (a1 : Int32) (a2 : Int32) (a3 : Int32) (Q : Int32 → gS → Prop) : Prop :=
  ∀ x1 : Int32, x1 = (gi S 8) → ((x1 < (60 : Int32) → (vp_in x1 60 ∧ (∀ S3 : gS, S3 = sA S 43 (upd (ga S 43) x1.toNatClampNeg a1) → (∀ S5 : gS, S5 = sA S3 44 (upd (ga S3 44) x1.toNatClampNeg a2) → (∀ S6 : gS, S6 = sA S5 45 (upd (ga S5 45) x1.toNatClampNeg a3) → (∀ S7 : gS, S7 = sI S6 8 (x1 + (1 : Int32)) → (Q x1 S7))))))) ∧ (¬ x1 < (60 : Int32) → (Q (-1 : Int32) S)))
abbrev rmX8_add : Room := { frames := 0, cells := 0, slots := 0, locals := 0 }
set_option maxHeartbeats 4000000 in
set_option maxRecDepth 100000 in
theorem kX8_add (l : Launch) (D : va_G) (Y : Nat → ClassId) (A : Nat → Nat) (hI : iC A) (sz : Nat) (S : gS) (a1 : Int32) (a2 : Int32) (a3 : Int32) (Q : Int32 → gS → Prop) (h : qX8_add S a1 a2 a3 Q) : Met l yX8_add wsX8_add rmX8_add (gPc [.ref (A 7), .int a1, .int a2, .int a3] sz D vwCl (tY Y) (wC Y A S)) (va_Qi Q (fun S' t => gH D vwCl (tY Y) (wC Y A S') t) (gF A 65 sz)) 0 0 (gF A 65 sz) := by
  refine gMet_i (cc := cX8_add) (maxL := 5) (by decide +kernel) rfl (Nat.le_of_ble_eq_true rfl) (fun p e s m args below meth c Z H locs hx hb hml hts hown hK hP hS hret ls hl => ?_)
  have hown : s.vm.findClass RX8 = some m.cls := hown
  have hl : lv_has ls 5 [(0, .ref (A 7)), (1, .int a1), (2, .int a2), (3, .int a3)] := hl
  have hD : ∀ S0 : gS, va_D (gF A 65 s.heap.size) (wC Y A S0) := fun S0 => dC hI S0 (fun k hk => gF_in hk)
  have k0 : ∀ w ∈ u_ws RX8 TX8 6, w ∈ wsX8_add := by decide +kernel
  have k1 := hts (.fieldLink RX8 9 "CoastWatch$Words" "size" "I") (by decide +kernel)
  have k2 := hts (.fieldLink RX8 15 "CoastWatch$Words" "informer" "[I") (by decide +kernel)
  have k3 := hts (.fieldLink RX8 19 "CoastWatch$Words" "night" "[I") (by decide +kernel)
  have k4 := hts (.fieldLink RX8 22 "CoastWatch$Words" "cove" "[I") (by decide +kernel)
  refine lv_aload_n hx hb dX8_add_0 rfl (lv_at hl 0 rfl) ?_
  refine va_get (ci := 8) (v := .int (gi S 8)) (C := RX8) (T := TX8) (N := 6) hx hb hts k0 hown hK hP 7 (aC7 Y A S) rfl 0 (by decide) k1 (fun _ h9 => h9) rfl dX8_add_1 ?_
  refine lv_topi (fun x1 ex1 => ?_)
  have h := h x1 ex1
  refine lv_istore (lv' := [(4, .int x1), (0, .ref (A 7)), (1, .int a1), (2, .int a2), (3, .int a3)]) hx hb dX8_add_4 hl (by decide) rfl (fun ls hl => ?_)
  refine lv_iload hx hb dX8_add_6 (lv_at hl 0 rfl) ?_
  refine lv_bipush (v := (60 : Int32)) hx hb dX8_add_8 (by decide) ?_
  refine lv_icmp_lt (tgt := 15) hx hb dX8_add_10 (by decide) (fun c2 => ?_) (fun c2 => ?_)
  · have h := h.1 c2
    refine lv_aload_n hx hb dX8_add_15 rfl (lv_at hl 1 rfl) ?_
    refine va_get (ci := 8) (v := .ref (A 56)) (C := RX8) (T := TX8) (N := 6) hx hb hts k0 hown hK hP 7 (aC7 Y A S) rfl 1 (by decide) k2 (fun _ h9 => h9) rfl dX8_add_16 ?_
    refine lv_iload hx hb dX8_add_19 (lv_at hl 0 rfl) ?_
    refine lv_iload_n hx hb dX8_add_21 rfl (lv_at hl 2 rfl) ?_
    have v_4 := h.1
    have h := h.2
    obtain ⟨S3, eS3⟩ : ∃ z : gS, z = sA S 43 (upd (ga S 43) x1.toNatClampNeg a1) := ⟨_, rfl⟩
    refine va_iast hx hb hK hP (hD S) hS 56 0 (aC56 Y A S) rfl v_4 dX8_add_22 (fun H locs hP _ hS => ?_)
    have hP := uC56 eS3 hP
    have h := h S3 eS3
    refine lv_aload_n hx hb dX8_add_23 rfl (lv_at hl 1 rfl) ?_
    refine va_get (ci := 8) (v := .ref (A 57)) (C := RX8) (T := TX8) (N := 6) hx hb hts k0 hown hK hP 7 (aC7 Y A S3) rfl 2 (by decide) k3 (fun _ h9 => h9) rfl dX8_add_24 ?_
    refine lv_iload hx hb dX8_add_27 (lv_at hl 0 rfl) ?_
    refine lv_iload_n hx hb dX8_add_29 rfl (lv_at hl 3 rfl) ?_
    obtain ⟨S5, eS5⟩ : ∃ z : gS, z = sA S3 44 (upd (ga S3 44) x1.toNatClampNeg a2) := ⟨_, rfl⟩
    refine va_iast hx hb hK hP (hD S3) hS 57 0 (aC57 Y A S3) rfl v_4 dX8_add_30 (fun H locs hP _ hS => ?_)
    have hP := uC57 eS5 hP
    have h := h S5 eS5
    refine lv_aload_n hx hb dX8_add_31 rfl (lv_at hl 1 rfl) ?_
    refine va_get (ci := 8) (v := .ref (A 58)) (C := RX8) (T := TX8) (N := 6) hx hb hts k0 hown hK hP 7 (aC7 Y A S5) rfl 3 (by decide) k4 (fun _ h9 => h9) rfl dX8_add_32 ?_
    refine lv_iload hx hb dX8_add_35 (lv_at hl 0 rfl) ?_
    refine lv_iload_n hx hb dX8_add_37 rfl (lv_at hl 4 rfl) ?_
    obtain ⟨S6, eS6⟩ : ∃ z : gS, z = sA S5 45 (upd (ga S5 45) x1.toNatClampNeg a3) := ⟨_, rfl⟩
    refine va_iast hx hb hK hP (hD S5) hS 58 0 (aC58 Y A S5) rfl v_4 dX8_add_38 (fun H locs hP _ hS => ?_)
    have hP := uC58 eS6 hP
    have h := h S6 eS6
    refine lv_aload_n hx hb dX8_add_39 rfl (lv_at hl 1 rfl) ?_
    refine lv_iload hx hb dX8_add_40 (lv_at hl 0 rfl) ?_
    refine lv_iconst (v := (1 : Int32)) hx hb dX8_add_42 (by decide) ?_
    refine lv_iadd hx hb dX8_add_43 ?_
    obtain ⟨S7, eS7⟩ : ∃ z : gS, z = sI S6 8 (x1 + (1 : Int32)) := ⟨_, rfl⟩
    have h := h S7 eS7
    refine va_put (ci := 8) (v := .int (x1 + (1 : Int32))) (ty := .int) (C := RX8) (T := TX8) (N := 6) hx hb hts k0 tyX8 tyX8_ok nmX8 hown hK hP (hD S6) hS 7 (aC7 Y A S6) rfl 0 (by decide) k1 (fun _ h9 => h9) rfl rfl rfl rfl (by simp) dX8_add_44 (fun H locs hP _ hS => ?_)
    have hP := pC7_0 eS7 hP
    refine lv_iload hx hb dX8_add_47 (lv_at hl 0 rfl) ?_
    exact hret _ _ _ _ _ _ dX8_add_49 h hP hS
  · have h := h.2 c2
    refine lv_iconst (v := (-1 : Int32)) hx hb dX8_add_13 (by decide) ?_
    exact hret _ _ _ _ _ _ dX8_add_14 h hP hS

def qX8_names (S : gS) (a1 : Int32) (a2 : Int32) (a3 : Int32) (Q : Int32 → gS → Prop) : Prop :=
  vp_in a1 60 ∧ (((ga S 44 a1.toNatClampNeg) = a2 → (((ga S 45 a1.toNatClampNeg) = a3 → (Q (1 : Int32) S)) ∧ (¬ (ga S 45 a1.toNatClampNeg) = a3 → (Q (0 : Int32) S)))) ∧ (¬ (ga S 44 a1.toNatClampNeg) = a2 → (Q (0 : Int32) S)))
abbrev rmX8_names : Room := { frames := 0, cells := 0, slots := 0, locals := 0 }
set_option maxHeartbeats 4000000 in
set_option maxRecDepth 100000 in
theorem kX8_names (l : Launch) (D : va_G) (Y : Nat → ClassId) (A : Nat → Nat) (hI : iC A) (sz : Nat) (S : gS) (a1 : Int32) (a2 : Int32) (a3 : Int32) (Q : Int32 → gS → Prop) (h : qX8_names S a1 a2 a3 Q) : Met l yX8_names wsX8_names rmX8_names (gPc [.ref (A 7), .int a1, .int a2, .int a3] sz D vwCl (tY Y) (wC Y A S)) (va_Qi Q (fun S' t => gH D vwCl (tY Y) (wC Y A S') t) (gF A 65 sz)) 0 0 (gF A 65 sz) := by
  refine gMet_z (cc := cX8_names) (maxL := 4) (by decide +kernel) rfl (Nat.le_of_ble_eq_true rfl) (fun p e s m args below meth c Z H locs hx hb hml hts hown hK hP hS hret ls hl => ?_)
  have hown : s.vm.findClass RX8 = some m.cls := hown
  have hl : lv_has ls 4 [(0, .ref (A 7)), (1, .int a1), (2, .int a2), (3, .int a3)] := hl
  have hD : ∀ S0 : gS, va_D (gF A 65 s.heap.size) (wC Y A S0) := fun S0 => dC hI S0 (fun k hk => gF_in hk)
  have k0 : ∀ w ∈ u_ws RX8 TX8 6, w ∈ wsX8_names := by decide +kernel
  have k1 := hts (.fieldLink RX8 19 "CoastWatch$Words" "night" "[I") (by decide +kernel)
  have k2 := hts (.fieldLink RX8 22 "CoastWatch$Words" "cove" "[I") (by decide +kernel)
  refine lv_aload_n hx hb dX8_names_0 rfl (lv_at hl 0 rfl) ?_
  refine va_get (ci := 8) (v := .ref (A 57)) (C := RX8) (T := TX8) (N := 6) hx hb hts k0 hown hK hP 7 (aC7 Y A S) rfl 2 (by decide) k1 (fun _ h9 => h9) rfl dX8_names_1 ?_
  refine lv_iload_n hx hb dX8_names_4 rfl (lv_at hl 1 rfl) ?_
  have v_1 := h.1
  have h := h.2
  refine va_iald hx hb hK hP 57 0 (aC57 Y A S) rfl v_1 dX8_names_5 ?_
  refine lv_iload_n hx hb dX8_names_6 rfl (lv_at hl 2 rfl) ?_
  refine lv_icmp_ne (tgt := 24) hx hb dX8_names_7 (by decide) (fun c2 => ?_) (fun c2 => ?_)
  · have h := h.2 c2
    refine lv_iconst (v := (0 : Int32)) hx hb dX8_names_24 (by decide) ?_
    exact hret _ _ _ _ _ _ dX8_names_25 rfl h hP hS
  · have h := h.1 c2
    refine lv_aload_n hx hb dX8_names_10 rfl (lv_at hl 0 rfl) ?_
    refine va_get (ci := 8) (v := .ref (A 58)) (C := RX8) (T := TX8) (N := 6) hx hb hts k0 hown hK hP 7 (aC7 Y A S) rfl 3 (by decide) k2 (fun _ h9 => h9) rfl dX8_names_11 ?_
    refine lv_iload_n hx hb dX8_names_14 rfl (lv_at hl 1 rfl) ?_
    refine va_iald hx hb hK hP 58 0 (aC58 Y A S) rfl v_1 dX8_names_15 ?_
    refine lv_iload_n hx hb dX8_names_16 rfl (lv_at hl 3 rfl) ?_
    refine lv_icmp_ne (tgt := 24) hx hb dX8_names_17 (by decide) (fun c3 => ?_) (fun c3 => ?_)
    · have h := h.2 c3
      refine lv_iconst (v := (0 : Int32)) hx hb dX8_names_24 (by decide) ?_
      exact hret _ _ _ _ _ _ dX8_names_25 rfl h hP hS
    · have h := h.1 c3
      refine lv_iconst (v := (1 : Int32)) hx hb dX8_names_20 (by decide) ?_
      refine lv_goto (tgt := 25) hx hb dX8_names_21 (by decide) ?_
      exact hret _ _ _ _ _ _ dX8_names_25 rfl h hP hS

def qX8_isToldBy_L3 (a1 : Int32) (a2 : Int32) (a3 : Int32) (Q : Int32 → gS → Prop) (K3 : Int32 × gS → Prop) : Int32 × gS → Prop := fun ⟨v4, S⟩ =>
  ((gi S 8) ≤ v4 → (Q (0 : Int32) S)) ∧ (¬ (gi S 8) ≤ v4 → (vp_in v4 60 ∧ (((ga S 43 v4.toNatClampNeg) = a1 → (qX8_names S v4 a2 a3 (fun r6 S5 => (r6 = 0 → (∀ x8 : Int32, x8 = v4 + (1 : Int32) → (K3 (x8, S5)))) ∧ (¬ r6 = 0 → (Q (1 : Int32) S5))))) ∧ (¬ (ga S 43 v4.toNatClampNeg) = a1 → (∀ x4 : Int32, x4 = v4 + (1 : Int32) → (K3 (x4, S)))))))
def qX8_isToldBy (S : gS) (a1 : Int32) (a2 : Int32) (a3 : Int32) (Q : Int32 → gS → Prop) : Prop :=
  lp (qX8_isToldBy_L3 a1 a2 a3 Q) ((0 : Int32), S)
abbrev rmX8_isToldBy : Room := { frames := 1, cells := 0, slots := 0, locals := 23 }
set_option maxHeartbeats 4000000 in
set_option maxRecDepth 100000 in
theorem kX8_isToldBy (l : Launch) (D : va_G) (Y : Nat → ClassId) (A : Nat → Nat) (hI : iC A) (sz : Nat) (S : gS) (a1 : Int32) (a2 : Int32) (a3 : Int32) (Q : Int32 → gS → Prop) (h : qX8_isToldBy S a1 a2 a3 Q) : Met l yX8_isToldBy wsX8_isToldBy rmX8_isToldBy (gPc [.ref (A 7), .int a1, .int a2, .int a3] sz D vwCl (tY Y) (wC Y A S)) (va_Qi Q (fun S' t => gH D vwCl (tY Y) (wC Y A S') t) (gF A 65 sz)) 0 0 (gF A 65 sz) := by
  refine gMet_z (cc := cX8_isToldBy) (maxL := 5) (by decide +kernel) rfl (Nat.le_of_ble_eq_true rfl) (fun p e s m args below meth c Z H locs hx hb hml hts hown hK hP hS hret ls hl => ?_)
  have hown : s.vm.findClass RX8 = some m.cls := hown
  have hl : lv_has ls 5 [(0, .ref (A 7)), (1, .int a1), (2, .int a2), (3, .int a3)] := hl
  have hD : ∀ S0 : gS, va_D (gF A 65 s.heap.size) (wC Y A S0) := fun S0 => dC hI S0 (fun k hk => gF_in hk)
  have k0 : ∀ w ∈ u_ws RX8 TX8 6, w ∈ wsX8_isToldBy := by decide +kernel
  have k1 := hts (.fieldLink RX8 9 "CoastWatch$Words" "size" "I") (by decide +kernel)
  have k2 := hts (.fieldLink RX8 15 "CoastWatch$Words" "informer" "[I") (by decide +kernel)
  have tL3 : ∀ (v4 : Int32) (S : gS), lp (qX8_isToldBy_L3 a1 a2 a3 Q) (v4, S) → ∀ (H : Heap) (locs : List Loc) (ls : Array Slot), va_P D vwCl (wC Y A S) H → va_S (gF A 65 s.heap.size) s.heap H locs → lv_has ls 5 [(0, .ref (A 7)), (1, .int a1), (2, .int a2), (3, .int a3), (4, .int v4)] → W p l e rmX8_isToldBy s m args below meth c H locs 0 0 Z (F0 m 3 ls []) := by
    intro  v4 S h
    refine lp_walk (G := fun a => match a with | (v4, S) => ∀ (H : Heap) (locs : List Loc) (ls : Array Slot), va_P D vwCl (wC Y A S) H → va_S (gF A 65 s.heap.size) s.heap H locs → lv_has ls 5 [(0, .ref (A 7)), (1, .int a1), (2, .int a2), (3, .int a3), (4, .int v4)] → W p l e rmX8_isToldBy s m args below meth c H locs 0 0 Z (F0 m 3 ls [])) (fun K3 a ih3 h => ?_) (v4, S) h
    obtain ⟨v4, S⟩ := a
    have ih3 : ∀ (v4 : Int32) (S : gS), K3 (v4, S) → ∀ (H : Heap) (locs : List Loc) (ls : Array Slot), va_P D vwCl (wC Y A S) H → va_S (gF A 65 s.heap.size) s.heap H locs → lv_has ls 5 [(0, .ref (A 7)), (1, .int a1), (2, .int a2), (3, .int a3), (4, .int v4)] → W p l e rmX8_isToldBy s m args below meth c H locs 0 0 Z (F0 m 3 ls []) := fun v4 S q => ih3 (v4, S) q
    intro H locs ls hP hS hl
    refine lv_iload hx hb dX8_isToldBy_3 (lv_at hl 4 rfl) ?_
    refine lv_aload_n hx hb dX8_isToldBy_5 rfl (lv_at hl 0 rfl) ?_
    refine va_get (ci := 8) (v := .int (gi S 8)) (C := RX8) (T := TX8) (N := 6) hx hb hts k0 hown hK hP 7 (aC7 Y A S) rfl 0 (by decide) k1 (fun _ h9 => h9) rfl dX8_isToldBy_6 ?_
    refine lv_icmp_ge (tgt := 42) hx hb dX8_isToldBy_9 (by decide) (fun c1 => ?_) (fun c1 => ?_)
    · have h := h.1 c1
      refine lv_iconst (v := (0 : Int32)) hx hb dX8_isToldBy_42 (by decide) ?_
      exact hret _ _ _ _ _ _ dX8_isToldBy_43 rfl h hP hS
    · have h := h.2 c1
      refine lv_aload_n hx hb dX8_isToldBy_12 rfl (lv_at hl 0 rfl) ?_
      refine va_get (ci := 8) (v := .ref (A 56)) (C := RX8) (T := TX8) (N := 6) hx hb hts k0 hown hK hP 7 (aC7 Y A S) rfl 1 (by decide) k2 (fun _ h9 => h9) rfl dX8_isToldBy_13 ?_
      refine lv_iload hx hb dX8_isToldBy_16 (lv_at hl 4 rfl) ?_
      have v_2 := h.1
      have h := h.2
      refine va_iald hx hb hK hP 56 0 (aC56 Y A S) rfl v_2 dX8_isToldBy_18 ?_
      refine lv_iload_n hx hb dX8_isToldBy_19 rfl (lv_at hl 1 rfl) ?_
      refine lv_icmp_ne (tgt := 36) hx hb dX8_isToldBy_20 (by decide) (fun c3 => ?_) (fun c3 => ?_)
      · have h := h.2 c3
        obtain ⟨x4, ex4⟩ : ∃ z : Int32, z = v4 + (1 : Int32) := ⟨_, rfl⟩
        have h := h x4 ex4
        refine lv_iinc (v := x4) (lv' := [(4, .int x4), (0, .ref (A 7)), (1, .int a1), (2, .int a2), (3, .int a3)]) hx hb dX8_isToldBy_36 hl (k := 4) rfl (by rw [ex4]; rfl) (by decide) rfl (fun ls hl => ?_)
        refine lv_goto (tgt := 3) hx hb dX8_isToldBy_39 (by decide) ?_
        exact ih3 x4 S h _ _ _ hP hS (lv_sub hl [1, 2, 3, 4, 0] rfl)
      · have h := h.1 c3
        refine lv_aload_n hx hb dX8_isToldBy_23 rfl (lv_at hl 0 rfl) ?_
        refine lv_iload hx hb dX8_isToldBy_24 (lv_at hl 4 rfl) ?_
        refine lv_iload_n hx hb dX8_isToldBy_26 rfl (lv_at hl 2 rfl) ?_
        refine lv_iload_n hx hb dX8_isToldBy_27 rfl (lv_at hl 3 rfl) ?_
        refine gVi (As := [.int v4, .int a2, .int a3]) (rest := []) ⟨hx, hb, hml, hown, hts⟩ (kX8_names l D Y A hI H.size S v4 a2 a3 _ h) (cwV 3 hts gX8_isToldBy_X8_names rfl rfl rfl (by decide +kernel) ⟨Nat.le_of_ble_eq_true rfl, Nat.le_of_ble_eq_true rfl⟩) hK hP hS (gF_le hS.1) (aC7 Y A S) (show vwCl[8]? = some (RX8, TX8, 6) from rfl) rfl rfl hl.1 (Nat.le_of_ble_eq_true rfl) dX8_isToldBy_28 ⟨Nat.zero_le _, Nat.zero_le _⟩ ?_
        intro r6 S5 H locs h hP hS
        refine lv_if_eq (tgt := 36) hx hb dX8_isToldBy_31 (by decide) (fun c7 => ?_) (fun c7 => ?_)
        · have h := h.1 c7
          obtain ⟨x8, ex8⟩ : ∃ z : Int32, z = v4 + (1 : Int32) := ⟨_, rfl⟩
          have h := h x8 ex8
          refine lv_iinc (v := x8) (lv' := [(4, .int x8), (0, .ref (A 7)), (1, .int a1), (2, .int a2), (3, .int a3)]) hx hb dX8_isToldBy_36 hl (k := 4) rfl (by rw [ex8]; rfl) (by decide) rfl (fun ls hl => ?_)
          refine lv_goto (tgt := 3) hx hb dX8_isToldBy_39 (by decide) ?_
          exact ih3 x8 S5 h _ _ _ hP hS (lv_sub hl [1, 2, 3, 4, 0] rfl)
        · have h := h.2 c7
          refine lv_iconst (v := (1 : Int32)) hx hb dX8_isToldBy_34 (by decide) ?_
          exact hret _ _ _ _ _ _ dX8_isToldBy_35 rfl h hP hS
  refine lv_iconst (v := (0 : Int32)) hx hb dX8_isToldBy_0 (by decide) ?_
  refine lv_istore (lv' := [(4, .int (0 : Int32)), (0, .ref (A 7)), (1, .int a1), (2, .int a2), (3, .int a3)]) hx hb dX8_isToldBy_1 hl (by decide) rfl (fun ls hl => ?_)
  exact tL3  (0 : Int32) S h _ _ _ hP hS (lv_sub hl [1, 2, 3, 4, 0] rfl)

def qX8_firstInformer_L2 (a1 : Int32) (a2 : Int32) (Q : Int32 → gS → Prop) (K2 : Int32 × gS → Prop) : Int32 × gS → Prop := fun ⟨v3, S⟩ =>
  ((gi S 8) ≤ v3 → (Q (-1 : Int32) S)) ∧ (¬ (gi S 8) ≤ v3 → (qX8_names S v3 a1 a2 (fun r3 S2 => (r3 = 0 → (∀ x5 : Int32, x5 = v3 + (1 : Int32) → (K2 (x5, S2)))) ∧ (¬ r3 = 0 → (vp_in v3 60 ∧ (Q (ga S2 43 v3.toNatClampNeg) S2))))))
def qX8_firstInformer (S : gS) (a1 : Int32) (a2 : Int32) (Q : Int32 → gS → Prop) : Prop :=
  lp (qX8_firstInformer_L2 a1 a2 Q) ((0 : Int32), S)
abbrev rmX8_firstInformer : Room := { frames := 1, cells := 0, slots := 0, locals := 23 }
set_option maxHeartbeats 4000000 in
set_option maxRecDepth 100000 in
theorem kX8_firstInformer (l : Launch) (D : va_G) (Y : Nat → ClassId) (A : Nat → Nat) (hI : iC A) (sz : Nat) (S : gS) (a1 : Int32) (a2 : Int32) (Q : Int32 → gS → Prop) (h : qX8_firstInformer S a1 a2 Q) : Met l yX8_firstInformer wsX8_firstInformer rmX8_firstInformer (gPc [.ref (A 7), .int a1, .int a2] sz D vwCl (tY Y) (wC Y A S)) (va_Qi Q (fun S' t => gH D vwCl (tY Y) (wC Y A S') t) (gF A 65 sz)) 0 0 (gF A 65 sz) := by
  refine gMet_i (cc := cX8_firstInformer) (maxL := 4) (by decide +kernel) rfl (Nat.le_of_ble_eq_true rfl) (fun p e s m args below meth c Z H locs hx hb hml hts hown hK hP hS hret ls hl => ?_)
  have hown : s.vm.findClass RX8 = some m.cls := hown
  have hl : lv_has ls 4 [(0, .ref (A 7)), (1, .int a1), (2, .int a2)] := hl
  have hD : ∀ S0 : gS, va_D (gF A 65 s.heap.size) (wC Y A S0) := fun S0 => dC hI S0 (fun k hk => gF_in hk)
  have k0 : ∀ w ∈ u_ws RX8 TX8 6, w ∈ wsX8_firstInformer := by decide +kernel
  have k1 := hts (.fieldLink RX8 9 "CoastWatch$Words" "size" "I") (by decide +kernel)
  have k2 := hts (.fieldLink RX8 15 "CoastWatch$Words" "informer" "[I") (by decide +kernel)
  have tL2 : ∀ (v3 : Int32) (S : gS), lp (qX8_firstInformer_L2 a1 a2 Q) (v3, S) → ∀ (H : Heap) (locs : List Loc) (ls : Array Slot), va_P D vwCl (wC Y A S) H → va_S (gF A 65 s.heap.size) s.heap H locs → lv_has ls 4 [(0, .ref (A 7)), (1, .int a1), (2, .int a2), (3, .int v3)] → W p l e rmX8_firstInformer s m args below meth c H locs 0 0 Z (F0 m 2 ls []) := by
    intro  v3 S h
    refine lp_walk (G := fun a => match a with | (v3, S) => ∀ (H : Heap) (locs : List Loc) (ls : Array Slot), va_P D vwCl (wC Y A S) H → va_S (gF A 65 s.heap.size) s.heap H locs → lv_has ls 4 [(0, .ref (A 7)), (1, .int a1), (2, .int a2), (3, .int v3)] → W p l e rmX8_firstInformer s m args below meth c H locs 0 0 Z (F0 m 2 ls [])) (fun K2 a ih2 h => ?_) (v3, S) h
    obtain ⟨v3, S⟩ := a
    have ih2 : ∀ (v3 : Int32) (S : gS), K2 (v3, S) → ∀ (H : Heap) (locs : List Loc) (ls : Array Slot), va_P D vwCl (wC Y A S) H → va_S (gF A 65 s.heap.size) s.heap H locs → lv_has ls 4 [(0, .ref (A 7)), (1, .int a1), (2, .int a2), (3, .int v3)] → W p l e rmX8_firstInformer s m args below meth c H locs 0 0 Z (F0 m 2 ls []) := fun v3 S q => ih2 (v3, S) q
    intro H locs ls hP hS hl
    refine lv_iload_n hx hb dX8_firstInformer_2 rfl (lv_at hl 3 rfl) ?_
    refine lv_aload_n hx hb dX8_firstInformer_3 rfl (lv_at hl 0 rfl) ?_
    refine va_get (ci := 8) (v := .int (gi S 8)) (C := RX8) (T := TX8) (N := 6) hx hb hts k0 hown hK hP 7 (aC7 Y A S) rfl 0 (by decide) k1 (fun _ h9 => h9) rfl dX8_firstInformer_4 ?_
    refine lv_icmp_ge (tgt := 33) hx hb dX8_firstInformer_7 (by decide) (fun c1 => ?_) (fun c1 => ?_)
    · have h := h.1 c1
      refine lv_iconst (v := (-1 : Int32)) hx hb dX8_firstInformer_33 (by decide) ?_
      exact hret _ _ _ _ _ _ dX8_firstInformer_34 h hP hS
    · have h := h.2 c1
      refine lv_aload_n hx hb dX8_firstInformer_10 rfl (lv_at hl 0 rfl) ?_
      refine lv_iload_n hx hb dX8_firstInformer_11 rfl (lv_at hl 3 rfl) ?_
      refine lv_iload_n hx hb dX8_firstInformer_12 rfl (lv_at hl 1 rfl) ?_
      refine lv_iload_n hx hb dX8_firstInformer_13 rfl (lv_at hl 2 rfl) ?_
      refine gVi (As := [.int v3, .int a1, .int a2]) (rest := []) ⟨hx, hb, hml, hown, hts⟩ (kX8_names l D Y A hI H.size S v3 a1 a2 _ h) (cwV 3 hts gX8_firstInformer_X8_names rfl rfl rfl (by decide +kernel) ⟨Nat.le_of_ble_eq_true rfl, Nat.le_of_ble_eq_true rfl⟩) hK hP hS (gF_le hS.1) (aC7 Y A S) (show vwCl[8]? = some (RX8, TX8, 6) from rfl) rfl rfl hl.1 (Nat.le_of_ble_eq_true rfl) dX8_firstInformer_14 ⟨Nat.zero_le _, Nat.zero_le _⟩ ?_
      intro r3 S2 H locs h hP hS
      refine lv_if_eq (tgt := 27) hx hb dX8_firstInformer_17 (by decide) (fun c4 => ?_) (fun c4 => ?_)
      · have h := h.1 c4
        obtain ⟨x5, ex5⟩ : ∃ z : Int32, z = v3 + (1 : Int32) := ⟨_, rfl⟩
        have h := h x5 ex5
        refine lv_iinc (v := x5) (lv' := [(3, .int x5), (0, .ref (A 7)), (1, .int a1), (2, .int a2)]) hx hb dX8_firstInformer_27 hl (k := 3) rfl (by rw [ex5]; rfl) (by decide) rfl (fun ls hl => ?_)
        refine lv_goto (tgt := 2) hx hb dX8_firstInformer_30 (by decide) ?_
        exact ih2 x5 S2 h _ _ _ hP hS (lv_sub hl [1, 2, 3, 0] rfl)
      · have h := h.2 c4
        refine lv_aload_n hx hb dX8_firstInformer_20 rfl (lv_at hl 0 rfl) ?_
        refine va_get (ci := 8) (v := .ref (A 56)) (C := RX8) (T := TX8) (N := 6) hx hb hts k0 hown hK hP 7 (aC7 Y A S2) rfl 1 (by decide) k2 (fun _ h9 => h9) rfl dX8_firstInformer_21 ?_
        refine lv_iload_n hx hb dX8_firstInformer_24 rfl (lv_at hl 3 rfl) ?_
        have v_6 := h.1
        have h := h.2
        refine va_iald hx hb hK hP 56 0 (aC56 Y A S2) rfl v_6 dX8_firstInformer_25 ?_
        exact hret _ _ _ _ _ _ dX8_firstInformer_26 h hP hS
  refine lv_iconst (v := (0 : Int32)) hx hb dX8_firstInformer_0 (by decide) ?_
  refine lv_istore_n (lv' := [(3, .int (0 : Int32)), (0, .ref (A 7)), (1, .int a1), (2, .int a2)]) hx hb dX8_firstInformer_1 rfl hl (by decide) rfl (fun ls hl => ?_)
  exact tL2  (0 : Int32) S h _ _ _ hP hS (lv_sub hl [1, 2, 3, 0] rfl)

def qX8_prove (S : gS) (a1 : Int32) (a2 : Int32) (Q : gS → Prop) : Prop :=
  (a2 = 0 → (vp_in a1 60 ∧ (vp_in (ga S 43 a1.toNatClampNeg) 6 ∧ (∀ S4 : gS, S4 = sA S 47 (upd (ga S 47) (ga S 43 a1.toNatClampNeg).toNatClampNeg ((ga S 47 (ga S 43 a1.toNatClampNeg).toNatClampNeg) + (1 : Int32))) → (Q S4))))) ∧ (¬ a2 = 0 → (vp_in a1 60 ∧ (vp_in (ga S 43 a1.toNatClampNeg) 6 ∧ (∀ S7 : gS, S7 = sA S 46 (upd (ga S 46) (ga S 43 a1.toNatClampNeg).toNatClampNeg ((ga S 46 (ga S 43 a1.toNatClampNeg).toNatClampNeg) + (1 : Int32))) → (Q S7)))))
abbrev rmX8_prove : Room := { frames := 0, cells := 0, slots := 0, locals := 0 }
set_option maxHeartbeats 4000000 in
set_option maxRecDepth 100000 in
theorem kX8_prove (l : Launch) (D : va_G) (Y : Nat → ClassId) (A : Nat → Nat) (hI : iC A) (sz : Nat) (S : gS) (a1 : Int32) (a2 : Int32) (Q : gS → Prop) (h : qX8_prove S a1 a2 Q) : Met l yX8_prove wsX8_prove rmX8_prove (gPc [.ref (A 7), .int a1, .int a2] sz D vwCl (tY Y) (wC Y A S)) (va_Qv Q (fun S' t => gH D vwCl (tY Y) (wC Y A S') t) (gF A 65 sz)) 0 0 (gF A 65 sz) := by
  refine gMet_v (cc := cX8_prove) (maxL := 3) (by decide +kernel) rfl (Nat.le_of_ble_eq_true rfl) (fun p e s m args below meth c Z H locs hx hb hml hts hown hK hP hS hret ls hl => ?_)
  have hown : s.vm.findClass RX8 = some m.cls := hown
  have hl : lv_has ls 3 [(0, .ref (A 7)), (1, .int a1), (2, .int a2)] := hl
  have hD : ∀ S0 : gS, va_D (gF A 65 s.heap.size) (wC Y A S0) := fun S0 => dC hI S0 (fun k hk => gF_in hk)
  have k0 : ∀ w ∈ u_ws RX8 TX8 6, w ∈ wsX8_prove := by decide +kernel
  have k1 := hts (.fieldLink RX8 28 "CoastWatch$Words" "wrong" "[I") (by decide +kernel)
  have k2 := hts (.fieldLink RX8 15 "CoastWatch$Words" "informer" "[I") (by decide +kernel)
  have k3 := hts (.fieldLink RX8 25 "CoastWatch$Words" "right" "[I") (by decide +kernel)
  refine lv_iload_n hx hb dX8_prove_0 rfl (lv_at hl 2 rfl) ?_
  refine lv_if_eq (tgt := 22) hx hb dX8_prove_1 (by decide) (fun c1 => ?_) (fun c1 => ?_)
  · have h := h.1 c1
    refine lv_aload_n hx hb dX8_prove_22 rfl (lv_at hl 0 rfl) ?_
    refine va_get (ci := 8) (v := .ref (A 60)) (C := RX8) (T := TX8) (N := 6) hx hb hts k0 hown hK hP 7 (aC7 Y A S) rfl 5 (by decide) k1 (fun _ h9 => h9) rfl dX8_prove_23 ?_
    refine lv_aload_n hx hb dX8_prove_26 rfl (lv_at hl 0 rfl) ?_
    refine va_get (ci := 8) (v := .ref (A 56)) (C := RX8) (T := TX8) (N := 6) hx hb hts k0 hown hK hP 7 (aC7 Y A S) rfl 1 (by decide) k2 (fun _ h9 => h9) rfl dX8_prove_27 ?_
    refine lv_iload_n hx hb dX8_prove_30 rfl (lv_at hl 1 rfl) ?_
    have v_2 := h.1
    have h := h.2
    refine va_iald hx hb hK hP 56 0 (aC56 Y A S) rfl v_2 dX8_prove_31 ?_
    refine lv_dup2_11 hx hb dX8_prove_32 rfl rfl ?_
    have v_3 := h.1
    have h := h.2
    refine va_iald hx hb hK hP 60 0 (aC60 Y A S) rfl v_3 dX8_prove_33 ?_
    refine lv_iconst (v := (1 : Int32)) hx hb dX8_prove_34 (by decide) ?_
    refine lv_iadd hx hb dX8_prove_35 ?_
    obtain ⟨S4, eS4⟩ : ∃ z : gS, z = sA S 47 (upd (ga S 47) (ga S 43 a1.toNatClampNeg).toNatClampNeg ((ga S 47 (ga S 43 a1.toNatClampNeg).toNatClampNeg) + (1 : Int32))) := ⟨_, rfl⟩
    refine va_iast hx hb hK hP (hD S) hS 60 0 (aC60 Y A S) rfl v_3 dX8_prove_36 (fun H locs hP _ hS => ?_)
    have hP := uC60 eS4 hP
    have h := h S4 eS4
    exact hret _ _ _ _ _ dX8_prove_37 h hP hS
  · have h := h.2 c1
    refine lv_aload_n hx hb dX8_prove_4 rfl (lv_at hl 0 rfl) ?_
    refine va_get (ci := 8) (v := .ref (A 59)) (C := RX8) (T := TX8) (N := 6) hx hb hts k0 hown hK hP 7 (aC7 Y A S) rfl 4 (by decide) k3 (fun _ h9 => h9) rfl dX8_prove_5 ?_
    refine lv_aload_n hx hb dX8_prove_8 rfl (lv_at hl 0 rfl) ?_
    refine va_get (ci := 8) (v := .ref (A 56)) (C := RX8) (T := TX8) (N := 6) hx hb hts k0 hown hK hP 7 (aC7 Y A S) rfl 1 (by decide) k2 (fun _ h9 => h9) rfl dX8_prove_9 ?_
    refine lv_iload_n hx hb dX8_prove_12 rfl (lv_at hl 1 rfl) ?_
    have v_5 := h.1
    have h := h.2
    refine va_iald hx hb hK hP 56 0 (aC56 Y A S) rfl v_5 dX8_prove_13 ?_
    refine lv_dup2_11 hx hb dX8_prove_14 rfl rfl ?_
    have v_6 := h.1
    have h := h.2
    refine va_iald hx hb hK hP 59 0 (aC59 Y A S) rfl v_6 dX8_prove_15 ?_
    refine lv_iconst (v := (1 : Int32)) hx hb dX8_prove_16 (by decide) ?_
    refine lv_iadd hx hb dX8_prove_17 ?_
    obtain ⟨S7, eS7⟩ : ∃ z : gS, z = sA S 46 (upd (ga S 46) (ga S 43 a1.toNatClampNeg).toNatClampNeg ((ga S 46 (ga S 43 a1.toNatClampNeg).toNatClampNeg) + (1 : Int32))) := ⟨_, rfl⟩
    refine va_iast hx hb hK hP (hD S) hS 59 0 (aC59 Y A S) rfl v_6 dX8_prove_18 (fun H locs hP _ hS => ?_)
    have hP := uC59 eS7 hP
    have h := h S7 eS7
    refine lv_goto (tgt := 37) hx hb dX8_prove_19 (by decide) ?_
    exact hret _ _ _ _ _ dX8_prove_37 h hP hS

def qX8_provedOf (S : gS) (a1 : Int32) (Q : Int32 → gS → Prop) : Prop :=
  vp_in a1 6 ∧ (Q ((ga S 46 a1.toNatClampNeg) + (ga S 47 a1.toNatClampNeg)) S)
abbrev rmX8_provedOf : Room := { frames := 0, cells := 0, slots := 0, locals := 0 }
set_option maxHeartbeats 4000000 in
set_option maxRecDepth 100000 in
theorem kX8_provedOf (l : Launch) (D : va_G) (Y : Nat → ClassId) (A : Nat → Nat) (hI : iC A) (sz : Nat) (S : gS) (a1 : Int32) (Q : Int32 → gS → Prop) (h : qX8_provedOf S a1 Q) : Met l yX8_provedOf wsX8_provedOf rmX8_provedOf (gPc [.ref (A 7), .int a1] sz D vwCl (tY Y) (wC Y A S)) (va_Qi Q (fun S' t => gH D vwCl (tY Y) (wC Y A S') t) (gF A 65 sz)) 0 0 (gF A 65 sz) := by
  refine gMet_i (cc := cX8_provedOf) (maxL := 2) (by decide +kernel) rfl (Nat.le_of_ble_eq_true rfl) (fun p e s m args below meth c Z H locs hx hb hml hts hown hK hP hS hret ls hl => ?_)
  have hown : s.vm.findClass RX8 = some m.cls := hown
  have hl : lv_has ls 2 [(0, .ref (A 7)), (1, .int a1)] := hl
  have hD : ∀ S0 : gS, va_D (gF A 65 s.heap.size) (wC Y A S0) := fun S0 => dC hI S0 (fun k hk => gF_in hk)
  have k0 : ∀ w ∈ u_ws RX8 TX8 6, w ∈ wsX8_provedOf := by decide +kernel
  have k1 := hts (.fieldLink RX8 25 "CoastWatch$Words" "right" "[I") (by decide +kernel)
  have k2 := hts (.fieldLink RX8 28 "CoastWatch$Words" "wrong" "[I") (by decide +kernel)
  refine lv_aload_n hx hb dX8_provedOf_0 rfl (lv_at hl 0 rfl) ?_
  refine va_get (ci := 8) (v := .ref (A 59)) (C := RX8) (T := TX8) (N := 6) hx hb hts k0 hown hK hP 7 (aC7 Y A S) rfl 4 (by decide) k1 (fun _ h9 => h9) rfl dX8_provedOf_1 ?_
  refine lv_iload_n hx hb dX8_provedOf_4 rfl (lv_at hl 1 rfl) ?_
  have v_1 := h.1
  have h := h.2
  refine va_iald hx hb hK hP 59 0 (aC59 Y A S) rfl v_1 dX8_provedOf_5 ?_
  refine lv_aload_n hx hb dX8_provedOf_6 rfl (lv_at hl 0 rfl) ?_
  refine va_get (ci := 8) (v := .ref (A 60)) (C := RX8) (T := TX8) (N := 6) hx hb hts k0 hown hK hP 7 (aC7 Y A S) rfl 5 (by decide) k2 (fun _ h9 => h9) rfl dX8_provedOf_7 ?_
  refine lv_iload_n hx hb dX8_provedOf_10 rfl (lv_at hl 1 rfl) ?_
  refine va_iald hx hb hK hP 60 0 (aC60 Y A S) rfl v_1 dX8_provedOf_11 ?_
  refine lv_iadd hx hb dX8_provedOf_12 ?_
  exact hret _ _ _ _ _ _ dX8_provedOf_13 h hP hS

def qX8_rightOnes_L4 (Q : Int32 → gS → Prop) (K4 : Int32 × Int32 × gS → Prop) : Int32 × Int32 × gS → Prop := fun ⟨v1, v2, S⟩ =>
  ((6 : Int32) ≤ v2 → (Q v1 S)) ∧ (¬ (6 : Int32) ≤ v2 → (vp_in v2 6 ∧ (∀ x3 : Int32, x3 = (v1 + (ga S 46 v2.toNatClampNeg)) → (∀ x4 : Int32, x4 = v2 + (1 : Int32) → (K4 (x3, x4, S))))))
def qX8_rightOnes (S : gS) (Q : Int32 → gS → Prop) : Prop :=
  lp (qX8_rightOnes_L4 Q) ((0 : Int32), (0 : Int32), S)
abbrev rmX8_rightOnes : Room := { frames := 0, cells := 0, slots := 0, locals := 0 }
set_option maxHeartbeats 4000000 in
set_option maxRecDepth 100000 in
theorem kX8_rightOnes (l : Launch) (D : va_G) (Y : Nat → ClassId) (A : Nat → Nat) (hI : iC A) (sz : Nat) (S : gS) (Q : Int32 → gS → Prop) (h : qX8_rightOnes S  Q) : Met l yX8_rightOnes wsX8_rightOnes rmX8_rightOnes (gPc [.ref (A 7)] sz D vwCl (tY Y) (wC Y A S)) (va_Qi Q (fun S' t => gH D vwCl (tY Y) (wC Y A S') t) (gF A 65 sz)) 0 0 (gF A 65 sz) := by
  refine gMet_i (cc := cX8_rightOnes) (maxL := 3) (by decide +kernel) rfl (Nat.le_of_ble_eq_true rfl) (fun p e s m args below meth c Z H locs hx hb hml hts hown hK hP hS hret ls hl => ?_)
  have hown : s.vm.findClass RX8 = some m.cls := hown
  have hl : lv_has ls 3 [(0, .ref (A 7))] := hl
  have hD : ∀ S0 : gS, va_D (gF A 65 s.heap.size) (wC Y A S0) := fun S0 => dC hI S0 (fun k hk => gF_in hk)
  have k0 : ∀ w ∈ u_ws RX8 TX8 6, w ∈ wsX8_rightOnes := by decide +kernel
  have k1 := hts (.fieldLink RX8 25 "CoastWatch$Words" "right" "[I") (by decide +kernel)
  have tL4 : ∀ (v1 : Int32) (v2 : Int32) (S : gS), lp (qX8_rightOnes_L4 Q) (v1, v2, S) → ∀ (H : Heap) (locs : List Loc) (ls : Array Slot), va_P D vwCl (wC Y A S) H → va_S (gF A 65 s.heap.size) s.heap H locs → lv_has ls 3 [(0, .ref (A 7)), (1, .int v1), (2, .int v2)] → W p l e rmX8_rightOnes s m args below meth c H locs 0 0 Z (F0 m 4 ls []) := by
    intro  v1 v2 S h
    refine lp_walk (G := fun a => match a with | (v1, v2, S) => ∀ (H : Heap) (locs : List Loc) (ls : Array Slot), va_P D vwCl (wC Y A S) H → va_S (gF A 65 s.heap.size) s.heap H locs → lv_has ls 3 [(0, .ref (A 7)), (1, .int v1), (2, .int v2)] → W p l e rmX8_rightOnes s m args below meth c H locs 0 0 Z (F0 m 4 ls [])) (fun K4 a ih4 h => ?_) (v1, v2, S) h
    obtain ⟨v1, v2, S⟩ := a
    have ih4 : ∀ (v1 : Int32) (v2 : Int32) (S : gS), K4 (v1, v2, S) → ∀ (H : Heap) (locs : List Loc) (ls : Array Slot), va_P D vwCl (wC Y A S) H → va_S (gF A 65 s.heap.size) s.heap H locs → lv_has ls 3 [(0, .ref (A 7)), (1, .int v1), (2, .int v2)] → W p l e rmX8_rightOnes s m args below meth c H locs 0 0 Z (F0 m 4 ls []) := fun v1 v2 S q => ih4 (v1, v2, S) q
    intro H locs ls hP hS hl
    refine lv_iload_n hx hb dX8_rightOnes_4 rfl (lv_at hl 2 rfl) ?_
    refine lv_bipush (v := (6 : Int32)) hx hb dX8_rightOnes_5 (by decide) ?_
    refine lv_icmp_ge (tgt := 25) hx hb dX8_rightOnes_7 (by decide) (fun c1 => ?_) (fun c1 => ?_)
    · have h := h.1 c1
      refine lv_iload_n hx hb dX8_rightOnes_25 rfl (lv_at hl 1 rfl) ?_
      exact hret _ _ _ _ _ _ dX8_rightOnes_26 h hP hS
    · have h := h.2 c1
      refine lv_iload_n hx hb dX8_rightOnes_10 rfl (lv_at hl 1 rfl) ?_
      refine lv_aload_n hx hb dX8_rightOnes_11 rfl (lv_at hl 0 rfl) ?_
      refine va_get (ci := 8) (v := .ref (A 59)) (C := RX8) (T := TX8) (N := 6) hx hb hts k0 hown hK hP 7 (aC7 Y A S) rfl 4 (by decide) k1 (fun _ h9 => h9) rfl dX8_rightOnes_12 ?_
      refine lv_iload_n hx hb dX8_rightOnes_15 rfl (lv_at hl 2 rfl) ?_
      have v_2 := h.1
      have h := h.2
      refine va_iald hx hb hK hP 59 0 (aC59 Y A S) rfl v_2 dX8_rightOnes_16 ?_
      refine lv_iadd hx hb dX8_rightOnes_17 ?_
      refine lv_topi (fun x3 ex3 => ?_)
      have h := h x3 ex3
      refine lv_istore_n (lv' := [(1, .int x3), (0, .ref (A 7)), (2, .int v2)]) hx hb dX8_rightOnes_18 rfl hl (by decide) rfl (fun ls hl => ?_)
      obtain ⟨x4, ex4⟩ : ∃ z : Int32, z = v2 + (1 : Int32) := ⟨_, rfl⟩
      have h := h x4 ex4
      refine lv_iinc (v := x4) (lv' := [(2, .int x4), (1, .int x3), (0, .ref (A 7))]) hx hb dX8_rightOnes_19 hl (k := 2) rfl (by rw [ex4]; rfl) (by decide) rfl (fun ls hl => ?_)
      refine lv_goto (tgt := 4) hx hb dX8_rightOnes_22 (by decide) ?_
      exact ih4 x3 x4 S h _ _ _ hP hS (lv_sub hl [2, 1, 0] rfl)
  refine lv_iconst (v := (0 : Int32)) hx hb dX8_rightOnes_0 (by decide) ?_
  refine lv_istore_n (lv' := [(1, .int (0 : Int32)), (0, .ref (A 7))]) hx hb dX8_rightOnes_1 rfl hl (by decide) rfl (fun ls hl => ?_)
  refine lv_iconst (v := (0 : Int32)) hx hb dX8_rightOnes_2 (by decide) ?_
  refine lv_istore_n (lv' := [(2, .int (0 : Int32)), (1, .int (0 : Int32)), (0, .ref (A 7))]) hx hb dX8_rightOnes_3 rfl hl (by decide) rfl (fun ls hl => ?_)
  exact tL4  (0 : Int32) (0 : Int32) S h _ _ _ hP hS (lv_sub hl [2, 1, 0] rfl)

def qX8_wrongOnes_L4 (Q : Int32 → gS → Prop) (K4 : Int32 × Int32 × gS → Prop) : Int32 × Int32 × gS → Prop := fun ⟨v1, v2, S⟩ =>
  ((6 : Int32) ≤ v2 → (Q v1 S)) ∧ (¬ (6 : Int32) ≤ v2 → (vp_in v2 6 ∧ (∀ x3 : Int32, x3 = (v1 + (ga S 47 v2.toNatClampNeg)) → (∀ x4 : Int32, x4 = v2 + (1 : Int32) → (K4 (x3, x4, S))))))
def qX8_wrongOnes (S : gS) (Q : Int32 → gS → Prop) : Prop :=
  lp (qX8_wrongOnes_L4 Q) ((0 : Int32), (0 : Int32), S)
abbrev rmX8_wrongOnes : Room := { frames := 0, cells := 0, slots := 0, locals := 0 }
set_option maxHeartbeats 4000000 in
set_option maxRecDepth 100000 in
theorem kX8_wrongOnes (l : Launch) (D : va_G) (Y : Nat → ClassId) (A : Nat → Nat) (hI : iC A) (sz : Nat) (S : gS) (Q : Int32 → gS → Prop) (h : qX8_wrongOnes S  Q) : Met l yX8_wrongOnes wsX8_wrongOnes rmX8_wrongOnes (gPc [.ref (A 7)] sz D vwCl (tY Y) (wC Y A S)) (va_Qi Q (fun S' t => gH D vwCl (tY Y) (wC Y A S') t) (gF A 65 sz)) 0 0 (gF A 65 sz) := by
  refine gMet_i (cc := cX8_wrongOnes) (maxL := 3) (by decide +kernel) rfl (Nat.le_of_ble_eq_true rfl) (fun p e s m args below meth c Z H locs hx hb hml hts hown hK hP hS hret ls hl => ?_)
  have hown : s.vm.findClass RX8 = some m.cls := hown
  have hl : lv_has ls 3 [(0, .ref (A 7))] := hl
  have hD : ∀ S0 : gS, va_D (gF A 65 s.heap.size) (wC Y A S0) := fun S0 => dC hI S0 (fun k hk => gF_in hk)
  have k0 : ∀ w ∈ u_ws RX8 TX8 6, w ∈ wsX8_wrongOnes := by decide +kernel
  have k1 := hts (.fieldLink RX8 28 "CoastWatch$Words" "wrong" "[I") (by decide +kernel)
  have tL4 : ∀ (v1 : Int32) (v2 : Int32) (S : gS), lp (qX8_wrongOnes_L4 Q) (v1, v2, S) → ∀ (H : Heap) (locs : List Loc) (ls : Array Slot), va_P D vwCl (wC Y A S) H → va_S (gF A 65 s.heap.size) s.heap H locs → lv_has ls 3 [(0, .ref (A 7)), (1, .int v1), (2, .int v2)] → W p l e rmX8_wrongOnes s m args below meth c H locs 0 0 Z (F0 m 4 ls []) := by
    intro  v1 v2 S h
    refine lp_walk (G := fun a => match a with | (v1, v2, S) => ∀ (H : Heap) (locs : List Loc) (ls : Array Slot), va_P D vwCl (wC Y A S) H → va_S (gF A 65 s.heap.size) s.heap H locs → lv_has ls 3 [(0, .ref (A 7)), (1, .int v1), (2, .int v2)] → W p l e rmX8_wrongOnes s m args below meth c H locs 0 0 Z (F0 m 4 ls [])) (fun K4 a ih4 h => ?_) (v1, v2, S) h
    obtain ⟨v1, v2, S⟩ := a
    have ih4 : ∀ (v1 : Int32) (v2 : Int32) (S : gS), K4 (v1, v2, S) → ∀ (H : Heap) (locs : List Loc) (ls : Array Slot), va_P D vwCl (wC Y A S) H → va_S (gF A 65 s.heap.size) s.heap H locs → lv_has ls 3 [(0, .ref (A 7)), (1, .int v1), (2, .int v2)] → W p l e rmX8_wrongOnes s m args below meth c H locs 0 0 Z (F0 m 4 ls []) := fun v1 v2 S q => ih4 (v1, v2, S) q
    intro H locs ls hP hS hl
    refine lv_iload_n hx hb dX8_wrongOnes_4 rfl (lv_at hl 2 rfl) ?_
    refine lv_bipush (v := (6 : Int32)) hx hb dX8_wrongOnes_5 (by decide) ?_
    refine lv_icmp_ge (tgt := 25) hx hb dX8_wrongOnes_7 (by decide) (fun c1 => ?_) (fun c1 => ?_)
    · have h := h.1 c1
      refine lv_iload_n hx hb dX8_wrongOnes_25 rfl (lv_at hl 1 rfl) ?_
      exact hret _ _ _ _ _ _ dX8_wrongOnes_26 h hP hS
    · have h := h.2 c1
      refine lv_iload_n hx hb dX8_wrongOnes_10 rfl (lv_at hl 1 rfl) ?_
      refine lv_aload_n hx hb dX8_wrongOnes_11 rfl (lv_at hl 0 rfl) ?_
      refine va_get (ci := 8) (v := .ref (A 60)) (C := RX8) (T := TX8) (N := 6) hx hb hts k0 hown hK hP 7 (aC7 Y A S) rfl 5 (by decide) k1 (fun _ h9 => h9) rfl dX8_wrongOnes_12 ?_
      refine lv_iload_n hx hb dX8_wrongOnes_15 rfl (lv_at hl 2 rfl) ?_
      have v_2 := h.1
      have h := h.2
      refine va_iald hx hb hK hP 60 0 (aC60 Y A S) rfl v_2 dX8_wrongOnes_16 ?_
      refine lv_iadd hx hb dX8_wrongOnes_17 ?_
      refine lv_topi (fun x3 ex3 => ?_)
      have h := h x3 ex3
      refine lv_istore_n (lv' := [(1, .int x3), (0, .ref (A 7)), (2, .int v2)]) hx hb dX8_wrongOnes_18 rfl hl (by decide) rfl (fun ls hl => ?_)
      obtain ⟨x4, ex4⟩ : ∃ z : Int32, z = v2 + (1 : Int32) := ⟨_, rfl⟩
      have h := h x4 ex4
      refine lv_iinc (v := x4) (lv' := [(2, .int x4), (1, .int x3), (0, .ref (A 7))]) hx hb dX8_wrongOnes_19 hl (k := 2) rfl (by rw [ex4]; rfl) (by decide) rfl (fun ls hl => ?_)
      refine lv_goto (tgt := 4) hx hb dX8_wrongOnes_22 (by decide) ?_
      exact ih4 x3 x4 S h _ _ _ hP hS (lv_sub hl [2, 1, 0] rfl)
  refine lv_iconst (v := (0 : Int32)) hx hb dX8_wrongOnes_0 (by decide) ?_
  refine lv_istore_n (lv' := [(1, .int (0 : Int32)), (0, .ref (A 7))]) hx hb dX8_wrongOnes_1 rfl hl (by decide) rfl (fun ls hl => ?_)
  refine lv_iconst (v := (0 : Int32)) hx hb dX8_wrongOnes_2 (by decide) ?_
  refine lv_istore_n (lv' := [(2, .int (0 : Int32)), (1, .int (0 : Int32)), (0, .ref (A 7))]) hx hb dX8_wrongOnes_3 rfl hl (by decide) rfl (fun ls hl => ?_)
  exact tL4  (0 : Int32) (0 : Int32) S h _ _ _ hP hS (lv_sub hl [2, 1, 0] rfl)

def qX8_doubtAbove_L5 (a1 : Int32) (a2 : Int32) (Q : Int64 → gS → Prop) (K5 : Int64 × Int32 × gS → Prop) : Int64 × Int32 × gS → Prop := fun ⟨v3, v5, S⟩ =>
  ((gi S 8) ≤ v5 → (Q v3 S)) ∧ (¬ (gi S 8) ≤ v5 → (qX8_names S v5 a1 a2 (fun r3 S2 => (r3 = 0 → (∀ x5 : Int32, x5 = v5 + (1 : Int32) → (K5 (v3, x5, S2)))) ∧ (¬ r3 = 0 → (vp_in v5 60 ∧ (vp_in (ga S2 43 v5.toNatClampNeg) 6 ∧ (∀ x8 : Int64, x8 = (v3 * ((ga S2 47 (ga S2 43 v5.toNatClampNeg).toNatClampNeg) + (1 : Int32)).toInt64) → (∀ x9 : Int32, x9 = v5 + (1 : Int32) → (K5 (x8, x9, S2))))))))))
def qX8_doubtAbove (S : gS) (a1 : Int32) (a2 : Int32) (Q : Int64 → gS → Prop) : Prop :=
  lp (qX8_doubtAbove_L5 a1 a2 Q) ((1 : Int64), (0 : Int32), S)
abbrev rmX8_doubtAbove : Room := { frames := 1, cells := 0, slots := 0, locals := 23 }
set_option maxHeartbeats 4000000 in
set_option maxRecDepth 100000 in
theorem kX8_doubtAbove (l : Launch) (D : va_G) (Y : Nat → ClassId) (A : Nat → Nat) (hI : iC A) (sz : Nat) (S : gS) (a1 : Int32) (a2 : Int32) (Q : Int64 → gS → Prop) (h : qX8_doubtAbove S a1 a2 Q) : Met l yX8_doubtAbove wsX8_doubtAbove rmX8_doubtAbove (gPc [.ref (A 7), .int a1, .int a2] sz D vwCl (tY Y) (wC Y A S)) (va_Ql Q (fun S' t => gH D vwCl (tY Y) (wC Y A S') t) (gF A 65 sz)) 0 0 (gF A 65 sz) := by
  refine gMet_l (cc := cX8_doubtAbove) (maxL := 6) (by decide +kernel) rfl (Nat.le_of_ble_eq_true rfl) (fun p e s m args below meth c Z H locs hx hb hml hts hown hK hP hS hret ls hl => ?_)
  have hown : s.vm.findClass RX8 = some m.cls := hown
  have hl : lv_has ls 6 [(0, .ref (A 7)), (1, .int a1), (2, .int a2)] := hl
  have hD : ∀ S0 : gS, va_D (gF A 65 s.heap.size) (wC Y A S0) := fun S0 => dC hI S0 (fun k hk => gF_in hk)
  have k0 : ∀ w ∈ u_ws RX8 TX8 6, w ∈ wsX8_doubtAbove := by decide +kernel
  have k1 := hts (.fieldLink RX8 9 "CoastWatch$Words" "size" "I") (by decide +kernel)
  have k2 := hts (.fieldLink RX8 28 "CoastWatch$Words" "wrong" "[I") (by decide +kernel)
  have k3 := hts (.fieldLink RX8 15 "CoastWatch$Words" "informer" "[I") (by decide +kernel)
  have tL5 : ∀ (v3 : Int64) (v5 : Int32) (S : gS), lp (qX8_doubtAbove_L5 a1 a2 Q) (v3, v5, S) → ∀ (H : Heap) (locs : List Loc) (ls : Array Slot), va_P D vwCl (wC Y A S) H → va_S (gF A 65 s.heap.size) s.heap H locs → lv_has ls 6 [(0, .ref (A 7)), (1, .int a1), (2, .int a2), (3, .long v3), (5, .int v5)] → W p l e rmX8_doubtAbove s m args below meth c H locs 0 0 Z (F0 m 5 ls []) := by
    intro  v3 v5 S h
    refine lp_walk (G := fun a => match a with | (v3, v5, S) => ∀ (H : Heap) (locs : List Loc) (ls : Array Slot), va_P D vwCl (wC Y A S) H → va_S (gF A 65 s.heap.size) s.heap H locs → lv_has ls 6 [(0, .ref (A 7)), (1, .int a1), (2, .int a2), (3, .long v3), (5, .int v5)] → W p l e rmX8_doubtAbove s m args below meth c H locs 0 0 Z (F0 m 5 ls [])) (fun K5 a ih5 h => ?_) (v3, v5, S) h
    obtain ⟨v3, v5, S⟩ := a
    have ih5 : ∀ (v3 : Int64) (v5 : Int32) (S : gS), K5 (v3, v5, S) → ∀ (H : Heap) (locs : List Loc) (ls : Array Slot), va_P D vwCl (wC Y A S) H → va_S (gF A 65 s.heap.size) s.heap H locs → lv_has ls 6 [(0, .ref (A 7)), (1, .int a1), (2, .int a2), (3, .long v3), (5, .int v5)] → W p l e rmX8_doubtAbove s m args below meth c H locs 0 0 Z (F0 m 5 ls []) := fun v3 v5 S q => ih5 (v3, v5, S) q
    intro H locs ls hP hS hl
    refine lv_iload hx hb dX8_doubtAbove_5 (lv_at hl 4 rfl) ?_
    refine lv_aload_n hx hb dX8_doubtAbove_7 rfl (lv_at hl 0 rfl) ?_
    refine va_get (ci := 8) (v := .int (gi S 8)) (C := RX8) (T := TX8) (N := 6) hx hb hts k0 hown hK hP 7 (aC7 Y A S) rfl 0 (by decide) k1 (fun _ h9 => h9) rfl dX8_doubtAbove_8 ?_
    refine lv_icmp_ge (tgt := 49) hx hb dX8_doubtAbove_11 (by decide) (fun c1 => ?_) (fun c1 => ?_)
    · have h := h.1 c1
      refine lv_lload_n hx hb dX8_doubtAbove_49 rfl (lv_at hl 3 rfl) ?_
      exact hret _ _ _ _ _ _ dX8_doubtAbove_50 h hP hS
    · have h := h.2 c1
      refine lv_aload_n hx hb dX8_doubtAbove_14 rfl (lv_at hl 0 rfl) ?_
      refine lv_iload hx hb dX8_doubtAbove_15 (lv_at hl 4 rfl) ?_
      refine lv_iload_n hx hb dX8_doubtAbove_17 rfl (lv_at hl 1 rfl) ?_
      refine lv_iload_n hx hb dX8_doubtAbove_18 rfl (lv_at hl 2 rfl) ?_
      refine gVi (As := [.int v5, .int a1, .int a2]) (rest := []) ⟨hx, hb, hml, hown, hts⟩ (kX8_names l D Y A hI H.size S v5 a1 a2 _ h) (cwV 3 hts gX8_doubtAbove_X8_names rfl rfl rfl (by decide +kernel) ⟨Nat.le_of_ble_eq_true rfl, Nat.le_of_ble_eq_true rfl⟩) hK hP hS (gF_le hS.1) (aC7 Y A S) (show vwCl[8]? = some (RX8, TX8, 6) from rfl) rfl rfl hl.1 (Nat.le_of_ble_eq_true rfl) dX8_doubtAbove_19 ⟨Nat.zero_le _, Nat.zero_le _⟩ ?_
      intro r3 S2 H locs h hP hS
      refine lv_if_eq (tgt := 43) hx hb dX8_doubtAbove_22 (by decide) (fun c4 => ?_) (fun c4 => ?_)
      · have h := h.1 c4
        obtain ⟨x5, ex5⟩ : ∃ z : Int32, z = v5 + (1 : Int32) := ⟨_, rfl⟩
        have h := h x5 ex5
        refine lv_iinc (v := x5) (lv' := [(5, .int x5), (0, .ref (A 7)), (1, .int a1), (2, .int a2), (3, .long v3)]) hx hb dX8_doubtAbove_43 hl (k := 4) rfl (by rw [ex5]; rfl) (by decide) rfl (fun ls hl => ?_)
        refine lv_goto (tgt := 5) hx hb dX8_doubtAbove_46 (by decide) ?_
        exact ih5 v3 x5 S2 h _ _ _ hP hS (lv_sub hl [1, 2, 3, 4, 0] rfl)
      · have h := h.2 c4
        refine lv_lload_n hx hb dX8_doubtAbove_25 rfl (lv_at hl 3 rfl) ?_
        refine lv_aload_n hx hb dX8_doubtAbove_26 rfl (lv_at hl 0 rfl) ?_
        refine va_get (ci := 8) (v := .ref (A 60)) (C := RX8) (T := TX8) (N := 6) hx hb hts k0 hown hK hP 7 (aC7 Y A S2) rfl 5 (by decide) k2 (fun _ h9 => h9) rfl dX8_doubtAbove_27 ?_
        refine lv_aload_n hx hb dX8_doubtAbove_30 rfl (lv_at hl 0 rfl) ?_
        refine va_get (ci := 8) (v := .ref (A 56)) (C := RX8) (T := TX8) (N := 6) hx hb hts k0 hown hK hP 7 (aC7 Y A S2) rfl 1 (by decide) k3 (fun _ h9 => h9) rfl dX8_doubtAbove_31 ?_
        refine lv_iload hx hb dX8_doubtAbove_34 (lv_at hl 4 rfl) ?_
        have v_6 := h.1
        have h := h.2
        refine va_iald hx hb hK hP 56 0 (aC56 Y A S2) rfl v_6 dX8_doubtAbove_36 ?_
        have v_7 := h.1
        have h := h.2
        refine va_iald hx hb hK hP 60 0 (aC60 Y A S2) rfl v_7 dX8_doubtAbove_37 ?_
        refine lv_iconst (v := (1 : Int32)) hx hb dX8_doubtAbove_38 (by decide) ?_
        refine lv_iadd hx hb dX8_doubtAbove_39 ?_
        refine lv_i2l hx hb dX8_doubtAbove_40 rfl ?_
        refine lv_lmul hx hb dX8_doubtAbove_41 ?_
        refine lv_topl (fun x8 ex8 => ?_)
        have h := h x8 ex8
        refine lv_lstore_n (lv' := [(3, .long x8), (0, .ref (A 7)), (1, .int a1), (2, .int a2), (5, .int v5)]) hx hb dX8_doubtAbove_42 rfl hl (by decide) rfl (fun ls hl => ?_)
        obtain ⟨x9, ex9⟩ : ∃ z : Int32, z = v5 + (1 : Int32) := ⟨_, rfl⟩
        have h := h x9 ex9
        refine lv_iinc (v := x9) (lv' := [(5, .int x9), (3, .long x8), (0, .ref (A 7)), (1, .int a1), (2, .int a2)]) hx hb dX8_doubtAbove_43 hl (k := 4) rfl (by rw [ex9]; rfl) (by decide) rfl (fun ls hl => ?_)
        refine lv_goto (tgt := 5) hx hb dX8_doubtAbove_46 (by decide) ?_
        exact ih5 x8 x9 S2 h _ _ _ hP hS (lv_sub hl [2, 3, 4, 1, 0] rfl)
  refine lv_lconst (v := (1 : Int64)) hx hb dX8_doubtAbove_0 (by decide) ?_
  refine lv_lstore_n (lv' := [(3, .long (1 : Int64)), (0, .ref (A 7)), (1, .int a1), (2, .int a2)]) hx hb dX8_doubtAbove_1 rfl hl (by decide) rfl (fun ls hl => ?_)
  refine lv_iconst (v := (0 : Int32)) hx hb dX8_doubtAbove_2 (by decide) ?_
  refine lv_istore (lv' := [(5, .int (0 : Int32)), (3, .long (1 : Int64)), (0, .ref (A 7)), (1, .int a1), (2, .int a2)]) hx hb dX8_doubtAbove_3 hl (by decide) rfl (fun ls hl => ?_)
  exact tL5  (1 : Int64) (0 : Int32) S h _ _ _ hP hS (lv_sub hl [2, 3, 4, 1, 0] rfl)

def qX8_doubtBelow_L5 (a1 : Int32) (a2 : Int32) (Q : Int64 → gS → Prop) (K5 : Int64 × Int32 × gS → Prop) : Int64 × Int32 × gS → Prop := fun ⟨v3, v5, S⟩ =>
  ((gi S 8) ≤ v5 → (Q v3 S)) ∧ (¬ (gi S 8) ≤ v5 → (qX8_names S v5 a1 a2 (fun r3 S2 => (r3 = 0 → (∀ x5 : Int32, x5 = v5 + (1 : Int32) → (K5 (v3, x5, S2)))) ∧ (¬ r3 = 0 → (vp_in v5 60 ∧ (qX8_provedOf S2 (ga S2 43 v5.toNatClampNeg) (fun r8 S7 => ∀ x9 : Int64, x9 = (v3 * (r8 + (2 : Int32)).toInt64) → (∀ x10 : Int32, x10 = v5 + (1 : Int32) → (K5 (x9, x10, S7))))))))))
def qX8_doubtBelow (S : gS) (a1 : Int32) (a2 : Int32) (Q : Int64 → gS → Prop) : Prop :=
  lp (qX8_doubtBelow_L5 a1 a2 Q) ((1 : Int64), (0 : Int32), S)
abbrev rmX8_doubtBelow : Room := { frames := 1, cells := 0, slots := 0, locals := 23 }
set_option maxHeartbeats 4000000 in
set_option maxRecDepth 100000 in
theorem kX8_doubtBelow (l : Launch) (D : va_G) (Y : Nat → ClassId) (A : Nat → Nat) (hI : iC A) (sz : Nat) (S : gS) (a1 : Int32) (a2 : Int32) (Q : Int64 → gS → Prop) (h : qX8_doubtBelow S a1 a2 Q) : Met l yX8_doubtBelow wsX8_doubtBelow rmX8_doubtBelow (gPc [.ref (A 7), .int a1, .int a2] sz D vwCl (tY Y) (wC Y A S)) (va_Ql Q (fun S' t => gH D vwCl (tY Y) (wC Y A S') t) (gF A 65 sz)) 0 0 (gF A 65 sz) := by
  refine gMet_l (cc := cX8_doubtBelow) (maxL := 6) (by decide +kernel) rfl (Nat.le_of_ble_eq_true rfl) (fun p e s m args below meth c Z H locs hx hb hml hts hown hK hP hS hret ls hl => ?_)
  have hown : s.vm.findClass RX8 = some m.cls := hown
  have hl : lv_has ls 6 [(0, .ref (A 7)), (1, .int a1), (2, .int a2)] := hl
  have hD : ∀ S0 : gS, va_D (gF A 65 s.heap.size) (wC Y A S0) := fun S0 => dC hI S0 (fun k hk => gF_in hk)
  have k0 : ∀ w ∈ u_ws RX8 TX8 6, w ∈ wsX8_doubtBelow := by decide +kernel
  have k1 := hts (.fieldLink RX8 9 "CoastWatch$Words" "size" "I") (by decide +kernel)
  have k2 := hts (.fieldLink RX8 15 "CoastWatch$Words" "informer" "[I") (by decide +kernel)
  have tL5 : ∀ (v3 : Int64) (v5 : Int32) (S : gS), lp (qX8_doubtBelow_L5 a1 a2 Q) (v3, v5, S) → ∀ (H : Heap) (locs : List Loc) (ls : Array Slot), va_P D vwCl (wC Y A S) H → va_S (gF A 65 s.heap.size) s.heap H locs → lv_has ls 6 [(0, .ref (A 7)), (1, .int a1), (2, .int a2), (3, .long v3), (5, .int v5)] → W p l e rmX8_doubtBelow s m args below meth c H locs 0 0 Z (F0 m 5 ls []) := by
    intro  v3 v5 S h
    refine lp_walk (G := fun a => match a with | (v3, v5, S) => ∀ (H : Heap) (locs : List Loc) (ls : Array Slot), va_P D vwCl (wC Y A S) H → va_S (gF A 65 s.heap.size) s.heap H locs → lv_has ls 6 [(0, .ref (A 7)), (1, .int a1), (2, .int a2), (3, .long v3), (5, .int v5)] → W p l e rmX8_doubtBelow s m args below meth c H locs 0 0 Z (F0 m 5 ls [])) (fun K5 a ih5 h => ?_) (v3, v5, S) h
    obtain ⟨v3, v5, S⟩ := a
    have ih5 : ∀ (v3 : Int64) (v5 : Int32) (S : gS), K5 (v3, v5, S) → ∀ (H : Heap) (locs : List Loc) (ls : Array Slot), va_P D vwCl (wC Y A S) H → va_S (gF A 65 s.heap.size) s.heap H locs → lv_has ls 6 [(0, .ref (A 7)), (1, .int a1), (2, .int a2), (3, .long v3), (5, .int v5)] → W p l e rmX8_doubtBelow s m args below meth c H locs 0 0 Z (F0 m 5 ls []) := fun v3 v5 S q => ih5 (v3, v5, S) q
    intro H locs ls hP hS hl
    refine lv_iload hx hb dX8_doubtBelow_5 (lv_at hl 4 rfl) ?_
    refine lv_aload_n hx hb dX8_doubtBelow_7 rfl (lv_at hl 0 rfl) ?_
    refine va_get (ci := 8) (v := .int (gi S 8)) (C := RX8) (T := TX8) (N := 6) hx hb hts k0 hown hK hP 7 (aC7 Y A S) rfl 0 (by decide) k1 (fun _ h9 => h9) rfl dX8_doubtBelow_8 ?_
    refine lv_icmp_ge (tgt := 48) hx hb dX8_doubtBelow_11 (by decide) (fun c1 => ?_) (fun c1 => ?_)
    · have h := h.1 c1
      refine lv_lload_n hx hb dX8_doubtBelow_48 rfl (lv_at hl 3 rfl) ?_
      exact hret _ _ _ _ _ _ dX8_doubtBelow_49 h hP hS
    · have h := h.2 c1
      refine lv_aload_n hx hb dX8_doubtBelow_14 rfl (lv_at hl 0 rfl) ?_
      refine lv_iload hx hb dX8_doubtBelow_15 (lv_at hl 4 rfl) ?_
      refine lv_iload_n hx hb dX8_doubtBelow_17 rfl (lv_at hl 1 rfl) ?_
      refine lv_iload_n hx hb dX8_doubtBelow_18 rfl (lv_at hl 2 rfl) ?_
      refine gVi (As := [.int v5, .int a1, .int a2]) (rest := []) ⟨hx, hb, hml, hown, hts⟩ (kX8_names l D Y A hI H.size S v5 a1 a2 _ h) (cwV 3 hts gX8_doubtBelow_X8_names rfl rfl rfl (by decide +kernel) ⟨Nat.le_of_ble_eq_true rfl, Nat.le_of_ble_eq_true rfl⟩) hK hP hS (gF_le hS.1) (aC7 Y A S) (show vwCl[8]? = some (RX8, TX8, 6) from rfl) rfl rfl hl.1 (Nat.le_of_ble_eq_true rfl) dX8_doubtBelow_19 ⟨Nat.zero_le _, Nat.zero_le _⟩ ?_
      intro r3 S2 H locs h hP hS
      refine lv_if_eq (tgt := 42) hx hb dX8_doubtBelow_22 (by decide) (fun c4 => ?_) (fun c4 => ?_)
      · have h := h.1 c4
        obtain ⟨x5, ex5⟩ : ∃ z : Int32, z = v5 + (1 : Int32) := ⟨_, rfl⟩
        have h := h x5 ex5
        refine lv_iinc (v := x5) (lv' := [(5, .int x5), (0, .ref (A 7)), (1, .int a1), (2, .int a2), (3, .long v3)]) hx hb dX8_doubtBelow_42 hl (k := 4) rfl (by rw [ex5]; rfl) (by decide) rfl (fun ls hl => ?_)
        refine lv_goto (tgt := 5) hx hb dX8_doubtBelow_45 (by decide) ?_
        exact ih5 v3 x5 S2 h _ _ _ hP hS (lv_sub hl [1, 2, 3, 4, 0] rfl)
      · have h := h.2 c4
        refine lv_lload_n hx hb dX8_doubtBelow_25 rfl (lv_at hl 3 rfl) ?_
        refine lv_aload_n hx hb dX8_doubtBelow_26 rfl (lv_at hl 0 rfl) ?_
        refine lv_aload_n hx hb dX8_doubtBelow_27 rfl (lv_at hl 0 rfl) ?_
        refine va_get (ci := 8) (v := .ref (A 56)) (C := RX8) (T := TX8) (N := 6) hx hb hts k0 hown hK hP 7 (aC7 Y A S2) rfl 1 (by decide) k2 (fun _ h9 => h9) rfl dX8_doubtBelow_28 ?_
        refine lv_iload hx hb dX8_doubtBelow_31 (lv_at hl 4 rfl) ?_
        have v_6 := h.1
        have h := h.2
        refine va_iald hx hb hK hP 56 0 (aC56 Y A S2) rfl v_6 dX8_doubtBelow_33 ?_
        refine gVi (As := [.int (ga S2 43 v5.toNatClampNeg)]) (rest := [.long v3]) ⟨hx, hb, hml, hown, hts⟩ (kX8_provedOf l D Y A hI H.size S2 (ga S2 43 v5.toNatClampNeg) _ h) (cwV 1 hts gX8_doubtBelow_X8_provedOf rfl rfl rfl (by decide +kernel) ⟨Nat.le_of_ble_eq_true rfl, Nat.le_of_ble_eq_true rfl⟩) hK hP hS (gF_le hS.1) (aC7 Y A S2) (show vwCl[8]? = some (RX8, TX8, 6) from rfl) rfl rfl hl.1 (Nat.le_of_ble_eq_true rfl) dX8_doubtBelow_34 ⟨Nat.zero_le _, Nat.zero_le _⟩ ?_
        intro r8 S7 H locs h hP hS
        refine lv_iconst (v := (2 : Int32)) hx hb dX8_doubtBelow_37 (by decide) ?_
        refine lv_iadd hx hb dX8_doubtBelow_38 ?_
        refine lv_i2l hx hb dX8_doubtBelow_39 rfl ?_
        refine lv_lmul hx hb dX8_doubtBelow_40 ?_
        refine lv_topl (fun x9 ex9 => ?_)
        have h := h x9 ex9
        refine lv_lstore_n (lv' := [(3, .long x9), (0, .ref (A 7)), (1, .int a1), (2, .int a2), (5, .int v5)]) hx hb dX8_doubtBelow_41 rfl hl (by decide) rfl (fun ls hl => ?_)
        obtain ⟨x10, ex10⟩ : ∃ z : Int32, z = v5 + (1 : Int32) := ⟨_, rfl⟩
        have h := h x10 ex10
        refine lv_iinc (v := x10) (lv' := [(5, .int x10), (3, .long x9), (0, .ref (A 7)), (1, .int a1), (2, .int a2)]) hx hb dX8_doubtBelow_42 hl (k := 4) rfl (by rw [ex10]; rfl) (by decide) rfl (fun ls hl => ?_)
        refine lv_goto (tgt := 5) hx hb dX8_doubtBelow_45 (by decide) ?_
        exact ih5 x9 x10 S7 h _ _ _ hP hS (lv_sub hl [2, 3, 4, 1, 0] rfl)
  refine lv_lconst (v := (1 : Int64)) hx hb dX8_doubtBelow_0 (by decide) ?_
  refine lv_lstore_n (lv' := [(3, .long (1 : Int64)), (0, .ref (A 7)), (1, .int a1), (2, .int a2)]) hx hb dX8_doubtBelow_1 rfl hl (by decide) rfl (fun ls hl => ?_)
  refine lv_iconst (v := (0 : Int32)) hx hb dX8_doubtBelow_2 (by decide) ?_
  refine lv_istore (lv' := [(5, .int (0 : Int32)), (3, .long (1 : Int64)), (0, .ref (A 7)), (1, .int a1), (2, .int a2)]) hx hb dX8_doubtBelow_3 hl (by decide) rfl (fun ls hl => ?_)
  exact tL5  (1 : Int64) (0 : Int32) S h _ _ _ hP hS (lv_sub hl [2, 3, 4, 1, 0] rfl)
