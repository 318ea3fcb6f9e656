/-! constructors of the nested classes -/
abbrev rmX7_init : Room := { frames := 1, cells := 6, slots := 128, locals := 24 }
set_option maxHeartbeats 8000000 in
set_option maxRecDepth 100000 in
theorem kX7_init (l : Launch) (D : va_G) (Y : Nat → ClassId) (h0 sz : Nat) : Met l yX7_init wsX7_init rmX7_init (gP0 [.ref h0] sz D Y [(h0, .inr (7, [.null, .null]))]) (va_Qv (fun _ : Unit => True) (fun _ t => ∃ q1 q2 : Nat, gB D (va_A [(h0, .inr (7, [.null, .null]))] sz) [(h0, .inr (7, [.ref q1, .ref q2])), (q1, .inl (Y 3, 4, .inr (.inr (.inr (.inr (fun j => if j < 4 then some (q1 + 1 + j) else none)))))), ((q1 + 1 + 0), .inl (Y 0, 30, .inl (fun _ => 0))), ((q1 + 1 + 1), .inl (Y 0, 30, .inl (fun _ => 0))), ((q1 + 1 + 2), .inl (Y 0, 30, .inl (fun _ => 0))), ((q1 + 1 + 3), .inl (Y 0, 30, .inl (fun _ => 0))), (q2, .inl (Y 0, 4, .inl (iv4 (-1))))] t) (va_A [(h0, .inr (7, [.null, .null]))] sz)) 6 128 (va_A [(h0, .inr (7, [.null, .null]))] sz) := by
  refine Met.ofW (cc := cX7_init) (maxL := 2) (ret := none) (by decide +kernel) rfl ?_
  intro p e s m args below meth c s₁ B hml hv
  obtain ⟨rfl, hsz, hP, hK, hAO, hD0⟩ := hv
  have hx := B.exec
  have hb := B.bytes
  have hr := B.returns
  have hts := atoms_spec (ws := wsX7_init) B.pre
  have hown : s.vm.findClass RX7 = some m.cls := findClass_of_methodNamed B.named
  have hlocks := B.notSynchronized
  have hin : meth.name = "<init>" := (name_of_methodNamed B.named B.method).1
  subst hsz
  have hD := hD0.self (sz := s.heap.size)
  have hA : ∀ q : Nat, s.heap.size ≤ q → va_A [(h0, .inr (7, [.null, .null]))] s.heap.size q := fun q h => Or.inr h
  generalize va_A [(h0, .inr (7, [.null, .null]))] s.heap.size = A at hD hA ⊢
  have hS : va_S A s.heap s.heap [] := va_S.rf
  have hP : va_P D vwCl [(h0, .inr (7, [.null, .null]))] s.heap := hP
  have hl := lv_entry ([.ref h0]) (n := 2) (Nat.le_of_ble_eq_true rfl)
  rw [lg_entry_eq]
  generalize (lg_sl ([.ref h0]) ++ List.replicate (2 - (lg_sl ([.ref h0])).length) Slot.unset).toArray = ls at hl ⊢
  have hl : lv_has ls 2 [(0, .ref h0)] := hl
  have f0 := hts (.methodLink RX7 3 objectInit) (by decide +kernel)
  have f1 := hts (.instanceMethod objectInit) (by decide +kernel)
  have f2 := hts (.code objectInit ⟨#[0xb1]⟩ 1 none) (by decide +kernel)
  have f3 := hts (.classLink RX7 9 "[[I") (by decide +kernel)
  have f4 := hts (.arrayClass .int) (by decide +kernel)
  have f5 := hts (.fieldLink RX7 11 "CoastWatch$Tables" "numbers" "[[I") (by decide +kernel)
  have f6 : ∀ w ∈ u_ws RX7 TX7 2, w ∈ wsX7_init := by decide +kernel
  have f7 := hts (.fieldLink RX7 16 "CoastWatch$Tables" "length" "[I") (by decide +kernel)
  refine lv_aload_n hx hb dX7_init_0 rfl (lv_at hl 0 rfl) ?_
  refine W.objInit hx hb hown f0 f1 f2 rfl (by rw [hml]; exact hl.1) rfl dX7_init_1 (Nat.le_of_ble_eq_true rfl) (Nat.le_of_ble_eq_true rfl) ?_
  refine W.eq (g2 := F0 m 4 ls []) rfl ?_
  refine lv_aload_n hx hb dX7_init_4 rfl (lv_at hl 0 rfl) ?_
  refine lv_iconst (v := (4 : Int32)) hx hb dX7_init_5 (by decide) ?_
  refine lv_bipush (v := (30 : Int32)) hx hb dX7_init_6 (by decide) ?_
  refine gMna (N := 4) (K := 30) hx hb hown f3 hAO f4 hK hP hD hS hA (by decide) (by decide) (by decide) (by decide) (Nat.le_of_ble_eq_true rfl) (Nat.le_of_ble_eq_true rfl) (Nat.le_of_ble_eq_true rfl) (Nat.le_of_ble_eq_true rfl) dX7_init_8 (fun q1 H hP hD hS => ?_)
  obtain ⟨hP, hD⟩ : gW D A [(h0, .inr (7, [.null, .null])), (q1, .inl (Y 3, 4, .inr (.inr (.inr (.inr (fun j => if j < 4 then some (q1 + 1 + j) else none)))))), ((q1 + 1 + 0), .inl (Y 0, 30, .inl (fun _ => 0))), ((q1 + 1 + 1), .inl (Y 0, 30, .inl (fun _ => 0))), ((q1 + 1 + 2), .inl (Y 0, 30, .inl (fun _ => 0))), ((q1 + 1 + 3), .inl (Y 0, 30, .inl (fun _ => 0)))] H := ⟨hP, hD⟩
  refine W.widen (k := 5) (n := 124) (Nat.le_of_ble_eq_true rfl) (Nat.le_of_ble_eq_true rfl) ?_
  refine va_putF (ci := 7) (v := .ref q1) (ty := .array (.array .int)) (C := RX7) (T := TX7) (N := 2) hx hb hts f6 tyX7 tyX7_ok nmX7 hown hK hP hD hS 0 rfl rfl 0 (by decide) f5 (fun _ h9 => h9) rfl hin rfl (by decide +kernel) rfl rfl (Nat.le_of_ble_eq_true rfl) dX7_init_12 (fun H locs hP hD hS => ?_)
  obtain ⟨hP, hD⟩ : gW D A [(h0, .inr (7, [.ref q1, .null])), (q1, .inl (Y 3, 4, .inr (.inr (.inr (.inr (fun j => if j < 4 then some (q1 + 1 + j) else none)))))), ((q1 + 1 + 0), .inl (Y 0, 30, .inl (fun _ => 0))), ((q1 + 1 + 1), .inl (Y 0, 30, .inl (fun _ => 0))), ((q1 + 1 + 2), .inl (Y 0, 30, .inl (fun _ => 0))), ((q1 + 1 + 3), .inl (Y 0, 30, .inl (fun _ => 0)))] H := ⟨hP, hD⟩
  refine lv_aload_n hx hb dX7_init_15 rfl (lv_at hl 0 rfl) ?_
  refine lv_iconst (v := (4 : Int32)) hx hb dX7_init_16 (by decide) ?_
  refine gNewa (atype := .int) (N' := 4) (a0 := (4, .inl (fun _ => 0))) 0 hx hb f4 rfl rfl hK hP hD hS hA (fun _ => gA0I _ _) (by decide) (by decide) (Nat.le_of_ble_eq_true rfl) (Nat.le_of_ble_eq_true rfl) (Nat.le_of_ble_eq_true rfl) dX7_init_17 (fun q2 H hP hD hS => ?_)
  obtain ⟨hP, hD⟩ : gW D A [(h0, .inr (7, [.ref q1, .null])), (q1, .inl (Y 3, 4, .inr (.inr (.inr (.inr (fun j => if j < 4 then some (q1 + 1 + j) else none)))))), ((q1 + 1 + 0), .inl (Y 0, 30, .inl (fun _ => 0))), ((q1 + 1 + 1), .inl (Y 0, 30, .inl (fun _ => 0))), ((q1 + 1 + 2), .inl (Y 0, 30, .inl (fun _ => 0))), ((q1 + 1 + 3), .inl (Y 0, 30, .inl (fun _ => 0))), (q2, .inl (Y 0, 4, .inl (fun _ => 0)))] H := ⟨hP, hD⟩
  refine W.widen (k := 6) (n := 128) (Nat.le_of_ble_eq_true rfl) (Nat.le_of_ble_eq_true rfl) ?_
  refine va_putF (ci := 7) (v := .ref q2) (ty := .array .int) (C := RX7) (T := TX7) (N := 2) hx hb hts f6 tyX7 tyX7_ok nmX7 hown hK hP hD hS 0 rfl rfl 1 (by decide) f7 (fun _ h9 => h9) rfl hin rfl (by decide +kernel) rfl rfl (Nat.le_of_ble_eq_true rfl) dX7_init_19 (fun H locs hP hD hS => ?_)
  obtain ⟨hP, hD⟩ : gW D A [(h0, .inr (7, [.ref q1, .ref q2])), (q1, .inl (Y 3, 4, .inr (.inr (.inr (.inr (fun j => if j < 4 then some (q1 + 1 + j) else none)))))), ((q1 + 1 + 0), .inl (Y 0, 30, .inl (fun _ => 0))), ((q1 + 1 + 1), .inl (Y 0, 30, .inl (fun _ => 0))), ((q1 + 1 + 2), .inl (Y 0, 30, .inl (fun _ => 0))), ((q1 + 1 + 3), .inl (Y 0, 30, .inl (fun _ => 0))), (q2, .inl (Y 0, 4, .inl (fun _ => 0)))] H := ⟨hP, hD⟩
  refine lv_iconst (v := (0 : Int32)) hx hb dX7_init_22 (by decide) ?_
  refine lv_istore_n (lv' := [(1, .int (0 : Int32)), (0, .ref h0)]) hx hb dX7_init_23 rfl hl (by decide) rfl (fun ls hl => ?_)
  refine lv_iload_n hx hb dX7_init_24 rfl (lv_at hl 0 rfl) ?_
  refine lv_iconst (v := (4 : Int32)) hx hb dX7_init_25 (by decide) ?_
  refine lv_icmp_ge (tgt := 42) hx hb dX7_init_26 (by decide) (fun c => ?_) (fun c => ?_)
  · exact absurd c (by decide)
  refine lv_aload_n hx hb dX7_init_29 rfl (lv_at hl 1 rfl) ?_
  refine va_get (ci := 7) (v := .ref q2) (C := RX7) (T := TX7) (N := 2) hx hb hts f6 hown hK hP 0 rfl rfl 1 (by decide) f7 (fun _ h9 => h9) rfl dX7_init_30 ?_
  refine lv_iload_n hx hb dX7_init_33 rfl (lv_at hl 0 rfl) ?_
  refine lv_iconst (v := (-1 : Int32)) hx hb dX7_init_34 (by decide) ?_
  refine va_iast hx hb hK hP hD hS 6 0 rfl rfl (in_of (by decide) (by decide)) dX7_init_35 (fun H locs hP hD hS => ?_)
  obtain ⟨hP, hD⟩ : gW D A [(h0, .inr (7, [.ref q1, .ref q2])), (q1, .inl (Y 3, 4, .inr (.inr (.inr (.inr (fun j => if j < 4 then some (q1 + 1 + j) else none)))))), ((q1 + 1 + 0), .inl (Y 0, 30, .inl (fun _ => 0))), ((q1 + 1 + 1), .inl (Y 0, 30, .inl (fun _ => 0))), ((q1 + 1 + 2), .inl (Y 0, 30, .inl (fun _ => 0))), ((q1 + 1 + 3), .inl (Y 0, 30, .inl (fun _ => 0))), (q2, .inl (Y 0, 4, .inl (upd (fun _ => 0) (0 : Int32).toNatClampNeg (-1 : Int32))))] H := ⟨hP, hD⟩
  refine lv_iinc (v := (1 : Int32)) (lv' := [(1, .int (1 : Int32)), (0, .ref h0)]) hx hb dX7_init_36 hl (k := 0) rfl (by decide) (by decide) rfl (fun ls hl => ?_)
  refine lv_goto (tgt := 24) hx hb dX7_init_39 (by decide) ?_
  refine lv_iload_n hx hb dX7_init_24 rfl (lv_at hl 0 rfl) ?_
  refine lv_iconst (v := (4 : Int32)) hx hb dX7_init_25 (by decide) ?_
  refine lv_icmp_ge (tgt := 42) hx hb dX7_init_26 (by decide) (fun c => ?_) (fun c => ?_)
  · exact absurd c (by decide)
  refine lv_aload_n hx hb dX7_init_29 rfl (lv_at hl 1 rfl) ?_
  refine va_get (ci := 7) (v := .ref q2) (C := RX7) (T := TX7) (N := 2) hx hb hts f6 hown hK hP 0 rfl rfl 1 (by decide) f7 (fun _ h9 => h9) rfl dX7_init_30 ?_
  refine lv_iload_n hx hb dX7_init_33 rfl (lv_at hl 0 rfl) ?_
  refine lv_iconst (v := (-1 : Int32)) hx hb dX7_init_34 (by decide) ?_
  refine va_iast hx hb hK hP hD hS 6 0 rfl rfl (in_of (by decide) (by decide)) dX7_init_35 (fun H locs hP hD hS => ?_)
  obtain ⟨hP, hD⟩ : gW D A [(h0, .inr (7, [.ref q1, .ref q2])), (q1, .inl (Y 3, 4, .inr (.inr (.inr (.inr (fun j => if j < 4 then some (q1 + 1 + j) else none)))))), ((q1 + 1 + 0), .inl (Y 0, 30, .inl (fun _ => 0))), ((q1 + 1 + 1), .inl (Y 0, 30, .inl (fun _ => 0))), ((q1 + 1 + 2), .inl (Y 0, 30, .inl (fun _ => 0))), ((q1 + 1 + 3), .inl (Y 0, 30, .inl (fun _ => 0))), (q2, .inl (Y 0, 4, .inl (upd (upd (fun _ => 0) (0 : Int32).toNatClampNeg (-1 : Int32)) (1 : Int32).toNatClampNeg (-1 : Int32))))] H := ⟨hP, hD⟩
  refine lv_iinc (v := (2 : Int32)) (lv' := [(1, .int (2 : Int32)), (0, .ref h0)]) hx hb dX7_init_36 hl (k := 0) rfl (by decide) (by decide) rfl (fun ls hl => ?_)
  refine lv_goto (tgt := 24) hx hb dX7_init_39 (by decide) ?_
  refine lv_iload_n hx hb dX7_init_24 rfl (lv_at hl 0 rfl) ?_
  refine lv_iconst (v := (4 : Int32)) hx hb dX7_init_25 (by decide) ?_
  refine lv_icmp_ge (tgt := 42) hx hb dX7_init_26 (by decide) (fun c => ?_) (fun c => ?_)
  · exact absurd c (by decide)
  refine lv_aload_n hx hb dX7_init_29 rfl (lv_at hl 1 rfl) ?_
  refine va_get (ci := 7) (v := .ref q2) (C := RX7) (T := TX7) (N := 2) hx hb hts f6 hown hK hP 0 rfl rfl 1 (by decide) f7 (fun _ h9 => h9) rfl dX7_init_30 ?_
  refine lv_iload_n hx hb dX7_init_33 rfl (lv_at hl 0 rfl) ?_
  refine lv_iconst (v := (-1 : Int32)) hx hb dX7_init_34 (by decide) ?_
  refine va_iast hx hb hK hP hD hS 6 0 rfl rfl (in_of (by decide) (by decide)) dX7_init_35 (fun H locs hP hD hS => ?_)
  obtain ⟨hP, hD⟩ : gW D A [(h0, .inr (7, [.ref q1, .ref q2])), (q1, .inl (Y 3, 4, .inr (.inr (.inr (.inr (fun j => if j < 4 then some (q1 + 1 + j) else none)))))), ((q1 + 1 + 0), .inl (Y 0, 30, .inl (fun _ => 0))), ((q1 + 1 + 1), .inl (Y 0, 30, .inl (fun _ => 0))), ((q1 + 1 + 2), .inl (Y 0, 30, .inl (fun _ => 0))), ((q1 + 1 + 3), .inl (Y 0, 30, .inl (fun _ => 0))), (q2, .inl (Y 0, 4, .inl (upd (upd (upd (fun _ => 0) (0 : Int32).toNatClampNeg (-1 : Int32)) (1 : Int32).toNatClampNeg (-1 : Int32)) (2 : Int32).toNatClampNeg (-1 : Int32))))] H := ⟨hP, hD⟩
  refine lv_iinc (v := (3 : Int32)) (lv' := [(1, .int (3 : Int32)), (0, .ref h0)]) hx hb dX7_init_36 hl (k := 0) rfl (by decide) (by decide) rfl (fun ls hl => ?_)
  refine lv_goto (tgt := 24) hx hb dX7_init_39 (by decide) ?_
  refine lv_iload_n hx hb dX7_init_24 rfl (lv_at hl 0 rfl) ?_
  refine lv_iconst (v := (4 : Int32)) hx hb dX7_init_25 (by decide) ?_
  refine lv_icmp_ge (tgt := 42) hx hb dX7_init_26 (by decide) (fun c => ?_) (fun c => ?_)
  · exact absurd c (by decide)
  refine lv_aload_n hx hb dX7_init_29 rfl (lv_at hl 1 rfl) ?_
  refine va_get (ci := 7) (v := .ref q2) (C := RX7) (T := TX7) (N := 2) hx hb hts f6 hown hK hP 0 rfl rfl 1 (by decide) f7 (fun _ h9 => h9) rfl dX7_init_30 ?_
  refine lv_iload_n hx hb dX7_init_33 rfl (lv_at hl 0 rfl) ?_
  refine lv_iconst (v := (-1 : Int32)) hx hb dX7_init_34 (by decide) ?_
  refine va_iast hx hb hK hP hD hS 6 0 rfl rfl (in_of (by decide) (by decide)) dX7_init_35 (fun H locs hP hD hS => ?_)
  obtain ⟨hP, hD⟩ : gW D A [(h0, .inr (7, [.ref q1, .ref q2])), (q1, .inl (Y 3, 4, .inr (.inr (.inr (.inr (fun j => if j < 4 then some (q1 + 1 + j) else none)))))), ((q1 + 1 + 0), .inl (Y 0, 30, .inl (fun _ => 0))), ((q1 + 1 + 1), .inl (Y 0, 30, .inl (fun _ => 0))), ((q1 + 1 + 2), .inl (Y 0, 30, .inl (fun _ => 0))), ((q1 + 1 + 3), .inl (Y 0, 30, .inl (fun _ => 0))), (q2, .inl (Y 0, 4, .inl (iv4 (-1))))] H := ⟨hP, hD⟩
  refine lv_iinc (v := (4 : Int32)) (lv' := [(1, .int (4 : Int32)), (0, .ref h0)]) hx hb dX7_init_36 hl (k := 0) rfl (by decide) (by decide) rfl (fun ls hl => ?_)
  refine lv_goto (tgt := 24) hx hb dX7_init_39 (by decide) ?_
  refine lv_iload_n hx hb dX7_init_24 rfl (lv_at hl 0 rfl) ?_
  refine lv_iconst (v := (4 : Int32)) hx hb dX7_init_25 (by decide) ?_
  refine lv_icmp_ge (tgt := 42) hx hb dX7_init_26 (by decide) (fun c => ?_) (fun c => ?_)
  rotate_left
  · exact absurd (by decide) c
  exact W.vret hx hb hr (fun t ht hW => ⟨⟨(), rfl, trivial, q1, q2, by rw [ht]; exact hP, hD⟩, hS.F ht⟩) hS.2.2 dX7_init_42

abbrev rmX1_init : Room := { frames := 1, cells := 7, slots := 42, locals := 24 }
set_option maxHeartbeats 8000000 in
set_option maxRecDepth 100000 in
theorem kX1_init (l : Launch) (D : va_G) (Y : Nat → ClassId) (h0 sz : Nat) : Met l yX1_init wsX1_init rmX1_init (gP0 [.ref h0] sz D Y [(h0, .inr (1, [.null, .null, .null, .null, .null, .null, .null]))]) (va_Qv (fun _ : Unit => True) (fun _ t => ∃ q1 q2 q3 q4 q5 q6 q7 : Nat, gB D (va_A [(h0, .inr (1, [.null, .null, .null, .null, .null, .null, .null]))] sz) [(h0, .inr (1, [.ref q1, .ref q2, .ref q3, .ref q4, .ref q5, .ref q6, .ref q7])), (q1, .inl (Y 0, 6, .inl (iv6 (3)))), (q2, .inl (Y 0, 6, .inl (iv6 (10)))), (q3, .inl (Y 0, 6, .inl (iv6 (-1)))), (q4, .inl (Y 0, 6, .inl (fun _ => 0))), (q5, .inl (Y 0, 6, .inl (fun _ => 0))), (q6, .inl (Y 1, 6, .inl (fun _ => 0))), (q7, .inl (Y 0, 6, .inl (fun _ => 0)))] t) (va_A [(h0, .inr (1, [.null, .null, .null, .null, .null, .null, .null]))] sz)) 7 42 (va_A [(h0, .inr (1, [.null, .null, .null, .null, .null, .null, .null]))] sz) := by
  refine Met.ofW (cc := cX1_init) (maxL := 2) (ret := none) (by decide +kernel) rfl ?_
  intro p e s m args below meth c s₁ B hml hv
  obtain ⟨rfl, hsz, hP, hK, hAO, hD0⟩ := hv
  have hx := B.exec
  have hb := B.bytes
  have hr := B.returns
  have hts := atoms_spec (ws := wsX1_init) B.pre
  have hown : s.vm.findClass RX1 = some m.cls := findClass_of_methodNamed B.named
  have hlocks := B.notSynchronized
  have hin : meth.name = "<init>" := (name_of_methodNamed B.named B.method).1
  subst hsz
  have hD := hD0.self (sz := s.heap.size)
  have hA : ∀ q : Nat, s.heap.size ≤ q → va_A [(h0, .inr (1, [.null, .null, .null, .null, .null, .null, .null]))] s.heap.size q := fun q h => Or.inr h
  generalize va_A [(h0, .inr (1, [.null, .null, .null, .null, .null, .null, .null]))] s.heap.size = A at hD hA ⊢
  have hS : va_S A s.heap s.heap [] := va_S.rf
  have hP : va_P D vwCl [(h0, .inr (1, [.null, .null, .null, .null, .null, .null, .null]))] s.heap := hP
  have hl := lv_entry ([.ref h0]) (n := 2) (Nat.le_of_ble_eq_true rfl)
  rw [lg_entry_eq]
  generalize (lg_sl ([.ref h0]) ++ List.replicate (2 - (lg_sl ([.ref h0])).length) Slot.unset).toArray = ls at hl ⊢
  have hl : lv_has ls 2 [(0, .ref h0)] := hl
  have f0 := hts (.methodLink RX1 3 objectInit) (by decide +kernel)
  have f1 := hts (.instanceMethod objectInit) (by decide +kernel)
  have f2 := hts (.code objectInit ⟨#[0xb1]⟩ 1 none) (by decide +kernel)
  have f3 := hts (.arrayClass .int) (by decide +kernel)
  have f4 := hts (.fieldLink RX1 9 "CoastWatch$Coves" "depth" "[I") (by decide +kernel)
  have f5 : ∀ w ∈ u_ws RX1 TX1 7, w ∈ wsX1_init := by decide +kernel
  have f6 := hts (.fieldLink RX1 15 "CoastWatch$Coves" "worth" "[I") (by decide +kernel)
  have f7 := hts (.fieldLink RX1 18 "CoastWatch$Coves" "ledBy" "[I") (by decide +kernel)
  have f8 := hts (.fieldLink RX1 21 "CoastWatch$Coves" "standing" "[I") (by decide +kernel)
  have f9 := hts (.fieldLink RX1 24 "CoastWatch$Coves" "shares" "[I") (by decide +kernel)
  have f10 := hts (.arrayClass .boolean) (by decide +kernel)
  have f11 := hts (.fieldLink RX1 27 "CoastWatch$Coves" "bribed" "[Z") (by decide +kernel)
  have f12 := hts (.fieldLink RX1 31 "CoastWatch$Coves" "watchers" "[I") (by decide +kernel)
  refine lv_aload_n hx hb dX1_init_0 rfl (lv_at hl 0 rfl) ?_
  refine W.objInit hx hb hown f0 f1 f2 rfl (by rw [hml]; exact hl.1) rfl dX1_init_1 (Nat.le_of_ble_eq_true rfl) (Nat.le_of_ble_eq_true rfl) ?_
  refine W.eq (g2 := F0 m 4 ls []) rfl ?_
  refine lv_aload_n hx hb dX1_init_4 rfl (lv_at hl 0 rfl) ?_
  refine lv_bipush (v := (6 : Int32)) hx hb dX1_init_5 (by decide) ?_
  refine gNewa (atype := .int) (N' := 6) (a0 := (6, .inl (fun _ => 0))) 0 hx hb f3 rfl rfl hK hP hD hS hA (fun _ => gA0I _ _) (by decide) (by decide) (Nat.le_of_ble_eq_true rfl) (Nat.le_of_ble_eq_true rfl) (Nat.le_of_ble_eq_true rfl) dX1_init_7 (fun q1 H hP hD hS => ?_)
  obtain ⟨hP, hD⟩ : gW D A [(h0, .inr (1, [.null, .null, .null, .null, .null, .null, .null])), (q1, .inl (Y 0, 6, .inl (fun _ => 0)))] H := ⟨hP, hD⟩
  refine W.widen (k := 1) (n := 6) (Nat.le_of_ble_eq_true rfl) (Nat.le_of_ble_eq_true rfl) ?_
  refine va_putF (ci := 1) (v := .ref q1) (ty := .array .int) (C := RX1) (T := TX1) (N := 7) hx hb hts f5 tyX1 tyX1_ok nmX1 hown hK hP hD hS 0 rfl rfl 0 (by decide) f4 (fun _ h9 => h9) rfl hin rfl (by decide +kernel) rfl rfl (Nat.le_of_ble_eq_true rfl) dX1_init_9 (fun H locs hP hD hS => ?_)
  obtain ⟨hP, hD⟩ : gW D A [(h0, .inr (1, [.ref q1, .null, .null, .null, .null, .null, .null])), (q1, .inl (Y 0, 6, .inl (fun _ => 0)))] H := ⟨hP, hD⟩
  refine lv_aload_n hx hb dX1_init_12 rfl (lv_at hl 0 rfl) ?_
  refine lv_bipush (v := (6 : Int32)) hx hb dX1_init_13 (by decide) ?_
  refine gNewa (atype := .int) (N' := 6) (a0 := (6, .inl (fun _ => 0))) 0 hx hb f3 rfl rfl hK hP hD hS hA (fun _ => gA0I _ _) (by decide) (by decide) (Nat.le_of_ble_eq_true rfl) (Nat.le_of_ble_eq_true rfl) (Nat.le_of_ble_eq_true rfl) dX1_init_15 (fun q2 H hP hD hS => ?_)
  obtain ⟨hP, hD⟩ : gW D A [(h0, .inr (1, [.ref q1, .null, .null, .null, .null, .null, .null])), (q1, .inl (Y 0, 6, .inl (fun _ => 0))), (q2, .inl (Y 0, 6, .inl (fun _ => 0)))] H := ⟨hP, hD⟩
  refine W.widen (k := 2) (n := 12) (Nat.le_of_ble_eq_true rfl) (Nat.le_of_ble_eq_true rfl) ?_
  refine va_putF (ci := 1) (v := .ref q2) (ty := .array .int) (C := RX1) (T := TX1) (N := 7) hx hb hts f5 tyX1 tyX1_ok nmX1 hown hK hP hD hS 0 rfl rfl 1 (by decide) f6 (fun _ h9 => h9) rfl hin rfl (by decide +kernel) rfl rfl (Nat.le_of_ble_eq_true rfl) dX1_init_17 (fun H locs hP hD hS => ?_)
  obtain ⟨hP, hD⟩ : gW D A [(h0, .inr (1, [.ref q1, .ref q2, .null, .null, .null, .null, .null])), (q1, .inl (Y 0, 6, .inl (fun _ => 0))), (q2, .inl (Y 0, 6, .inl (fun _ => 0)))] H := ⟨hP, hD⟩
  refine lv_aload_n hx hb dX1_init_20 rfl (lv_at hl 0 rfl) ?_
  refine lv_bipush (v := (6 : Int32)) hx hb dX1_init_21 (by decide) ?_
  refine gNewa (atype := .int) (N' := 6) (a0 := (6, .inl (fun _ => 0))) 0 hx hb f3 rfl rfl hK hP hD hS hA (fun _ => gA0I _ _) (by decide) (by decide) (Nat.le_of_ble_eq_true rfl) (Nat.le_of_ble_eq_true rfl) (Nat.le_of_ble_eq_true rfl) dX1_init_23 (fun q3 H hP hD hS => ?_)
  obtain ⟨hP, hD⟩ : gW D A [(h0, .inr (1, [.ref q1, .ref q2, .null, .null, .null, .null, .null])), (q1, .inl (Y 0, 6, .inl (fun _ => 0))), (q2, .inl (Y 0, 6, .inl (fun _ => 0))), (q3, .inl (Y 0, 6, .inl (fun _ => 0)))] H := ⟨hP, hD⟩
  refine W.widen (k := 3) (n := 18) (Nat.le_of_ble_eq_true rfl) (Nat.le_of_ble_eq_true rfl) ?_
  refine va_putF (ci := 1) (v := .ref q3) (ty := .array .int) (C := RX1) (T := TX1) (N := 7) hx hb hts f5 tyX1 tyX1_ok nmX1 hown hK hP hD hS 0 rfl rfl 2 (by decide) f7 (fun _ h9 => h9) rfl hin rfl (by decide +kernel) rfl rfl (Nat.le_of_ble_eq_true rfl) dX1_init_25 (fun H locs hP hD hS => ?_)
  obtain ⟨hP, hD⟩ : gW D A [(h0, .inr (1, [.ref q1, .ref q2, .ref q3, .null, .null, .null, .null])), (q1, .inl (Y 0, 6, .inl (fun _ => 0))), (q2, .inl (Y 0, 6, .inl (fun _ => 0))), (q3, .inl (Y 0, 6, .inl (fun _ => 0)))] H := ⟨hP, hD⟩
  refine lv_aload_n hx hb dX1_init_28 rfl (lv_at hl 0 rfl) ?_
  refine lv_bipush (v := (6 : Int32)) hx hb dX1_init_29 (by decide) ?_
  refine gNewa (atype := .int) (N' := 6) (a0 := (6, .inl (fun _ => 0))) 0 hx hb f3 rfl rfl hK hP hD hS hA (fun _ => gA0I _ _) (by decide) (by decide) (Nat.le_of_ble_eq_true rfl) (Nat.le_of_ble_eq_true rfl) (Nat.le_of_ble_eq_true rfl) dX1_init_31 (fun q4 H hP hD hS => ?_)
  obtain ⟨hP, hD⟩ : gW D A [(h0, .inr (1, [.ref q1, .ref q2, .ref q3, .null, .null, .null, .null])), (q1, .inl (Y 0, 6, .inl (fun _ => 0))), (q2, .inl (Y 0, 6, .inl (fun _ => 0))), (q3, .inl (Y 0, 6, .inl (fun _ => 0))), (q4, .inl (Y 0, 6, .inl (fun _ => 0)))] H := ⟨hP, hD⟩
  refine W.widen (k := 4) (n := 24) (Nat.le_of_ble_eq_true rfl) (Nat.le_of_ble_eq_true rfl) ?_
  refine va_putF (ci := 1) (v := .ref q4) (ty := .array .int) (C := RX1) (T := TX1) (N := 7) hx hb hts f5 tyX1 tyX1_ok nmX1 hown hK hP hD hS 0 rfl rfl 3 (by decide) f8 (fun _ h9 => h9) rfl hin rfl (by decide +kernel) rfl rfl (Nat.le_of_ble_eq_true rfl) dX1_init_33 (fun H locs hP hD hS => ?_)
  obtain ⟨hP, hD⟩ : gW D A [(h0, .inr (1, [.ref q1, .ref q2, .ref q3, .ref q4, .null, .null, .null])), (q1, .inl (Y 0, 6, .inl (fun _ => 0))), (q2, .inl (Y 0, 6, .inl (fun _ => 0))), (q3, .inl (Y 0, 6, .inl (fun _ => 0))), (q4, .inl (Y 0, 6, .inl (fun _ => 0)))] H := ⟨hP, hD⟩
  refine lv_aload_n hx hb dX1_init_36 rfl (lv_at hl 0 rfl) ?_
  refine lv_bipush (v := (6 : Int32)) hx hb dX1_init_37 (by decide) ?_
  refine gNewa (atype := .int) (N' := 6) (a0 := (6, .inl (fun _ => 0))) 0 hx hb f3 rfl rfl hK hP hD hS hA (fun _ => gA0I _ _) (by decide) (by decide) (Nat.le_of_ble_eq_true rfl) (Nat.le_of_ble_eq_true rfl) (Nat.le_of_ble_eq_true rfl) dX1_init_39 (fun q5 H hP hD hS => ?_)
  obtain ⟨hP, hD⟩ : gW D A [(h0, .inr (1, [.ref q1, .ref q2, .ref q3, .ref q4, .null, .null, .null])), (q1, .inl (Y 0, 6, .inl (fun _ => 0))), (q2, .inl (Y 0, 6, .inl (fun _ => 0))), (q3, .inl (Y 0, 6, .inl (fun _ => 0))), (q4, .inl (Y 0, 6, .inl (fun _ => 0))), (q5, .inl (Y 0, 6, .inl (fun _ => 0)))] H := ⟨hP, hD⟩
  refine W.widen (k := 5) (n := 30) (Nat.le_of_ble_eq_true rfl) (Nat.le_of_ble_eq_true rfl) ?_
  refine va_putF (ci := 1) (v := .ref q5) (ty := .array .int) (C := RX1) (T := TX1) (N := 7) hx hb hts f5 tyX1 tyX1_ok nmX1 hown hK hP hD hS 0 rfl rfl 4 (by decide) f9 (fun _ h9 => h9) rfl hin rfl (by decide +kernel) rfl rfl (Nat.le_of_ble_eq_true rfl) dX1_init_41 (fun H locs hP hD hS => ?_)
  obtain ⟨hP, hD⟩ : gW D A [(h0, .inr (1, [.ref q1, .ref q2, .ref q3, .ref q4, .ref q5, .null, .null])), (q1, .inl (Y 0, 6, .inl (fun _ => 0))), (q2, .inl (Y 0, 6, .inl (fun _ => 0))), (q3, .inl (Y 0, 6, .inl (fun _ => 0))), (q4, .inl (Y 0, 6, .inl (fun _ => 0))), (q5, .inl (Y 0, 6, .inl (fun _ => 0)))] H := ⟨hP, hD⟩
  refine lv_aload_n hx hb dX1_init_44 rfl (lv_at hl 0 rfl) ?_
  refine lv_bipush (v := (6 : Int32)) hx hb dX1_init_45 (by decide) ?_
  refine gNewa (atype := .boolean) (N' := 6) (a0 := (6, .inl (fun _ => 0))) 1 hx hb f10 rfl rfl hK hP hD hS hA (fun _ => gA0Z _ _) (by decide) (by decide) (Nat.le_of_ble_eq_true rfl) (Nat.le_of_ble_eq_true rfl) (Nat.le_of_ble_eq_true rfl) dX1_init_47 (fun q6 H hP hD hS => ?_)
  obtain ⟨hP, hD⟩ : gW D A [(h0, .inr (1, [.ref q1, .ref q2, .ref q3, .ref q4, .ref q5, .null, .null])), (q1, .inl (Y 0, 6, .inl (fun _ => 0))), (q2, .inl (Y 0, 6, .inl (fun _ => 0))), (q3, .inl (Y 0, 6, .inl (fun _ => 0))), (q4, .inl (Y 0, 6, .inl (fun _ => 0))), (q5, .inl (Y 0, 6, .inl (fun _ => 0))), (q6, .inl (Y 1, 6, .inl (fun _ => 0)))] H := ⟨hP, hD⟩
  refine W.widen (k := 6) (n := 36) (Nat.le_of_ble_eq_true rfl) (Nat.le_of_ble_eq_true rfl) ?_
  refine va_putF (ci := 1) (v := .ref q6) (ty := .array .boolean) (C := RX1) (T := TX1) (N := 7) hx hb hts f5 tyX1 tyX1_ok nmX1 hown hK hP hD hS 0 rfl rfl 5 (by decide) f11 (fun _ h9 => h9) rfl hin rfl (by decide +kernel) rfl rfl (Nat.le_of_ble_eq_true rfl) dX1_init_49 (fun H locs hP hD hS => ?_)
  obtain ⟨hP, hD⟩ : gW D A [(h0, .inr (1, [.ref q1, .ref q2, .ref q3, .ref q4, .ref q5, .ref q6, .null])), (q1, .inl (Y 0, 6, .inl (fun _ => 0))), (q2, .inl (Y 0, 6, .inl (fun _ => 0))), (q3, .inl (Y 0, 6, .inl (fun _ => 0))), (q4, .inl (Y 0, 6, .inl (fun _ => 0))), (q5, .inl (Y 0, 6, .inl (fun _ => 0))), (q6, .inl (Y 1, 6, .inl (fun _ => 0)))] H := ⟨hP, hD⟩
  refine lv_aload_n hx hb dX1_init_52 rfl (lv_at hl 0 rfl) ?_
  refine lv_bipush (v := (6 : Int32)) hx hb dX1_init_53 (by decide) ?_
  refine gNewa (atype := .int) (N' := 6) (a0 := (6, .inl (fun _ => 0))) 0 hx hb f3 rfl rfl hK hP hD hS hA (fun _ => gA0I _ _) (by decide) (by decide) (Nat.le_of_ble_eq_true rfl) (Nat.le_of_ble_eq_true rfl) (Nat.le_of_ble_eq_true rfl) dX1_init_55 (fun q7 H hP hD hS => ?_)
  obtain ⟨hP, hD⟩ : gW D A [(h0, .inr (1, [.ref q1, .ref q2, .ref q3, .ref q4, .ref q5, .ref q6, .null])), (q1, .inl (Y 0, 6, .inl (fun _ => 0))), (q2, .inl (Y 0, 6, .inl (fun _ => 0))), (q3, .inl (Y 0, 6, .inl (fun _ => 0))), (q4, .inl (Y 0, 6, .inl (fun _ => 0))), (q5, .inl (Y 0, 6, .inl (fun _ => 0))), (q6, .inl (Y 1, 6, .inl (fun _ => 0))), (q7, .inl (Y 0, 6, .inl (fun _ => 0)))] H := ⟨hP, hD⟩
  refine W.widen (k := 7) (n := 42) (Nat.le_of_ble_eq_true rfl) (Nat.le_of_ble_eq_true rfl) ?_
  refine va_putF (ci := 1) (v := .ref q7) (ty := .array .int) (C := RX1) (T := TX1) (N := 7) hx hb hts f5 tyX1 tyX1_ok nmX1 hown hK hP hD hS 0 rfl rfl 6 (by decide) f12 (fun _ h9 => h9) rfl hin rfl (by decide +kernel) rfl rfl (Nat.le_of_ble_eq_true rfl) dX1_init_57 (fun H locs hP hD hS => ?_)
  obtain ⟨hP, hD⟩ : gW D A [(h0, .inr (1, [.ref q1, .ref q2, .ref q3, .ref q4, .ref q5, .ref q6, .ref q7])), (q1, .inl (Y 0, 6, .inl (fun _ => 0))), (q2, .inl (Y 0, 6, .inl (fun _ => 0))), (q3, .inl (Y 0, 6, .inl (fun _ => 0))), (q4, .inl (Y 0, 6, .inl (fun _ => 0))), (q5, .inl (Y 0, 6, .inl (fun _ => 0))), (q6, .inl (Y 1, 6, .inl (fun _ => 0))), (q7, .inl (Y 0, 6, .inl (fun _ => 0)))] H := ⟨hP, hD⟩
  refine lv_iconst (v := (0 : Int32)) hx hb dX1_init_60 (by decide) ?_
  refine lv_istore_n (lv' := [(1, .int (0 : Int32)), (0, .ref h0)]) hx hb dX1_init_61 rfl hl (by decide) rfl (fun ls hl => ?_)
  refine lv_iload_n hx hb dX1_init_62 rfl (lv_at hl 0 rfl) ?_
  refine lv_bipush (v := (6 : Int32)) hx hb dX1_init_63 (by decide) ?_
  refine lv_icmp_ge (tgt := 96) hx hb dX1_init_65 (by decide) (fun c => ?_) (fun c => ?_)
  · exact absurd c (by decide)
  refine lv_aload_n hx hb dX1_init_68 rfl (lv_at hl 1 rfl) ?_
  refine va_get (ci := 1) (v := .ref q1) (C := RX1) (T := TX1) (N := 7) hx hb hts f5 hown hK hP 0 rfl rfl 0 (by decide) f4 (fun _ h9 => h9) rfl dX1_init_69 ?_
  refine lv_iload_n hx hb dX1_init_72 rfl (lv_at hl 0 rfl) ?_
  refine lv_iconst (v := (3 : Int32)) hx hb dX1_init_73 (by decide) ?_
  refine va_iast hx hb hK hP hD hS 1 0 rfl rfl (in_of (by decide) (by decide)) dX1_init_74 (fun H locs hP hD hS => ?_)
  obtain ⟨hP, hD⟩ : gW D A [(h0, .inr (1, [.ref q1, .ref q2, .ref q3, .ref q4, .ref q5, .ref q6, .ref q7])), (q1, .inl (Y 0, 6, .inl (upd (fun _ => 0) (0 : Int32).toNatClampNeg (3 : Int32)))), (q2, .inl (Y 0, 6, .inl (fun _ => 0))), (q3, .inl (Y 0, 6, .inl (fun _ => 0))), (q4, .inl (Y 0, 6, .inl (fun _ => 0))), (q5, .inl (Y 0, 6, .inl (fun _ => 0))), (q6, .inl (Y 1, 6, .inl (fun _ => 0))), (q7, .inl (Y 0, 6, .inl (fun _ => 0)))] H := ⟨hP, hD⟩
  refine lv_aload_n hx hb dX1_init_75 rfl (lv_at hl 1 rfl) ?_
  refine va_get (ci := 1) (v := .ref q2) (C := RX1) (T := TX1) (N := 7) hx hb hts f5 hown hK hP 0 rfl rfl 1 (by decide) f6 (fun _ h9 => h9) rfl dX1_init_76 ?_
  refine lv_iload_n hx hb dX1_init_79 rfl (lv_at hl 0 rfl) ?_
  refine lv_bipush (v := (10 : Int32)) hx hb dX1_init_80 (by decide) ?_
  refine va_iast hx hb hK hP hD hS 2 0 rfl rfl (in_of (by decide) (by decide)) dX1_init_82 (fun H locs hP hD hS => ?_)
  obtain ⟨hP, hD⟩ : gW D A [(h0, .inr (1, [.ref q1, .ref q2, .ref q3, .ref q4, .ref q5, .ref q6, .ref q7])), (q1, .inl (Y 0, 6, .inl (upd (fun _ => 0) (0 : Int32).toNatClampNeg (3 : Int32)))), (q2, .inl (Y 0, 6, .inl (upd (fun _ => 0) (0 : Int32).toNatClampNeg (10 : Int32)))), (q3, .inl (Y 0, 6, .inl (fun _ => 0))), (q4, .inl (Y 0, 6, .inl (fun _ => 0))), (q5, .inl (Y 0, 6, .inl (fun _ => 0))), (q6, .inl (Y 1, 6, .inl (fun _ => 0))), (q7, .inl (Y 0, 6, .inl (fun _ => 0)))] H := ⟨hP, hD⟩
  refine lv_aload_n hx hb dX1_init_83 rfl (lv_at hl 1 rfl) ?_
  refine va_get (ci := 1) (v := .ref q3) (C := RX1) (T := TX1) (N := 7) hx hb hts f5 hown hK hP 0 rfl rfl 2 (by decide) f7 (fun _ h9 => h9) rfl dX1_init_84 ?_
  refine lv_iload_n hx hb dX1_init_87 rfl (lv_at hl 0 rfl) ?_
  refine lv_iconst (v := (-1 : Int32)) hx hb dX1_init_88 (by decide) ?_
  refine va_iast hx hb hK hP hD hS 3 0 rfl rfl (in_of (by decide) (by decide)) dX1_init_89 (fun H locs hP hD hS => ?_)
  obtain ⟨hP, hD⟩ : gW D A [(h0, .inr (1, [.ref q1, .ref q2, .ref q3, .ref q4, .ref q5, .ref q6, .ref q7])), (q1, .inl (Y 0, 6, .inl (upd (fun _ => 0) (0 : Int32).toNatClampNeg (3 : Int32)))), (q2, .inl (Y 0, 6, .inl (upd (fun _ => 0) (0 : Int32).toNatClampNeg (10 : Int32)))), (q3, .inl (Y 0, 6, .inl (upd (fun _ => 0) (0 : Int32).toNatClampNeg (-1 : Int32)))), (q4, .inl (Y 0, 6, .inl (fun _ => 0))), (q5, .inl (Y 0, 6, .inl (fun _ => 0))), (q6, .inl (Y 1, 6, .inl (fun _ => 0))), (q7, .inl (Y 0, 6, .inl (fun _ => 0)))] H := ⟨hP, hD⟩
  refine lv_iinc (v := (1 : Int32)) (lv' := [(1, .int (1 : Int32)), (0, .ref h0)]) hx hb dX1_init_90 hl (k := 0) rfl (by decide) (by decide) rfl (fun ls hl => ?_)
  refine lv_goto (tgt := 62) hx hb dX1_init_93 (by decide) ?_
  refine lv_iload_n hx hb dX1_init_62 rfl (lv_at hl 0 rfl) ?_
  refine lv_bipush (v := (6 : Int32)) hx hb dX1_init_63 (by decide) ?_
  refine lv_icmp_ge (tgt := 96) hx hb dX1_init_65 (by decide) (fun c => ?_) (fun c => ?_)
  · exact absurd c (by decide)
  refine lv_aload_n hx hb dX1_init_68 rfl (lv_at hl 1 rfl) ?_
  refine va_get (ci := 1) (v := .ref q1) (C := RX1) (T := TX1) (N := 7) hx hb hts f5 hown hK hP 0 rfl rfl 0 (by decide) f4 (fun _ h9 => h9) rfl dX1_init_69 ?_
  refine lv_iload_n hx hb dX1_init_72 rfl (lv_at hl 0 rfl) ?_
  refine lv_iconst (v := (3 : Int32)) hx hb dX1_init_73 (by decide) ?_
  refine va_iast hx hb hK hP hD hS 1 0 rfl rfl (in_of (by decide) (by decide)) dX1_init_74 (fun H locs hP hD hS => ?_)
  obtain ⟨hP, hD⟩ : gW D A [(h0, .inr (1, [.ref q1, .ref q2, .ref q3, .ref q4, .ref q5, .ref q6, .ref q7])), (q1, .inl (Y 0, 6, .inl (upd (upd (fun _ => 0) (0 : Int32).toNatClampNeg (3 : Int32)) (1 : Int32).toNatClampNeg (3 : Int32)))), (q2, .inl (Y 0, 6, .inl (upd (fun _ => 0) (0 : Int32).toNatClampNeg (10 : Int32)))), (q3, .inl (Y 0, 6, .inl (upd (fun _ => 0) (0 : Int32).toNatClampNeg (-1 : Int32)))), (q4, .inl (Y 0, 6, .inl (fun _ => 0))), (q5, .inl (Y 0, 6, .inl (fun _ => 0))), (q6, .inl (Y 1, 6, .inl (fun _ => 0))), (q7, .inl (Y 0, 6, .inl (fun _ => 0)))] H := ⟨hP, hD⟩
  refine lv_aload_n hx hb dX1_init_75 rfl (lv_at hl 1 rfl) ?_
  refine va_get (ci := 1) (v := .ref q2) (C := RX1) (T := TX1) (N := 7) hx hb hts f5 hown hK hP 0 rfl rfl 1 (by decide) f6 (fun _ h9 => h9) rfl dX1_init_76 ?_
  refine lv_iload_n hx hb dX1_init_79 rfl (lv_at hl 0 rfl) ?_
  refine lv_bipush (v := (10 : Int32)) hx hb dX1_init_80 (by decide) ?_
  refine va_iast hx hb hK hP hD hS 2 0 rfl rfl (in_of (by decide) (by decide)) dX1_init_82 (fun H locs hP hD hS => ?_)
  obtain ⟨hP, hD⟩ : gW D A [(h0, .inr (1, [.ref q1, .ref q2, .ref q3, .ref q4, .ref q5, .ref q6, .ref q7])), (q1, .inl (Y 0, 6, .inl (upd (upd (fun _ => 0) (0 : Int32).toNatClampNeg (3 : Int32)) (1 : Int32).toNatClampNeg (3 : Int32)))), (q2, .inl (Y 0, 6, .inl (upd (upd (fun _ => 0) (0 : Int32).toNatClampNeg (10 : Int32)) (1 : Int32).toNatClampNeg (10 : Int32)))), (q3, .inl (Y 0, 6, .inl (upd (fun _ => 0) (0 : Int32).toNatClampNeg (-1 : Int32)))), (q4, .inl (Y 0, 6, .inl (fun _ => 0))), (q5, .inl (Y 0, 6, .inl (fun _ => 0))), (q6, .inl (Y 1, 6, .inl (fun _ => 0))), (q7, .inl (Y 0, 6, .inl (fun _ => 0)))] H := ⟨hP, hD⟩
  refine lv_aload_n hx hb dX1_init_83 rfl (lv_at hl 1 rfl) ?_
  refine va_get (ci := 1) (v := .ref q3) (C := RX1) (T := TX1) (N := 7) hx hb hts f5 hown hK hP 0 rfl rfl 2 (by decide) f7 (fun _ h9 => h9) rfl dX1_init_84 ?_
  refine lv_iload_n hx hb dX1_init_87 rfl (lv_at hl 0 rfl) ?_
  refine lv_iconst (v := (-1 : Int32)) hx hb dX1_init_88 (by decide) ?_
  refine va_iast hx hb hK hP hD hS 3 0 rfl rfl (in_of (by decide) (by decide)) dX1_init_89 (fun H locs hP hD hS => ?_)
  obtain ⟨hP, hD⟩ : gW D A [(h0, .inr (1, [.ref q1, .ref q2, .ref q3, .ref q4, .ref q5, .ref q6, .ref q7])), (q1, .inl (Y 0, 6, .inl (upd (upd (fun _ => 0) (0 : Int32).toNatClampNeg (3 : Int32)) (1 : Int32).toNatClampNeg (3 : Int32)))), (q2, .inl (Y 0, 6, .inl (upd (upd (fun _ => 0) (0 : Int32).toNatClampNeg (10 : Int32)) (1 : Int32).toNatClampNeg (10 : Int32)))), (q3, .inl (Y 0, 6, .inl (upd (upd (fun _ => 0) (0 : Int32).toNatClampNeg (-1 : Int32)) (1 : Int32).toNatClampNeg (-1 : Int32)))), (q4, .inl (Y 0, 6, .inl (fun _ => 0))), (q5, .inl (Y 0, 6, .inl (fun _ => 0))), (q6, .inl (Y 1, 6, .inl (fun _ => 0))), (q7, .inl (Y 0, 6, .inl (fun _ => 0)))] H := ⟨hP, hD⟩
  refine lv_iinc (v := (2 : Int32)) (lv' := [(1, .int (2 : Int32)), (0, .ref h0)]) hx hb dX1_init_90 hl (k := 0) rfl (by decide) (by decide) rfl (fun ls hl => ?_)
  refine lv_goto (tgt := 62) hx hb dX1_init_93 (by decide) ?_
  refine lv_iload_n hx hb dX1_init_62 rfl (lv_at hl 0 rfl) ?_
  refine lv_bipush (v := (6 : Int32)) hx hb dX1_init_63 (by decide) ?_
  refine lv_icmp_ge (tgt := 96) hx hb dX1_init_65 (by decide) (fun c => ?_) (fun c => ?_)
  · exact absurd c (by decide)
  refine lv_aload_n hx hb dX1_init_68 rfl (lv_at hl 1 rfl) ?_
  refine va_get (ci := 1) (v := .ref q1) (C := RX1) (T := TX1) (N := 7) hx hb hts f5 hown hK hP 0 rfl rfl 0 (by decide) f4 (fun _ h9 => h9) rfl dX1_init_69 ?_
  refine lv_iload_n hx hb dX1_init_72 rfl (lv_at hl 0 rfl) ?_
  refine lv_iconst (v := (3 : Int32)) hx hb dX1_init_73 (by decide) ?_
  refine va_iast hx hb hK hP hD hS 1 0 rfl rfl (in_of (by decide) (by decide)) dX1_init_74 (fun H locs hP hD hS => ?_)
  obtain ⟨hP, hD⟩ : gW D A [(h0, .inr (1, [.ref q1, .ref q2, .ref q3, .ref q4, .ref q5, .ref q6, .ref q7])), (q1, .inl (Y 0, 6, .inl (upd (upd (upd (fun _ => 0) (0 : Int32).toNatClampNeg (3 : Int32)) (1 : Int32).toNatClampNeg (3 : Int32)) (2 : Int32).toNatClampNeg (3 : Int32)))), (q2, .inl (Y 0, 6, .inl (upd (upd (fun _ => 0) (0 : Int32).toNatClampNeg (10 : Int32)) (1 : Int32).toNatClampNeg (10 : Int32)))), (q3, .inl (Y 0, 6, .inl (upd (upd (fun _ => 0) (0 : Int32).toNatClampNeg (-1 : Int32)) (1 : Int32).toNatClampNeg (-1 : Int32)))), (q4, .inl (Y 0, 6, .inl (fun _ => 0))), (q5, .inl (Y 0, 6, .inl (fun _ => 0))), (q6, .inl (Y 1, 6, .inl (fun _ => 0))), (q7, .inl (Y 0, 6, .inl (fun _ => 0)))] H := ⟨hP, hD⟩
  refine lv_aload_n hx hb dX1_init_75 rfl (lv_at hl 1 rfl) ?_
  refine va_get (ci := 1) (v := .ref q2) (C := RX1) (T := TX1) (N := 7) hx hb hts f5 hown hK hP 0 rfl rfl 1 (by decide) f6 (fun _ h9 => h9) rfl dX1_init_76 ?_
  refine lv_iload_n hx hb dX1_init_79 rfl (lv_at hl 0 rfl) ?_
  refine lv_bipush (v := (10 : Int32)) hx hb dX1_init_80 (by decide) ?_
  refine va_iast hx hb hK hP hD hS 2 0 rfl rfl (in_of (by decide) (by decide)) dX1_init_82 (fun H locs hP hD hS => ?_)
  obtain ⟨hP, hD⟩ : gW D A [(h0, .inr (1, [.ref q1, .ref q2, .ref q3, .ref q4, .ref q5, .ref q6, .ref q7])), (q1, .inl (Y 0, 6, .inl (upd (upd (upd (fun _ => 0) (0 : Int32).toNatClampNeg (3 : Int32)) (1 : Int32).toNatClampNeg (3 : Int32)) (2 : Int32).toNatClampNeg (3 : Int32)))), (q2, .inl (Y 0, 6, .inl (upd (upd (upd (fun _ => 0) (0 : Int32).toNatClampNeg (10 : Int32)) (1 : Int32).toNatClampNeg (10 : Int32)) (2 : Int32).toNatClampNeg (10 : Int32)))), (q3, .inl (Y 0, 6, .inl (upd (upd (fun _ => 0) (0 : Int32).toNatClampNeg (-1 : Int32)) (1 : Int32).toNatClampNeg (-1 : Int32)))), (q4, .inl (Y 0, 6, .inl (fun _ => 0))), (q5, .inl (Y 0, 6, .inl (fun _ => 0))), (q6, .inl (Y 1, 6, .inl (fun _ => 0))), (q7, .inl (Y 0, 6, .inl (fun _ => 0)))] H := ⟨hP, hD⟩
  refine lv_aload_n hx hb dX1_init_83 rfl (lv_at hl 1 rfl) ?_
  refine va_get (ci := 1) (v := .ref q3) (C := RX1) (T := TX1) (N := 7) hx hb hts f5 hown hK hP 0 rfl rfl 2 (by decide) f7 (fun _ h9 => h9) rfl dX1_init_84 ?_
  refine lv_iload_n hx hb dX1_init_87 rfl (lv_at hl 0 rfl) ?_
  refine lv_iconst (v := (-1 : Int32)) hx hb dX1_init_88 (by decide) ?_
  refine va_iast hx hb hK hP hD hS 3 0 rfl rfl (in_of (by decide) (by decide)) dX1_init_89 (fun H locs hP hD hS => ?_)
  obtain ⟨hP, hD⟩ : gW D A [(h0, .inr (1, [.ref q1, .ref q2, .ref q3, .ref q4, .ref q5, .ref q6, .ref q7])), (q1, .inl (Y 0, 6, .inl (upd (upd (upd (fun _ => 0) (0 : Int32).toNatClampNeg (3 : Int32)) (1 : Int32).toNatClampNeg (3 : Int32)) (2 : Int32).toNatClampNeg (3 : Int32)))), (q2, .inl (Y 0, 6, .inl (upd (upd (upd (fun _ => 0) (0 : Int32).toNatClampNeg (10 : Int32)) (1 : Int32).toNatClampNeg (10 : Int32)) (2 : Int32).toNatClampNeg (10 : Int32)))), (q3, .inl (Y 0, 6, .inl (upd (upd (upd (fun _ => 0) (0 : Int32).toNatClampNeg (-1 : Int32)) (1 : Int32).toNatClampNeg (-1 : Int32)) (2 : Int32).toNatClampNeg (-1 : Int32)))), (q4, .inl (Y 0, 6, .inl (fun _ => 0))), (q5, .inl (Y 0, 6, .inl (fun _ => 0))), (q6, .inl (Y 1, 6, .inl (fun _ => 0))), (q7, .inl (Y 0, 6, .inl (fun _ => 0)))] H := ⟨hP, hD⟩
  refine lv_iinc (v := (3 : Int32)) (lv' := [(1, .int (3 : Int32)), (0, .ref h0)]) hx hb dX1_init_90 hl (k := 0) rfl (by decide) (by decide) rfl (fun ls hl => ?_)
  refine lv_goto (tgt := 62) hx hb dX1_init_93 (by decide) ?_
  refine lv_iload_n hx hb dX1_init_62 rfl (lv_at hl 0 rfl) ?_
  refine lv_bipush (v := (6 : Int32)) hx hb dX1_init_63 (by decide) ?_
  refine lv_icmp_ge (tgt := 96) hx hb dX1_init_65 (by decide) (fun c => ?_) (fun c => ?_)
  · exact absurd c (by decide)
  refine lv_aload_n hx hb dX1_init_68 rfl (lv_at hl 1 rfl) ?_
  refine va_get (ci := 1) (v := .ref q1) (C := RX1) (T := TX1) (N := 7) hx hb hts f5 hown hK hP 0 rfl rfl 0 (by decide) f4 (fun _ h9 => h9) rfl dX1_init_69 ?_
  refine lv_iload_n hx hb dX1_init_72 rfl (lv_at hl 0 rfl) ?_
  refine lv_iconst (v := (3 : Int32)) hx hb dX1_init_73 (by decide) ?_
  refine va_iast hx hb hK hP hD hS 1 0 rfl rfl (in_of (by decide) (by decide)) dX1_init_74 (fun H locs hP hD hS => ?_)
  obtain ⟨hP, hD⟩ : gW D A [(h0, .inr (1, [.ref q1, .ref q2, .ref q3, .ref q4, .ref q5, .ref q6, .ref q7])), (q1, .inl (Y 0, 6, .inl (iv4 (3)))), (q2, .inl (Y 0, 6, .inl (upd (upd (upd (fun _ => 0) (0 : Int32).toNatClampNeg (10 : Int32)) (1 : Int32).toNatClampNeg (10 : Int32)) (2 : Int32).toNatClampNeg (10 : Int32)))), (q3, .inl (Y 0, 6, .inl (upd (upd (upd (fun _ => 0) (0 : Int32).toNatClampNeg (-1 : Int32)) (1 : Int32).toNatClampNeg (-1 : Int32)) (2 : Int32).toNatClampNeg (-1 : Int32)))), (q4, .inl (Y 0, 6, .inl (fun _ => 0))), (q5, .inl (Y 0, 6, .inl (fun _ => 0))), (q6, .inl (Y 1, 6, .inl (fun _ => 0))), (q7, .inl (Y 0, 6, .inl (fun _ => 0)))] H := ⟨hP, hD⟩
  refine lv_aload_n hx hb dX1_init_75 rfl (lv_at hl 1 rfl) ?_
  refine va_get (ci := 1) (v := .ref q2) (C := RX1) (T := TX1) (N := 7) hx hb hts f5 hown hK hP 0 rfl rfl 1 (by decide) f6 (fun _ h9 => h9) rfl dX1_init_76 ?_
  refine lv_iload_n hx hb dX1_init_79 rfl (lv_at hl 0 rfl) ?_
  refine lv_bipush (v := (10 : Int32)) hx hb dX1_init_80 (by decide) ?_
  refine va_iast hx hb hK hP hD hS 2 0 rfl rfl (in_of (by decide) (by decide)) dX1_init_82 (fun H locs hP hD hS => ?_)
  obtain ⟨hP, hD⟩ : gW D A [(h0, .inr (1, [.ref q1, .ref q2, .ref q3, .ref q4, .ref q5, .ref q6, .ref q7])), (q1, .inl (Y 0, 6, .inl (iv4 (3)))), (q2, .inl (Y 0, 6, .inl (iv4 (10)))), (q3, .inl (Y 0, 6, .inl (upd (upd (upd (fun _ => 0) (0 : Int32).toNatClampNeg (-1 : Int32)) (1 : Int32).toNatClampNeg (-1 : Int32)) (2 : Int32).toNatClampNeg (-1 : Int32)))), (q4, .inl (Y 0, 6, .inl (fun _ => 0))), (q5, .inl (Y 0, 6, .inl (fun _ => 0))), (q6, .inl (Y 1, 6, .inl (fun _ => 0))), (q7, .inl (Y 0, 6, .inl (fun _ => 0)))] H := ⟨hP, hD⟩
  refine lv_aload_n hx hb dX1_init_83 rfl (lv_at hl 1 rfl) ?_
  refine va_get (ci := 1) (v := .ref q3) (C := RX1) (T := TX1) (N := 7) hx hb hts f5 hown hK hP 0 rfl rfl 2 (by decide) f7 (fun _ h9 => h9) rfl dX1_init_84 ?_
  refine lv_iload_n hx hb dX1_init_87 rfl (lv_at hl 0 rfl) ?_
  refine lv_iconst (v := (-1 : Int32)) hx hb dX1_init_88 (by decide) ?_
  refine va_iast hx hb hK hP hD hS 3 0 rfl rfl (in_of (by decide) (by decide)) dX1_init_89 (fun H locs hP hD hS => ?_)
  obtain ⟨hP, hD⟩ : gW D A [(h0, .inr (1, [.ref q1, .ref q2, .ref q3, .ref q4, .ref q5, .ref q6, .ref q7])), (q1, .inl (Y 0, 6, .inl (iv4 (3)))), (q2, .inl (Y 0, 6, .inl (iv4 (10)))), (q3, .inl (Y 0, 6, .inl (iv4 (-1)))), (q4, .inl (Y 0, 6, .inl (fun _ => 0))), (q5, .inl (Y 0, 6, .inl (fun _ => 0))), (q6, .inl (Y 1, 6, .inl (fun _ => 0))), (q7, .inl (Y 0, 6, .inl (fun _ => 0)))] H := ⟨hP, hD⟩
  refine lv_iinc (v := (4 : Int32)) (lv' := [(1, .int (4 : Int32)), (0, .ref h0)]) hx hb dX1_init_90 hl (k := 0) rfl (by decide) (by decide) rfl (fun ls hl => ?_)
  refine lv_goto (tgt := 62) hx hb dX1_init_93 (by decide) ?_
  refine lv_iload_n hx hb dX1_init_62 rfl (lv_at hl 0 rfl) ?_
  refine lv_bipush (v := (6 : Int32)) hx hb dX1_init_63 (by decide) ?_
  refine lv_icmp_ge (tgt := 96) hx hb dX1_init_65 (by decide) (fun c => ?_) (fun c => ?_)
  · exact absurd c (by decide)
  refine lv_aload_n hx hb dX1_init_68 rfl (lv_at hl 1 rfl) ?_
  refine va_get (ci := 1) (v := .ref q1) (C := RX1) (T := TX1) (N := 7) hx hb hts f5 hown hK hP 0 rfl rfl 0 (by decide) f4 (fun _ h9 => h9) rfl dX1_init_69 ?_
  refine lv_iload_n hx hb dX1_init_72 rfl (lv_at hl 0 rfl) ?_
  refine lv_iconst (v := (3 : Int32)) hx hb dX1_init_73 (by decide) ?_
  refine va_iast hx hb hK hP hD hS 1 0 rfl rfl (in_of (by decide) (by decide)) dX1_init_74 (fun H locs hP hD hS => ?_)
  obtain ⟨hP, hD⟩ : gW D A [(h0, .inr (1, [.ref q1, .ref q2, .ref q3, .ref q4, .ref q5, .ref q6, .ref q7])), (q1, .inl (Y 0, 6, .inl (upd (iv4 (3)) (4 : Int32).toNatClampNeg (3 : Int32)))), (q2, .inl (Y 0, 6, .inl (iv4 (10)))), (q3, .inl (Y 0, 6, .inl (iv4 (-1)))), (q4, .inl (Y 0, 6, .inl (fun _ => 0))), (q5, .inl (Y 0, 6, .inl (fun _ => 0))), (q6, .inl (Y 1, 6, .inl (fun _ => 0))), (q7, .inl (Y 0, 6, .inl (fun _ => 0)))] H := ⟨hP, hD⟩
  refine lv_aload_n hx hb dX1_init_75 rfl (lv_at hl 1 rfl) ?_
  refine va_get (ci := 1) (v := .ref q2) (C := RX1) (T := TX1) (N := 7) hx hb hts f5 hown hK hP 0 rfl rfl 1 (by decide) f6 (fun _ h9 => h9) rfl dX1_init_76 ?_
  refine lv_iload_n hx hb dX1_init_79 rfl (lv_at hl 0 rfl) ?_
  refine lv_bipush (v := (10 : Int32)) hx hb dX1_init_80 (by decide) ?_
  refine va_iast hx hb hK hP hD hS 2 0 rfl rfl (in_of (by decide) (by decide)) dX1_init_82 (fun H locs hP hD hS => ?_)
  obtain ⟨hP, hD⟩ : gW D A [(h0, .inr (1, [.ref q1, .ref q2, .ref q3, .ref q4, .ref q5, .ref q6, .ref q7])), (q1, .inl (Y 0, 6, .inl (upd (iv4 (3)) (4 : Int32).toNatClampNeg (3 : Int32)))), (q2, .inl (Y 0, 6, .inl (upd (iv4 (10)) (4 : Int32).toNatClampNeg (10 : Int32)))), (q3, .inl (Y 0, 6, .inl (iv4 (-1)))), (q4, .inl (Y 0, 6, .inl (fun _ => 0))), (q5, .inl (Y 0, 6, .inl (fun _ => 0))), (q6, .inl (Y 1, 6, .inl (fun _ => 0))), (q7, .inl (Y 0, 6, .inl (fun _ => 0)))] H := ⟨hP, hD⟩
  refine lv_aload_n hx hb dX1_init_83 rfl (lv_at hl 1 rfl) ?_
  refine va_get (ci := 1) (v := .ref q3) (C := RX1) (T := TX1) (N := 7) hx hb hts f5 hown hK hP 0 rfl rfl 2 (by decide) f7 (fun _ h9 => h9) rfl dX1_init_84 ?_
  refine lv_iload_n hx hb dX1_init_87 rfl (lv_at hl 0 rfl) ?_
  refine lv_iconst (v := (-1 : Int32)) hx hb dX1_init_88 (by decide) ?_
  refine va_iast hx hb hK hP hD hS 3 0 rfl rfl (in_of (by decide) (by decide)) dX1_init_89 (fun H locs hP hD hS => ?_)
  obtain ⟨hP, hD⟩ : gW D A [(h0, .inr (1, [.ref q1, .ref q2, .ref q3, .ref q4, .ref q5, .ref q6, .ref q7])), (q1, .inl (Y 0, 6, .inl (upd (iv4 (3)) (4 : Int32).toNatClampNeg (3 : Int32)))), (q2, .inl (Y 0, 6, .inl (upd (iv4 (10)) (4 : Int32).toNatClampNeg (10 : Int32)))), (q3, .inl (Y 0, 6, .inl (upd (iv4 (-1)) (4 : Int32).toNatClampNeg (-1 : Int32)))), (q4, .inl (Y 0, 6, .inl (fun _ => 0))), (q5, .inl (Y 0, 6, .inl (fun _ => 0))), (q6, .inl (Y 1, 6, .inl (fun _ => 0))), (q7, .inl (Y 0, 6, .inl (fun _ => 0)))] H := ⟨hP, hD⟩
  refine lv_iinc (v := (5 : Int32)) (lv' := [(1, .int (5 : Int32)), (0, .ref h0)]) hx hb dX1_init_90 hl (k := 0) rfl (by decide) (by decide) rfl (fun ls hl => ?_)
  refine lv_goto (tgt := 62) hx hb dX1_init_93 (by decide) ?_
  refine lv_iload_n hx hb dX1_init_62 rfl (lv_at hl 0 rfl) ?_
  refine lv_bipush (v := (6 : Int32)) hx hb dX1_init_63 (by decide) ?_
  refine lv_icmp_ge (tgt := 96) hx hb dX1_init_65 (by decide) (fun c => ?_) (fun c => ?_)
  · exact absurd c (by decide)
  refine lv_aload_n hx hb dX1_init_68 rfl (lv_at hl 1 rfl) ?_
  refine va_get (ci := 1) (v := .ref q1) (C := RX1) (T := TX1) (N := 7) hx hb hts f5 hown hK hP 0 rfl rfl 0 (by decide) f4 (fun _ h9 => h9) rfl dX1_init_69 ?_
  refine lv_iload_n hx hb dX1_init_72 rfl (lv_at hl 0 rfl) ?_
  refine lv_iconst (v := (3 : Int32)) hx hb dX1_init_73 (by decide) ?_
  refine va_iast hx hb hK hP hD hS 1 0 rfl rfl (in_of (by decide) (by decide)) dX1_init_74 (fun H locs hP hD hS => ?_)
  obtain ⟨hP, hD⟩ : gW D A [(h0, .inr (1, [.ref q1, .ref q2, .ref q3, .ref q4, .ref q5, .ref q6, .ref q7])), (q1, .inl (Y 0, 6, .inl (iv6 (3)))), (q2, .inl (Y 0, 6, .inl (upd (iv4 (10)) (4 : Int32).toNatClampNeg (10 : Int32)))), (q3, .inl (Y 0, 6, .inl (upd (iv4 (-1)) (4 : Int32).toNatClampNeg (-1 : Int32)))), (q4, .inl (Y 0, 6, .inl (fun _ => 0))), (q5, .inl (Y 0, 6, .inl (fun _ => 0))), (q6, .inl (Y 1, 6, .inl (fun _ => 0))), (q7, .inl (Y 0, 6, .inl (fun _ => 0)))] H := ⟨hP, hD⟩
  refine lv_aload_n hx hb dX1_init_75 rfl (lv_at hl 1 rfl) ?_
  refine va_get (ci := 1) (v := .ref q2) (C := RX1) (T := TX1) (N := 7) hx hb hts f5 hown hK hP 0 rfl rfl 1 (by decide) f6 (fun _ h9 => h9) rfl dX1_init_76 ?_
  refine lv_iload_n hx hb dX1_init_79 rfl (lv_at hl 0 rfl) ?_
  refine lv_bipush (v := (10 : Int32)) hx hb dX1_init_80 (by decide) ?_
  refine va_iast hx hb hK hP hD hS 2 0 rfl rfl (in_of (by decide) (by decide)) dX1_init_82 (fun H locs hP hD hS => ?_)
  obtain ⟨hP, hD⟩ : gW D A [(h0, .inr (1, [.ref q1, .ref q2, .ref q3, .ref q4, .ref q5, .ref q6, .ref q7])), (q1, .inl (Y 0, 6, .inl (iv6 (3)))), (q2, .inl (Y 0, 6, .inl (iv6 (10)))), (q3, .inl (Y 0, 6, .inl (upd (iv4 (-1)) (4 : Int32).toNatClampNeg (-1 : Int32)))), (q4, .inl (Y 0, 6, .inl (fun _ => 0))), (q5, .inl (Y 0, 6, .inl (fun _ => 0))), (q6, .inl (Y 1, 6, .inl (fun _ => 0))), (q7, .inl (Y 0, 6, .inl (fun _ => 0)))] H := ⟨hP, hD⟩
  refine lv_aload_n hx hb dX1_init_83 rfl (lv_at hl 1 rfl) ?_
  refine va_get (ci := 1) (v := .ref q3) (C := RX1) (T := TX1) (N := 7) hx hb hts f5 hown hK hP 0 rfl rfl 2 (by decide) f7 (fun _ h9 => h9) rfl dX1_init_84 ?_
  refine lv_iload_n hx hb dX1_init_87 rfl (lv_at hl 0 rfl) ?_
  refine lv_iconst (v := (-1 : Int32)) hx hb dX1_init_88 (by decide) ?_
  refine va_iast hx hb hK hP hD hS 3 0 rfl rfl (in_of (by decide) (by decide)) dX1_init_89 (fun H locs hP hD hS => ?_)
  obtain ⟨hP, hD⟩ : gW D A [(h0, .inr (1, [.ref q1, .ref q2, .ref q3, .ref q4, .ref q5, .ref q6, .ref q7])), (q1, .inl (Y 0, 6, .inl (iv6 (3)))), (q2, .inl (Y 0, 6, .inl (iv6 (10)))), (q3, .inl (Y 0, 6, .inl (iv6 (-1)))), (q4, .inl (Y 0, 6, .inl (fun _ => 0))), (q5, .inl (Y 0, 6, .inl (fun _ => 0))), (q6, .inl (Y 1, 6, .inl (fun _ => 0))), (q7, .inl (Y 0, 6, .inl (fun _ => 0)))] H := ⟨hP, hD⟩
  refine lv_iinc (v := (6 : Int32)) (lv' := [(1, .int (6 : Int32)), (0, .ref h0)]) hx hb dX1_init_90 hl (k := 0) rfl (by decide) (by decide) rfl (fun ls hl => ?_)
  refine lv_goto (tgt := 62) hx hb dX1_init_93 (by decide) ?_
  refine lv_iload_n hx hb dX1_init_62 rfl (lv_at hl 0 rfl) ?_
  refine lv_bipush (v := (6 : Int32)) hx hb dX1_init_63 (by decide) ?_
  refine lv_icmp_ge (tgt := 96) hx hb dX1_init_65 (by decide) (fun c => ?_) (fun c => ?_)
  rotate_left
  · exact absurd (by decide) c
  exact W.vret hx hb hr (fun t ht hW => ⟨⟨(), rfl, trivial, q1, q2, q3, q4, q5, q6, q7, by rw [ht]; exact hP, hD⟩, hS.F ht⟩) hS.2.2 dX1_init_96

abbrev rmX0_init : Room := { frames := 1, cells := 16, slots := 112, locals := 24 }
set_option maxHeartbeats 8000000 in
set_option maxRecDepth 100000 in
theorem kX0_init (l : Launch) (D : va_G) (Y : Nat → ClassId) (h0 sz : Nat) : Met l yX0_init wsX0_init rmX0_init (gP0 [.ref h0] sz D Y [(h0, .inr (0, [.int 0, .null, .null, .null, .null, .null, .null, .null, .null]))]) (va_Qv (fun _ : Unit => True) (fun _ t => ∃ q1 q2 q3 q4 q5 q6 q7 q8 : Nat, gB D (va_A [(h0, .inr (0, [.int 0, .null, .null, .null, .null, .null, .null, .null, .null]))] sz) [(h0, .inr (0, [.int (0 : Int32), .ref q1, .ref q2, .ref q3, .ref q4, .ref q5, .ref q6, .ref q7, .ref q8])), (q1, .inl (Y 0, 8, .inl (fun _ => 0))), (q2, .inl (Y 0, 8, .inl (fun _ => 0))), (q3, .inl (Y 0, 8, .inl (fun _ => 0))), (q4, .inl (Y 0, 8, .inl (fun _ => 0))), (q5, .inl (Y 0, 8, .inl (fun _ => 0))), (q6, .inl (Y 0, 8, .inl (fun _ => 0))), (q7, .inl (Y 0, 8, .inl (fun _ => 0))), (q8, .inl (Y 3, 8, .inr (.inr (.inr (.inr (fun j => if j < 8 then some (q8 + 1 + j) else none)))))), ((q8 + 1 + 0), .inl (Y 0, 6, .inl (fun _ => 0))), ((q8 + 1 + 1), .inl (Y 0, 6, .inl (fun _ => 0))), ((q8 + 1 + 2), .inl (Y 0, 6, .inl (fun _ => 0))), ((q8 + 1 + 3), .inl (Y 0, 6, .inl (fun _ => 0))), ((q8 + 1 + 4), .inl (Y 0, 6, .inl (fun _ => 0))), ((q8 + 1 + 5), .inl (Y 0, 6, .inl (fun _ => 0))), ((q8 + 1 + 6), .inl (Y 0, 6, .inl (fun _ => 0))), ((q8 + 1 + 7), .inl (Y 0, 6, .inl (fun _ => 0)))] t) (va_A [(h0, .inr (0, [.int 0, .null, .null, .null, .null, .null, .null, .null, .null]))] sz)) 16 112 (va_A [(h0, .inr (0, [.int 0, .null, .null, .null, .null, .null, .null, .null, .null]))] sz) := by
  refine Met.ofW (cc := cX0_init) (maxL := 1) (ret := none) (by decide +kernel) rfl ?_
  intro p e s m args below meth c s₁ B hml hv
  obtain ⟨rfl, hsz, hP, hK, hAO, hD0⟩ := hv
  have hx := B.exec
  have hb := B.bytes
  have hr := B.returns
  have hts := atoms_spec (ws := wsX0_init) B.pre
  have hown : s.vm.findClass RX0 = some m.cls := findClass_of_methodNamed B.named
  have hlocks := B.notSynchronized
  have hin : meth.name = "<init>" := (name_of_methodNamed B.named B.method).1
  subst hsz
  have hD := hD0.self (sz := s.heap.size)
  have hA : ∀ q : Nat, s.heap.size ≤ q → va_A [(h0, .inr (0, [.int 0, .null, .null, .null, .null, .null, .null, .null, .null]))] s.heap.size q := fun q h => Or.inr h
  generalize va_A [(h0, .inr (0, [.int 0, .null, .null, .null, .null, .null, .null, .null, .null]))] s.heap.size = A at hD hA ⊢
  have hS : va_S A s.heap s.heap [] := va_S.rf
  have hP : va_P D vwCl [(h0, .inr (0, [.int 0, .null, .null, .null, .null, .null, .null, .null, .null]))] s.heap := hP
  have hl := lv_entry ([.ref h0]) (n := 1) (Nat.le_of_ble_eq_true rfl)
  rw [lg_entry_eq]
  generalize (lg_sl ([.ref h0]) ++ List.replicate (1 - (lg_sl ([.ref h0])).length) Slot.unset).toArray = ls at hl ⊢
  have hl : lv_has ls 1 [(0, .ref h0)] := hl
  have f0 := hts (.methodLink RX0 3 objectInit) (by decide +kernel)
  have f1 := hts (.instanceMethod objectInit) (by decide +kernel)
  have f2 := hts (.code objectInit ⟨#[0xb1]⟩ 1 none) (by decide +kernel)
  have f3 := hts (.fieldLink RX0 9 "CoastWatch$Boats" "size" "I") (by decide +kernel)
  have f4 : ∀ w ∈ u_ws RX0 TX0 9, w ∈ wsX0_init := by decide +kernel
  have f5 := hts (.arrayClass .int) (by decide +kernel)
  have f6 := hts (.fieldLink RX0 15 "CoastWatch$Boats" "draught" "[I") (by decide +kernel)
  have f7 := hts (.fieldLink RX0 19 "CoastWatch$Boats" "hold" "[I") (by decide +kernel)
  have f8 := hts (.fieldLink RX0 22 "CoastWatch$Boats" "strength" "[I") (by decide +kernel)
  have f9 := hts (.fieldLink RX0 25 "CoastWatch$Boats" "bold" "[I") (by decide +kernel)
  have f10 := hts (.fieldLink RX0 28 "CoastWatch$Boats" "casks" "[I") (by decide +kernel)
  have f11 := hts (.fieldLink RX0 31 "CoastWatch$Boats" "escapes" "[I") (by decide +kernel)
  have f12 := hts (.fieldLink RX0 34 "CoastWatch$Boats" "returns" "[I") (by decide +kernel)
  have f13 := hts (.classLink RX0 37 "[[I") (by decide +kernel)
  have f14 := hts (.fieldLink RX0 39 "CoastWatch$Boats" "fear" "[[I") (by decide +kernel)
  refine lv_aload_n hx hb dX0_init_0 rfl (lv_at hl 0 rfl) ?_
  refine W.objInit hx hb hown f0 f1 f2 rfl (by rw [hml]; exact hl.1) rfl dX0_init_1 (Nat.le_of_ble_eq_true rfl) (Nat.le_of_ble_eq_true rfl) ?_
  refine W.eq (g2 := F0 m 4 ls []) rfl ?_
  refine lv_aload_n hx hb dX0_init_4 rfl (lv_at hl 0 rfl) ?_
  refine lv_iconst (v := (0 : Int32)) hx hb dX0_init_5 (by decide) ?_
  refine va_put (ci := 0) (v := .int (0 : Int32)) (ty := .int) (C := RX0) (T := TX0) (N := 9) hx hb hts f4 tyX0 tyX0_ok nmX0 hown hK hP hD hS 0 rfl rfl 0 (by decide) f3 (fun _ h9 => h9) rfl (by decide +kernel) rfl rfl (Nat.le_of_ble_eq_true rfl) dX0_init_6 (fun H locs hP hD hS => ?_)
  obtain ⟨hP, hD⟩ : gW D A [(h0, .inr (0, [.int (0 : Int32), .null, .null, .null, .null, .null, .null, .null, .null]))] H := ⟨hP, hD⟩
  refine lv_aload_n hx hb dX0_init_9 rfl (lv_at hl 0 rfl) ?_
  refine lv_bipush (v := (8 : Int32)) hx hb dX0_init_10 (by decide) ?_
  refine gNewa (atype := .int) (N' := 8) (a0 := (8, .inl (fun _ => 0))) 0 hx hb f5 rfl rfl hK hP hD hS hA (fun _ => gA0I _ _) (by decide) (by decide) (Nat.le_of_ble_eq_true rfl) (Nat.le_of_ble_eq_true rfl) (Nat.le_of_ble_eq_true rfl) dX0_init_12 (fun q1 H hP hD hS => ?_)
  obtain ⟨hP, hD⟩ : gW D A [(h0, .inr (0, [.int (0 : Int32), .null, .null, .null, .null, .null, .null, .null, .null])), (q1, .inl (Y 0, 8, .inl (fun _ => 0)))] H := ⟨hP, hD⟩
  refine W.widen (k := 1) (n := 8) (Nat.le_of_ble_eq_true rfl) (Nat.le_of_ble_eq_true rfl) ?_
  refine va_putF (ci := 0) (v := .ref q1) (ty := .array .int) (C := RX0) (T := TX0) (N := 9) hx hb hts f4 tyX0 tyX0_ok nmX0 hown hK hP hD hS 0 rfl rfl 1 (by decide) f6 (fun _ h9 => h9) rfl hin rfl (by decide +kernel) rfl rfl (Nat.le_of_ble_eq_true rfl) dX0_init_14 (fun H locs hP hD hS => ?_)
  obtain ⟨hP, hD⟩ : gW D A [(h0, .inr (0, [.int (0 : Int32), .ref q1, .null, .null, .null, .null, .null, .null, .null])), (q1, .inl (Y 0, 8, .inl (fun _ => 0)))] H := ⟨hP, hD⟩
  refine lv_aload_n hx hb dX0_init_17 rfl (lv_at hl 0 rfl) ?_
  refine lv_bipush (v := (8 : Int32)) hx hb dX0_init_18 (by decide) ?_
  refine gNewa (atype := .int) (N' := 8) (a0 := (8, .inl (fun _ => 0))) 0 hx hb f5 rfl rfl hK hP hD hS hA (fun _ => gA0I _ _) (by decide) (by decide) (Nat.le_of_ble_eq_true rfl) (Nat.le_of_ble_eq_true rfl) (Nat.le_of_ble_eq_true rfl) dX0_init_20 (fun q2 H hP hD hS => ?_)
  obtain ⟨hP, hD⟩ : gW D A [(h0, .inr (0, [.int (0 : Int32), .ref q1, .null, .null, .null, .null, .null, .null, .null])), (q1, .inl (Y 0, 8, .inl (fun _ => 0))), (q2, .inl (Y 0, 8, .inl (fun _ => 0)))] H := ⟨hP, hD⟩
  refine W.widen (k := 2) (n := 16) (Nat.le_of_ble_eq_true rfl) (Nat.le_of_ble_eq_true rfl) ?_
  refine va_putF (ci := 0) (v := .ref q2) (ty := .array .int) (C := RX0) (T := TX0) (N := 9) hx hb hts f4 tyX0 tyX0_ok nmX0 hown hK hP hD hS 0 rfl rfl 2 (by decide) f7 (fun _ h9 => h9) rfl hin rfl (by decide +kernel) rfl rfl (Nat.le_of_ble_eq_true rfl) dX0_init_22 (fun H locs hP hD hS => ?_)
  obtain ⟨hP, hD⟩ : gW D A [(h0, .inr (0, [.int (0 : Int32), .ref q1, .ref q2, .null, .null, .null, .null, .null, .null])), (q1, .inl (Y 0, 8, .inl (fun _ => 0))), (q2, .inl (Y 0, 8, .inl (fun _ => 0)))] H := ⟨hP, hD⟩
  refine lv_aload_n hx hb dX0_init_25 rfl (lv_at hl 0 rfl) ?_
  refine lv_bipush (v := (8 : Int32)) hx hb dX0_init_26 (by decide) ?_
  refine gNewa (atype := .int) (N' := 8) (a0 := (8, .inl (fun _ => 0))) 0 hx hb f5 rfl rfl hK hP hD hS hA (fun _ => gA0I _ _) (by decide) (by decide) (Nat.le_of_ble_eq_true rfl) (Nat.le_of_ble_eq_true rfl) (Nat.le_of_ble_eq_true rfl) dX0_init_28 (fun q3 H hP hD hS => ?_)
  obtain ⟨hP, hD⟩ : gW D A [(h0, .inr (0, [.int (0 : Int32), .ref q1, .ref q2, .null, .null, .null, .null, .null, .null])), (q1, .inl (Y 0, 8, .inl (fun _ => 0))), (q2, .inl (Y 0, 8, .inl (fun _ => 0))), (q3, .inl (Y 0, 8, .inl (fun _ => 0)))] H := ⟨hP, hD⟩
  refine W.widen (k := 3) (n := 24) (Nat.le_of_ble_eq_true rfl) (Nat.le_of_ble_eq_true rfl) ?_
  refine va_putF (ci := 0) (v := .ref q3) (ty := .array .int) (C := RX0) (T := TX0) (N := 9) hx hb hts f4 tyX0 tyX0_ok nmX0 hown hK hP hD hS 0 rfl rfl 3 (by decide) f8 (fun _ h9 => h9) rfl hin rfl (by decide +kernel) rfl rfl (Nat.le_of_ble_eq_true rfl) dX0_init_30 (fun H locs hP hD hS => ?_)
  obtain ⟨hP, hD⟩ : gW D A [(h0, .inr (0, [.int (0 : Int32), .ref q1, .ref q2, .ref q3, .null, .null, .null, .null, .null])), (q1, .inl (Y 0, 8, .inl (fun _ => 0))), (q2, .inl (Y 0, 8, .inl (fun _ => 0))), (q3, .inl (Y 0, 8, .inl (fun _ => 0)))] H := ⟨hP, hD⟩
  refine lv_aload_n hx hb dX0_init_33 rfl (lv_at hl 0 rfl) ?_
  refine lv_bipush (v := (8 : Int32)) hx hb dX0_init_34 (by decide) ?_
  refine gNewa (atype := .int) (N' := 8) (a0 := (8, .inl (fun _ => 0))) 0 hx hb f5 rfl rfl hK hP hD hS hA (fun _ => gA0I _ _) (by decide) (by decide) (Nat.le_of_ble_eq_true rfl) (Nat.le_of_ble_eq_true rfl) (Nat.le_of_ble_eq_true rfl) dX0_init_36 (fun q4 H hP hD hS => ?_)
  obtain ⟨hP, hD⟩ : gW D A [(h0, .inr (0, [.int (0 : Int32), .ref q1, .ref q2, .ref q3, .null, .null, .null, .null, .null])), (q1, .inl (Y 0, 8, .inl (fun _ => 0))), (q2, .inl (Y 0, 8, .inl (fun _ => 0))), (q3, .inl (Y 0, 8, .inl (fun _ => 0))), (q4, .inl (Y 0, 8, .inl (fun _ => 0)))] H := ⟨hP, hD⟩
  refine W.widen (k := 4) (n := 32) (Nat.le_of_ble_eq_true rfl) (Nat.le_of_ble_eq_true rfl) ?_
  refine va_putF (ci := 0) (v := .ref q4) (ty := .array .int) (C := RX0) (T := TX0) (N := 9) hx hb hts f4 tyX0 tyX0_ok nmX0 hown hK hP hD hS 0 rfl rfl 4 (by decide) f9 (fun _ h9 => h9) rfl hin rfl (by decide +kernel) rfl rfl (Nat.le_of_ble_eq_true rfl) dX0_init_38 (fun H locs hP hD hS => ?_)
  obtain ⟨hP, hD⟩ : gW D A [(h0, .inr (0, [.int (0 : Int32), .ref q1, .ref q2, .ref q3, .ref q4, .null, .null, .null, .null])), (q1, .inl (Y 0, 8, .inl (fun _ => 0))), (q2, .inl (Y 0, 8, .inl (fun _ => 0))), (q3, .inl (Y 0, 8, .inl (fun _ => 0))), (q4, .inl (Y 0, 8, .inl (fun _ => 0)))] H := ⟨hP, hD⟩
  refine lv_aload_n hx hb dX0_init_41 rfl (lv_at hl 0 rfl) ?_
  refine lv_bipush (v := (8 : Int32)) hx hb dX0_init_42 (by decide) ?_
  refine gNewa (atype := .int) (N' := 8) (a0 := (8, .inl (fun _ => 0))) 0 hx hb f5 rfl rfl hK hP hD hS hA (fun _ => gA0I _ _) (by decide) (by decide) (Nat.le_of_ble_eq_true rfl) (Nat.le_of_ble_eq_true rfl) (Nat.le_of_ble_eq_true rfl) dX0_init_44 (fun q5 H hP hD hS => ?_)
  obtain ⟨hP, hD⟩ : gW D A [(h0, .inr (0, [.int (0 : Int32), .ref q1, .ref q2, .ref q3, .ref q4, .null, .null, .null, .null])), (q1, .inl (Y 0, 8, .inl (fun _ => 0))), (q2, .inl (Y 0, 8, .inl (fun _ => 0))), (q3, .inl (Y 0, 8, .inl (fun _ => 0))), (q4, .inl (Y 0, 8, .inl (fun _ => 0))), (q5, .inl (Y 0, 8, .inl (fun _ => 0)))] H := ⟨hP, hD⟩
  refine W.widen (k := 5) (n := 40) (Nat.le_of_ble_eq_true rfl) (Nat.le_of_ble_eq_true rfl) ?_
  refine va_putF (ci := 0) (v := .ref q5) (ty := .array .int) (C := RX0) (T := TX0) (N := 9) hx hb hts f4 tyX0 tyX0_ok nmX0 hown hK hP hD hS 0 rfl rfl 5 (by decide) f10 (fun _ h9 => h9) rfl hin rfl (by decide +kernel) rfl rfl (Nat.le_of_ble_eq_true rfl) dX0_init_46 (fun H locs hP hD hS => ?_)
  obtain ⟨hP, hD⟩ : gW D A [(h0, .inr (0, [.int (0 : Int32), .ref q1, .ref q2, .ref q3, .ref q4, .ref q5, .null, .null, .null])), (q1, .inl (Y 0, 8, .inl (fun _ => 0))), (q2, .inl (Y 0, 8, .inl (fun _ => 0))), (q3, .inl (Y 0, 8, .inl (fun _ => 0))), (q4, .inl (Y 0, 8, .inl (fun _ => 0))), (q5, .inl (Y 0, 8, .inl (fun _ => 0)))] H := ⟨hP, hD⟩
  refine lv_aload_n hx hb dX0_init_49 rfl (lv_at hl 0 rfl) ?_
  refine lv_bipush (v := (8 : Int32)) hx hb dX0_init_50 (by decide) ?_
  refine gNewa (atype := .int) (N' := 8) (a0 := (8, .inl (fun _ => 0))) 0 hx hb f5 rfl rfl hK hP hD hS hA (fun _ => gA0I _ _) (by decide) (by decide) (Nat.le_of_ble_eq_true rfl) (Nat.le_of_ble_eq_true rfl) (Nat.le_of_ble_eq_true rfl) dX0_init_52 (fun q6 H hP hD hS => ?_)
  obtain ⟨hP, hD⟩ : gW D A [(h0, .inr (0, [.int (0 : Int32), .ref q1, .ref q2, .ref q3, .ref q4, .ref q5, .null, .null, .null])), (q1, .inl (Y 0, 8, .inl (fun _ => 0))), (q2, .inl (Y 0, 8, .inl (fun _ => 0))), (q3, .inl (Y 0, 8, .inl (fun _ => 0))), (q4, .inl (Y 0, 8, .inl (fun _ => 0))), (q5, .inl (Y 0, 8, .inl (fun _ => 0))), (q6, .inl (Y 0, 8, .inl (fun _ => 0)))] H := ⟨hP, hD⟩
  refine W.widen (k := 6) (n := 48) (Nat.le_of_ble_eq_true rfl) (Nat.le_of_ble_eq_true rfl) ?_
  refine va_putF (ci := 0) (v := .ref q6) (ty := .array .int) (C := RX0) (T := TX0) (N := 9) hx hb hts f4 tyX0 tyX0_ok nmX0 hown hK hP hD hS 0 rfl rfl 6 (by decide) f11 (fun _ h9 => h9) rfl hin rfl (by decide +kernel) rfl rfl (Nat.le_of_ble_eq_true rfl) dX0_init_54 (fun H locs hP hD hS => ?_)
  obtain ⟨hP, hD⟩ : gW D A [(h0, .inr (0, [.int (0 : Int32), .ref q1, .ref q2, .ref q3, .ref q4, .ref q5, .ref q6, .null, .null])), (q1, .inl (Y 0, 8, .inl (fun _ => 0))), (q2, .inl (Y 0, 8, .inl (fun _ => 0))), (q3, .inl (Y 0, 8, .inl (fun _ => 0))), (q4, .inl (Y 0, 8, .inl (fun _ => 0))), (q5, .inl (Y 0, 8, .inl (fun _ => 0))), (q6, .inl (Y 0, 8, .inl (fun _ => 0)))] H := ⟨hP, hD⟩
  refine lv_aload_n hx hb dX0_init_57 rfl (lv_at hl 0 rfl) ?_
  refine lv_bipush (v := (8 : Int32)) hx hb dX0_init_58 (by decide) ?_
  refine gNewa (atype := .int) (N' := 8) (a0 := (8, .inl (fun _ => 0))) 0 hx hb f5 rfl rfl hK hP hD hS hA (fun _ => gA0I _ _) (by decide) (by decide) (Nat.le_of_ble_eq_true rfl) (Nat.le_of_ble_eq_true rfl) (Nat.le_of_ble_eq_true rfl) dX0_init_60 (fun q7 H hP hD hS => ?_)
  obtain ⟨hP, hD⟩ : gW D A [(h0, .inr (0, [.int (0 : Int32), .ref q1, .ref q2, .ref q3, .ref q4, .ref q5, .ref q6, .null, .null])), (q1, .inl (Y 0, 8, .inl (fun _ => 0))), (q2, .inl (Y 0, 8, .inl (fun _ => 0))), (q3, .inl (Y 0, 8, .inl (fun _ => 0))), (q4, .inl (Y 0, 8, .inl (fun _ => 0))), (q5, .inl (Y 0, 8, .inl (fun _ => 0))), (q6, .inl (Y 0, 8, .inl (fun _ => 0))), (q7, .inl (Y 0, 8, .inl (fun _ => 0)))] H := ⟨hP, hD⟩
  refine W.widen (k := 7) (n := 56) (Nat.le_of_ble_eq_true rfl) (Nat.le_of_ble_eq_true rfl) ?_
  refine va_putF (ci := 0) (v := .ref q7) (ty := .array .int) (C := RX0) (T := TX0) (N := 9) hx hb hts f4 tyX0 tyX0_ok nmX0 hown hK hP hD hS 0 rfl rfl 7 (by decide) f12 (fun _ h9 => h9) rfl hin rfl (by decide +kernel) rfl rfl (Nat.le_of_ble_eq_true rfl) dX0_init_62 (fun H locs hP hD hS => ?_)
  obtain ⟨hP, hD⟩ : gW D A [(h0, .inr (0, [.int (0 : Int32), .ref q1, .ref q2, .ref q3, .ref q4, .ref q5, .ref q6, .ref q7, .null])), (q1, .inl (Y 0, 8, .inl (fun _ => 0))), (q2, .inl (Y 0, 8, .inl (fun _ => 0))), (q3, .inl (Y 0, 8, .inl (fun _ => 0))), (q4, .inl (Y 0, 8, .inl (fun _ => 0))), (q5, .inl (Y 0, 8, .inl (fun _ => 0))), (q6, .inl (Y 0, 8, .inl (fun _ => 0))), (q7, .inl (Y 0, 8, .inl (fun _ => 0)))] H := ⟨hP, hD⟩
  refine lv_aload_n hx hb dX0_init_65 rfl (lv_at hl 0 rfl) ?_
  refine lv_bipush (v := (8 : Int32)) hx hb dX0_init_66 (by decide) ?_
  refine lv_bipush (v := (6 : Int32)) hx hb dX0_init_68 (by decide) ?_
  refine gMna (N := 8) (K := 6) hx hb hown f13 hAO f5 hK hP hD hS hA (by decide) (by decide) (by decide) (by decide) (Nat.le_of_ble_eq_true rfl) (Nat.le_of_ble_eq_true rfl) (Nat.le_of_ble_eq_true rfl) (Nat.le_of_ble_eq_true rfl) dX0_init_70 (fun q8 H hP hD hS => ?_)
  obtain ⟨hP, hD⟩ : gW D A [(h0, .inr (0, [.int (0 : Int32), .ref q1, .ref q2, .ref q3, .ref q4, .ref q5, .ref q6, .ref q7, .null])), (q1, .inl (Y 0, 8, .inl (fun _ => 0))), (q2, .inl (Y 0, 8, .inl (fun _ => 0))), (q3, .inl (Y 0, 8, .inl (fun _ => 0))), (q4, .inl (Y 0, 8, .inl (fun _ => 0))), (q5, .inl (Y 0, 8, .inl (fun _ => 0))), (q6, .inl (Y 0, 8, .inl (fun _ => 0))), (q7, .inl (Y 0, 8, .inl (fun _ => 0))), (q8, .inl (Y 3, 8, .inr (.inr (.inr (.inr (fun j => if j < 8 then some (q8 + 1 + j) else none)))))), ((q8 + 1 + 0), .inl (Y 0, 6, .inl (fun _ => 0))), ((q8 + 1 + 1), .inl (Y 0, 6, .inl (fun _ => 0))), ((q8 + 1 + 2), .inl (Y 0, 6, .inl (fun _ => 0))), ((q8 + 1 + 3), .inl (Y 0, 6, .inl (fun _ => 0))), ((q8 + 1 + 4), .inl (Y 0, 6, .inl (fun _ => 0))), ((q8 + 1 + 5), .inl (Y 0, 6, .inl (fun _ => 0))), ((q8 + 1 + 6), .inl (Y 0, 6, .inl (fun _ => 0))), ((q8 + 1 + 7), .inl (Y 0, 6, .inl (fun _ => 0)))] H := ⟨hP, hD⟩
  refine W.widen (k := 16) (n := 112) (Nat.le_of_ble_eq_true rfl) (Nat.le_of_ble_eq_true rfl) ?_
  refine va_putF (ci := 0) (v := .ref q8) (ty := .array (.array .int)) (C := RX0) (T := TX0) (N := 9) hx hb hts f4 tyX0 tyX0_ok nmX0 hown hK hP hD hS 0 rfl rfl 8 (by decide) f14 (fun _ h9 => h9) rfl hin rfl (by decide +kernel) rfl rfl (Nat.le_of_ble_eq_true rfl) dX0_init_74 (fun H locs hP hD hS => ?_)
  obtain ⟨hP, hD⟩ : gW D A [(h0, .inr (0, [.int (0 : Int32), .ref q1, .ref q2, .ref q3, .ref q4, .ref q5, .ref q6, .ref q7, .ref q8])), (q1, .inl (Y 0, 8, .inl (fun _ => 0))), (q2, .inl (Y 0, 8, .inl (fun _ => 0))), (q3, .inl (Y 0, 8, .inl (fun _ => 0))), (q4, .inl (Y 0, 8, .inl (fun _ => 0))), (q5, .inl (Y 0, 8, .inl (fun _ => 0))), (q6, .inl (Y 0, 8, .inl (fun _ => 0))), (q7, .inl (Y 0, 8, .inl (fun _ => 0))), (q8, .inl (Y 3, 8, .inr (.inr (.inr (.inr (fun j => if j < 8 then some (q8 + 1 + j) else none)))))), ((q8 + 1 + 0), .inl (Y 0, 6, .inl (fun _ => 0))), ((q8 + 1 + 1), .inl (Y 0, 6, .inl (fun _ => 0))), ((q8 + 1 + 2), .inl (Y 0, 6, .inl (fun _ => 0))), ((q8 + 1 + 3), .inl (Y 0, 6, .inl (fun _ => 0))), ((q8 + 1 + 4), .inl (Y 0, 6, .inl (fun _ => 0))), ((q8 + 1 + 5), .inl (Y 0, 6, .inl (fun _ => 0))), ((q8 + 1 + 6), .inl (Y 0, 6, .inl (fun _ => 0))), ((q8 + 1 + 7), .inl (Y 0, 6, .inl (fun _ => 0)))] H := ⟨hP, hD⟩
  exact W.vret hx hb hr (fun t ht hW => ⟨⟨(), rfl, trivial, q1, q2, q3, q4, q5, q6, q7, q8, by rw [ht]; exact hP, hD⟩, hS.F ht⟩) hS.2.2 dX0_init_77

abbrev rmX3_init : Room := { frames := 1, cells := 6, slots := 161, locals := 24 }
set_option maxHeartbeats 8000000 in
set_option maxRecDepth 100000 in
theorem kX3_init (l : Launch) (D : va_G) (Y : Nat → ClassId) (h0 sz : Nat) : Met l yX3_init wsX3_init rmX3_init (gP0 [.ref h0] sz D Y [(h0, .inr (3, [.int 0, .null, .null, .null, .null, .null, .null]))]) (va_Qv (fun _ : Unit => True) (fun _ t => ∃ q1 q2 q3 q4 q5 q6 : Nat, gB D (va_A [(h0, .inr (3, [.int 0, .null, .null, .null, .null, .null, .null]))] sz) [(h0, .inr (3, [.int (0 : Int32), .ref q1, .ref q2, .ref q3, .ref q4, .ref q5, .ref q6])), (q1, .inl (Y 0, 12, .inl (fun _ => 0))), (q2, .inl (Y 0, 12, .inl (fun _ => 0))), (q3, .inl (Y 0, 12, .inl (fun _ => 0))), (q4, .inl (Y 0, 12, .inl (fun _ => 0))), (q5, .inl (Y 0, 12, .inl (fun _ => 0))), (q6, .inl (Y 2, 101, .inr (.inl (fun _ => 0))))] t) (va_A [(h0, .inr (3, [.int 0, .null, .null, .null, .null, .null, .null]))] sz)) 6 161 (va_A [(h0, .inr (3, [.int 0, .null, .null, .null, .null, .null, .null]))] sz) := by
  refine Met.ofW (cc := cX3_init) (maxL := 1) (ret := none) (by decide +kernel) rfl ?_
  intro p e s m args below meth c s₁ B hml hv
  obtain ⟨rfl, hsz, hP, hK, hAO, hD0⟩ := hv
  have hx := B.exec
  have hb := B.bytes
  have hr := B.returns
  have hts := atoms_spec (ws := wsX3_init) B.pre
  have hown : s.vm.findClass RX3 = some m.cls := findClass_of_methodNamed B.named
  have hlocks := B.notSynchronized
  have hin : meth.name = "<init>" := (name_of_methodNamed B.named B.method).1
  subst hsz
  have hD := hD0.self (sz := s.heap.size)
  have hA : ∀ q : Nat, s.heap.size ≤ q → va_A [(h0, .inr (3, [.int 0, .null, .null, .null, .null, .null, .null]))] s.heap.size q := fun q h => Or.inr h
  generalize va_A [(h0, .inr (3, [.int 0, .null, .null, .null, .null, .null, .null]))] s.heap.size = A at hD hA ⊢
  have hS : va_S A s.heap s.heap [] := va_S.rf
  have hP : va_P D vwCl [(h0, .inr (3, [.int 0, .null, .null, .null, .null, .null, .null]))] s.heap := hP
  have hl := lv_entry ([.ref h0]) (n := 1) (Nat.le_of_ble_eq_true rfl)
  rw [lg_entry_eq]
  generalize (lg_sl ([.ref h0]) ++ List.replicate (1 - (lg_sl ([.ref h0])).length) Slot.unset).toArray = ls at hl ⊢
  have hl : lv_has ls 1 [(0, .ref h0)] := hl
  have f0 := hts (.methodLink RX3 5 objectInit) (by decide +kernel)
  have f1 := hts (.instanceMethod objectInit) (by decide +kernel)
  have f2 := hts (.code objectInit ⟨#[0xb1]⟩ 1 none) (by decide +kernel)
  have f3 := hts (.fieldLink RX3 11 "CoastWatch$Hides" "size" "I") (by decide +kernel)
  have f4 : ∀ w ∈ u_ws RX3 TX3 7, w ∈ wsX3_init := by decide +kernel
  have f5 := hts (.arrayClass .int) (by decide +kernel)
  have f6 := hts (.fieldLink RX3 15 "CoastWatch$Hides" "cove" "[I") (by decide +kernel)
  have f7 := hts (.fieldLink RX3 19 "CoastWatch$Hides" "room" "[I") (by decide +kernel)
  have f8 := hts (.fieldLink RX3 22 "CoastWatch$Hides" "cost" "[I") (by decide +kernel)
  have f9 := hts (.fieldLink RX3 25 "CoastWatch$Hides" "guess" "[I") (by decide +kernel)
  have f10 := hts (.fieldLink RX3 28 "CoastWatch$Hides" "lying" "[I") (by decide +kernel)
  have f11 := hts (.arrayClass .long) (by decide +kernel)
  have f12 := hts (.fieldLink RX3 31 "CoastWatch$Hides" "scores" "[J") (by decide +kernel)
  refine lv_aload_n hx hb dX3_init_0 rfl (lv_at hl 0 rfl) ?_
  refine W.objInit hx hb hown f0 f1 f2 rfl (by rw [hml]; exact hl.1) rfl dX3_init_1 (Nat.le_of_ble_eq_true rfl) (Nat.le_of_ble_eq_true rfl) ?_
  refine W.eq (g2 := F0 m 4 ls []) rfl ?_
  refine lv_aload_n hx hb dX3_init_4 rfl (lv_at hl 0 rfl) ?_
  refine lv_iconst (v := (0 : Int32)) hx hb dX3_init_5 (by decide) ?_
  refine va_put (ci := 3) (v := .int (0 : Int32)) (ty := .int) (C := RX3) (T := TX3) (N := 7) hx hb hts f4 tyX3 tyX3_ok nmX3 hown hK hP hD hS 0 rfl rfl 0 (by decide) f3 (fun _ h9 => h9) rfl (by decide +kernel) rfl rfl (Nat.le_of_ble_eq_true rfl) dX3_init_6 (fun H locs hP hD hS => ?_)
  obtain ⟨hP, hD⟩ : gW D A [(h0, .inr (3, [.int (0 : Int32), .null, .null, .null, .null, .null, .null]))] H := ⟨hP, hD⟩
  refine lv_aload_n hx hb dX3_init_9 rfl (lv_at hl 0 rfl) ?_
  refine lv_bipush (v := (12 : Int32)) hx hb dX3_init_10 (by decide) ?_
  refine gNewa (atype := .int) (N' := 12) (a0 := (12, .inl (fun _ => 0))) 0 hx hb f5 rfl rfl hK hP hD hS hA (fun _ => gA0I _ _) (by decide) (by decide) (Nat.le_of_ble_eq_true rfl) (Nat.le_of_ble_eq_true rfl) (Nat.le_of_ble_eq_true rfl) dX3_init_12 (fun q1 H hP hD hS => ?_)
  obtain ⟨hP, hD⟩ : gW D A [(h0, .inr (3, [.int (0 : Int32), .null, .null, .null, .null, .null, .null])), (q1, .inl (Y 0, 12, .inl (fun _ => 0)))] H := ⟨hP, hD⟩
  refine W.widen (k := 1) (n := 12) (Nat.le_of_ble_eq_true rfl) (Nat.le_of_ble_eq_true rfl) ?_
  refine va_putF (ci := 3) (v := .ref q1) (ty := .array .int) (C := RX3) (T := TX3) (N := 7) hx hb hts f4 tyX3 tyX3_ok nmX3 hown hK hP hD hS 0 rfl rfl 1 (by decide) f6 (fun _ h9 => h9) rfl hin rfl (by decide +kernel) rfl rfl (Nat.le_of_ble_eq_true rfl) dX3_init_14 (fun H locs hP hD hS => ?_)
  obtain ⟨hP, hD⟩ : gW D A [(h0, .inr (3, [.int (0 : Int32), .ref q1, .null, .null, .null, .null, .null])), (q1, .inl (Y 0, 12, .inl (fun _ => 0)))] H := ⟨hP, hD⟩
  refine lv_aload_n hx hb dX3_init_17 rfl (lv_at hl 0 rfl) ?_
  refine lv_bipush (v := (12 : Int32)) hx hb dX3_init_18 (by decide) ?_
  refine gNewa (atype := .int) (N' := 12) (a0 := (12, .inl (fun _ => 0))) 0 hx hb f5 rfl rfl hK hP hD hS hA (fun _ => gA0I _ _) (by decide) (by decide) (Nat.le_of_ble_eq_true rfl) (Nat.le_of_ble_eq_true rfl) (Nat.le_of_ble_eq_true rfl) dX3_init_20 (fun q2 H hP hD hS => ?_)
  obtain ⟨hP, hD⟩ : gW D A [(h0, .inr (3, [.int (0 : Int32), .ref q1, .null, .null, .null, .null, .null])), (q1, .inl (Y 0, 12, .inl (fun _ => 0))), (q2, .inl (Y 0, 12, .inl (fun _ => 0)))] H := ⟨hP, hD⟩
  refine W.widen (k := 2) (n := 24) (Nat.le_of_ble_eq_true rfl) (Nat.le_of_ble_eq_true rfl) ?_
  refine va_putF (ci := 3) (v := .ref q2) (ty := .array .int) (C := RX3) (T := TX3) (N := 7) hx hb hts f4 tyX3 tyX3_ok nmX3 hown hK hP hD hS 0 rfl rfl 2 (by decide) f7 (fun _ h9 => h9) rfl hin rfl (by decide +kernel) rfl rfl (Nat.le_of_ble_eq_true rfl) dX3_init_22 (fun H locs hP hD hS => ?_)
  obtain ⟨hP, hD⟩ : gW D A [(h0, .inr (3, [.int (0 : Int32), .ref q1, .ref q2, .null, .null, .null, .null])), (q1, .inl (Y 0, 12, .inl (fun _ => 0))), (q2, .inl (Y 0, 12, .inl (fun _ => 0)))] H := ⟨hP, hD⟩
  refine lv_aload_n hx hb dX3_init_25 rfl (lv_at hl 0 rfl) ?_
  refine lv_bipush (v := (12 : Int32)) hx hb dX3_init_26 (by decide) ?_
  refine gNewa (atype := .int) (N' := 12) (a0 := (12, .inl (fun _ => 0))) 0 hx hb f5 rfl rfl hK hP hD hS hA (fun _ => gA0I _ _) (by decide) (by decide) (Nat.le_of_ble_eq_true rfl) (Nat.le_of_ble_eq_true rfl) (Nat.le_of_ble_eq_true rfl) dX3_init_28 (fun q3 H hP hD hS => ?_)
  obtain ⟨hP, hD⟩ : gW D A [(h0, .inr (3, [.int (0 : Int32), .ref q1, .ref q2, .null, .null, .null, .null])), (q1, .inl (Y 0, 12, .inl (fun _ => 0))), (q2, .inl (Y 0, 12, .inl (fun _ => 0))), (q3, .inl (Y 0, 12, .inl (fun _ => 0)))] H := ⟨hP, hD⟩
  refine W.widen (k := 3) (n := 36) (Nat.le_of_ble_eq_true rfl) (Nat.le_of_ble_eq_true rfl) ?_
  refine va_putF (ci := 3) (v := .ref q3) (ty := .array .int) (C := RX3) (T := TX3) (N := 7) hx hb hts f4 tyX3 tyX3_ok nmX3 hown hK hP hD hS 0 rfl rfl 3 (by decide) f8 (fun _ h9 => h9) rfl hin rfl (by decide +kernel) rfl rfl (Nat.le_of_ble_eq_true rfl) dX3_init_30 (fun H locs hP hD hS => ?_)
  obtain ⟨hP, hD⟩ : gW D A [(h0, .inr (3, [.int (0 : Int32), .ref q1, .ref q2, .ref q3, .null, .null, .null])), (q1, .inl (Y 0, 12, .inl (fun _ => 0))), (q2, .inl (Y 0, 12, .inl (fun _ => 0))), (q3, .inl (Y 0, 12, .inl (fun _ => 0)))] H := ⟨hP, hD⟩
  refine lv_aload_n hx hb dX3_init_33 rfl (lv_at hl 0 rfl) ?_
  refine lv_bipush (v := (12 : Int32)) hx hb dX3_init_34 (by decide) ?_
  refine gNewa (atype := .int) (N' := 12) (a0 := (12, .inl (fun _ => 0))) 0 hx hb f5 rfl rfl hK hP hD hS hA (fun _ => gA0I _ _) (by decide) (by decide) (Nat.le_of_ble_eq_true rfl) (Nat.le_of_ble_eq_true rfl) (Nat.le_of_ble_eq_true rfl) dX3_init_36 (fun q4 H hP hD hS => ?_)
  obtain ⟨hP, hD⟩ : gW D A [(h0, .inr (3, [.int (0 : Int32), .ref q1, .ref q2, .ref q3, .null, .null, .null])), (q1, .inl (Y 0, 12, .inl (fun _ => 0))), (q2, .inl (Y 0, 12, .inl (fun _ => 0))), (q3, .inl (Y 0, 12, .inl (fun _ => 0))), (q4, .inl (Y 0, 12, .inl (fun _ => 0)))] H := ⟨hP, hD⟩
  refine W.widen (k := 4) (n := 48) (Nat.le_of_ble_eq_true rfl) (Nat.le_of_ble_eq_true rfl) ?_
  refine va_putF (ci := 3) (v := .ref q4) (ty := .array .int) (C := RX3) (T := TX3) (N := 7) hx hb hts f4 tyX3 tyX3_ok nmX3 hown hK hP hD hS 0 rfl rfl 4 (by decide) f9 (fun _ h9 => h9) rfl hin rfl (by decide +kernel) rfl rfl (Nat.le_of_ble_eq_true rfl) dX3_init_38 (fun H locs hP hD hS => ?_)
  obtain ⟨hP, hD⟩ : gW D A [(h0, .inr (3, [.int (0 : Int32), .ref q1, .ref q2, .ref q3, .ref q4, .null, .null])), (q1, .inl (Y 0, 12, .inl (fun _ => 0))), (q2, .inl (Y 0, 12, .inl (fun _ => 0))), (q3, .inl (Y 0, 12, .inl (fun _ => 0))), (q4, .inl (Y 0, 12, .inl (fun _ => 0)))] H := ⟨hP, hD⟩
  refine lv_aload_n hx hb dX3_init_41 rfl (lv_at hl 0 rfl) ?_
  refine lv_bipush (v := (12 : Int32)) hx hb dX3_init_42 (by decide) ?_
  refine gNewa (atype := .int) (N' := 12) (a0 := (12, .inl (fun _ => 0))) 0 hx hb f5 rfl rfl hK hP hD hS hA (fun _ => gA0I _ _) (by decide) (by decide) (Nat.le_of_ble_eq_true rfl) (Nat.le_of_ble_eq_true rfl) (Nat.le_of_ble_eq_true rfl) dX3_init_44 (fun q5 H hP hD hS => ?_)
  obtain ⟨hP, hD⟩ : gW D A [(h0, .inr (3, [.int (0 : Int32), .ref q1, .ref q2, .ref q3, .ref q4, .null, .null])), (q1, .inl (Y 0, 12, .inl (fun _ => 0))), (q2, .inl (Y 0, 12, .inl (fun _ => 0))), (q3, .inl (Y 0, 12, .inl (fun _ => 0))), (q4, .inl (Y 0, 12, .inl (fun _ => 0))), (q5, .inl (Y 0, 12, .inl (fun _ => 0)))] H := ⟨hP, hD⟩
  refine W.widen (k := 5) (n := 60) (Nat.le_of_ble_eq_true rfl) (Nat.le_of_ble_eq_true rfl) ?_
  refine va_putF (ci := 3) (v := .ref q5) (ty := .array .int) (C := RX3) (T := TX3) (N := 7) hx hb hts f4 tyX3 tyX3_ok nmX3 hown hK hP hD hS 0 rfl rfl 5 (by decide) f10 (fun _ h9 => h9) rfl hin rfl (by decide +kernel) rfl rfl (Nat.le_of_ble_eq_true rfl) dX3_init_46 (fun H locs hP hD hS => ?_)
  obtain ⟨hP, hD⟩ : gW D A [(h0, .inr (3, [.int (0 : Int32), .ref q1, .ref q2, .ref q3, .ref q4, .ref q5, .null])), (q1, .inl (Y 0, 12, .inl (fun _ => 0))), (q2, .inl (Y 0, 12, .inl (fun _ => 0))), (q3, .inl (Y 0, 12, .inl (fun _ => 0))), (q4, .inl (Y 0, 12, .inl (fun _ => 0))), (q5, .inl (Y 0, 12, .inl (fun _ => 0)))] H := ⟨hP, hD⟩
  refine lv_aload_n hx hb dX3_init_49 rfl (lv_at hl 0 rfl) ?_
  refine lv_bipush (v := (101 : Int32)) hx hb dX3_init_50 (by decide) ?_
  refine gNewa (atype := .long) (N' := 101) (a0 := (101, .inr (.inl (fun _ => 0)))) 2 hx hb f11 rfl rfl hK hP hD hS hA (fun _ => gA0J _ _) (by decide) (by decide) (Nat.le_of_ble_eq_true rfl) (Nat.le_of_ble_eq_true rfl) (Nat.le_of_ble_eq_true rfl) dX3_init_52 (fun q6 H hP hD hS => ?_)
  obtain ⟨hP, hD⟩ : gW D A [(h0, .inr (3, [.int (0 : Int32), .ref q1, .ref q2, .ref q3, .ref q4, .ref q5, .null])), (q1, .inl (Y 0, 12, .inl (fun _ => 0))), (q2, .inl (Y 0, 12, .inl (fun _ => 0))), (q3, .inl (Y 0, 12, .inl (fun _ => 0))), (q4, .inl (Y 0, 12, .inl (fun _ => 0))), (q5, .inl (Y 0, 12, .inl (fun _ => 0))), (q6, .inl (Y 2, 101, .inr (.inl (fun _ => 0))))] H := ⟨hP, hD⟩
  refine W.widen (k := 6) (n := 161) (Nat.le_of_ble_eq_true rfl) (Nat.le_of_ble_eq_true rfl) ?_
  refine va_putF (ci := 3) (v := .ref q6) (ty := .array .long) (C := RX3) (T := TX3) (N := 7) hx hb hts f4 tyX3 tyX3_ok nmX3 hown hK hP hD hS 0 rfl rfl 6 (by decide) f12 (fun _ h9 => h9) rfl hin rfl (by decide +kernel) rfl rfl (Nat.le_of_ble_eq_true rfl) dX3_init_54 (fun H locs hP hD hS => ?_)
  obtain ⟨hP, hD⟩ : gW D A [(h0, .inr (3, [.int (0 : Int32), .ref q1, .ref q2, .ref q3, .ref q4, .ref q5, .ref q6])), (q1, .inl (Y 0, 12, .inl (fun _ => 0))), (q2, .inl (Y 0, 12, .inl (fun _ => 0))), (q3, .inl (Y 0, 12, .inl (fun _ => 0))), (q4, .inl (Y 0, 12, .inl (fun _ => 0))), (q5, .inl (Y 0, 12, .inl (fun _ => 0))), (q6, .inl (Y 2, 101, .inr (.inl (fun _ => 0))))] H := ⟨hP, hD⟩
  exact W.vret hx hb hr (fun t ht hW => ⟨⟨(), rfl, trivial, q1, q2, q3, q4, q5, q6, by rw [ht]; exact hP, hD⟩, hS.F ht⟩) hS.2.2 dX3_init_57

abbrev rmX5_init : Room := { frames := 1, cells := 6, slots := 600, locals := 24 }
set_option maxHeartbeats 8000000 in
set_option maxRecDepth 100000 in
theorem kX5_init (l : Launch) (D : va_G) (Y : Nat → ClassId) (h0 sz : Nat) : Met l yX5_init wsX5_init rmX5_init (gP0 [.ref h0] sz D Y [(h0, .inr (5, [.int 0, .null, .null, .null, .null, .null, .null]))]) (va_Qv (fun _ : Unit => True) (fun _ t => ∃ q1 q2 q3 q4 q5 q6 : Nat, gB D (va_A [(h0, .inr (5, [.int 0, .null, .null, .null, .null, .null, .null]))] sz) [(h0, .inr (5, [.int (0 : Int32), .ref q1, .ref q2, .ref q3, .ref q4, .ref q5, .ref q6])), (q1, .inl (Y 0, 100, .inl (fun _ => 0))), (q2, .inl (Y 0, 100, .inl (fun _ => 0))), (q3, .inl (Y 0, 100, .inl (fun _ => 0))), (q4, .inl (Y 0, 100, .inl (fun _ => 0))), (q5, .inl (Y 0, 100, .inl (fun _ => 0))), (q6, .inl (Y 0, 100, .inl (fun _ => 0)))] t) (va_A [(h0, .inr (5, [.int 0, .null, .null, .null, .null, .null, .null]))] sz)) 6 600 (va_A [(h0, .inr (5, [.int 0, .null, .null, .null, .null, .null, .null]))] sz) := by
  refine Met.ofW (cc := cX5_init) (maxL := 1) (ret := none) (by decide +kernel) rfl ?_
  intro p e s m args below meth c s₁ B hml hv
  obtain ⟨rfl, hsz, hP, hK, hAO, hD0⟩ := hv
  have hx := B.exec
  have hb := B.bytes
  have hr := B.returns
  have hts := atoms_spec (ws := wsX5_init) B.pre
  have hown : s.vm.findClass RX5 = some m.cls := findClass_of_methodNamed B.named
  have hlocks := B.notSynchronized
  have hin : meth.name = "<init>" := (name_of_methodNamed B.named B.method).1
  subst hsz
  have hD := hD0.self (sz := s.heap.size)
  have hA : ∀ q : Nat, s.heap.size ≤ q → va_A [(h0, .inr (5, [.int 0, .null, .null, .null, .null, .null, .null]))] s.heap.size q := fun q h => Or.inr h
  generalize va_A [(h0, .inr (5, [.int 0, .null, .null, .null, .null, .null, .null]))] s.heap.size = A at hD hA ⊢
  have hS : va_S A s.heap s.heap [] := va_S.rf
  have hP : va_P D vwCl [(h0, .inr (5, [.int 0, .null, .null, .null, .null, .null, .null]))] s.heap := hP
  have hl := lv_entry ([.ref h0]) (n := 1) (Nat.le_of_ble_eq_true rfl)
  rw [lg_entry_eq]
  generalize (lg_sl ([.ref h0]) ++ List.replicate (1 - (lg_sl ([.ref h0])).length) Slot.unset).toArray = ls at hl ⊢
  have hl : lv_has ls 1 [(0, .ref h0)] := hl
  have f0 := hts (.methodLink RX5 3 objectInit) (by decide +kernel)
  have f1 := hts (.instanceMethod objectInit) (by decide +kernel)
  have f2 := hts (.code objectInit ⟨#[0xb1]⟩ 1 none) (by decide +kernel)
  have f3 := hts (.fieldLink RX5 9 "CoastWatch$Lots" "size" "I") (by decide +kernel)
  have f4 : ∀ w ∈ u_ws RX5 TX5 7, w ∈ wsX5_init := by decide +kernel
  have f5 := hts (.arrayClass .int) (by decide +kernel)
  have f6 := hts (.fieldLink RX5 15 "CoastWatch$Lots" "boat" "[I") (by decide +kernel)
  have f7 := hts (.fieldLink RX5 19 "CoastWatch$Lots" "casks" "[I") (by decide +kernel)
  have f8 := hts (.fieldLink RX5 22 "CoastWatch$Lots" "night" "[I") (by decide +kernel)
  have f9 := hts (.fieldLink RX5 25 "CoastWatch$Lots" "cove" "[I") (by decide +kernel)
  have f10 := hts (.fieldLink RX5 28 "CoastWatch$Lots" "place" "[I") (by decide +kernel)
  have f11 := hts (.fieldLink RX5 31 "CoastWatch$Lots" "hide" "[I") (by decide +kernel)
  refine lv_aload_n hx hb dX5_init_0 rfl (lv_at hl 0 rfl) ?_
  refine W.objInit hx hb hown f0 f1 f2 rfl (by rw [hml]; exact hl.1) rfl dX5_init_1 (Nat.le_of_ble_eq_true rfl) (Nat.le_of_ble_eq_true rfl) ?_
  refine W.eq (g2 := F0 m 4 ls []) rfl ?_
  refine lv_aload_n hx hb dX5_init_4 rfl (lv_at hl 0 rfl) ?_
  refine lv_iconst (v := (0 : Int32)) hx hb dX5_init_5 (by decide) ?_
  refine va_put (ci := 5) (v := .int (0 : Int32)) (ty := .int) (C := RX5) (T := TX5) (N := 7) hx hb hts f4 tyX5 tyX5_ok nmX5 hown hK hP hD hS 0 rfl rfl 0 (by decide) f3 (fun _ h9 => h9) rfl (by decide +kernel) rfl rfl (Nat.le_of_ble_eq_true rfl) dX5_init_6 (fun H locs hP hD hS => ?_)
  obtain ⟨hP, hD⟩ : gW D A [(h0, .inr (5, [.int (0 : Int32), .null, .null, .null, .null, .null, .null]))] H := ⟨hP, hD⟩
  refine lv_aload_n hx hb dX5_init_9 rfl (lv_at hl 0 rfl) ?_
  refine lv_bipush (v := (100 : Int32)) hx hb dX5_init_10 (by decide) ?_
  refine gNewa (atype := .int) (N' := 100) (a0 := (100, .inl (fun _ => 0))) 0 hx hb f5 rfl rfl hK hP hD hS hA (fun _ => gA0I _ _) (by decide) (by decide) (Nat.le_of_ble_eq_true rfl) (Nat.le_of_ble_eq_true rfl) (Nat.le_of_ble_eq_true rfl) dX5_init_12 (fun q1 H hP hD hS => ?_)
  obtain ⟨hP, hD⟩ : gW D A [(h0, .inr (5, [.int (0 : Int32), .null, .null, .null, .null, .null, .null])), (q1, .inl (Y 0, 100, .inl (fun _ => 0)))] H := ⟨hP, hD⟩
  refine W.widen (k := 1) (n := 100) (Nat.le_of_ble_eq_true rfl) (Nat.le_of_ble_eq_true rfl) ?_
  refine va_putF (ci := 5) (v := .ref q1) (ty := .array .int) (C := RX5) (T := TX5) (N := 7) hx hb hts f4 tyX5 tyX5_ok nmX5 hown hK hP hD hS 0 rfl rfl 1 (by decide) f6 (fun _ h9 => h9) rfl hin rfl (by decide +kernel) rfl rfl (Nat.le_of_ble_eq_true rfl) dX5_init_14 (fun H locs hP hD hS => ?_)
  obtain ⟨hP, hD⟩ : gW D A [(h0, .inr (5, [.int (0 : Int32), .ref q1, .null, .null, .null, .null, .null])), (q1, .inl (Y 0, 100, .inl (fun _ => 0)))] H := ⟨hP, hD⟩
  refine lv_aload_n hx hb dX5_init_17 rfl (lv_at hl 0 rfl) ?_
  refine lv_bipush (v := (100 : Int32)) hx hb dX5_init_18 (by decide) ?_
  refine gNewa (atype := .int) (N' := 100) (a0 := (100, .inl (fun _ => 0))) 0 hx hb f5 rfl rfl hK hP hD hS hA (fun _ => gA0I _ _) (by decide) (by decide) (Nat.le_of_ble_eq_true rfl) (Nat.le_of_ble_eq_true rfl) (Nat.le_of_ble_eq_true rfl) dX5_init_20 (fun q2 H hP hD hS => ?_)
  obtain ⟨hP, hD⟩ : gW D A [(h0, .inr (5, [.int (0 : Int32), .ref q1, .null, .null, .null, .null, .null])), (q1, .inl (Y 0, 100, .inl (fun _ => 0))), (q2, .inl (Y 0, 100, .inl (fun _ => 0)))] H := ⟨hP, hD⟩
  refine W.widen (k := 2) (n := 200) (Nat.le_of_ble_eq_true rfl) (Nat.le_of_ble_eq_true rfl) ?_
  refine va_putF (ci := 5) (v := .ref q2) (ty := .array .int) (C := RX5) (T := TX5) (N := 7) hx hb hts f4 tyX5 tyX5_ok nmX5 hown hK hP hD hS 0 rfl rfl 2 (by decide) f7 (fun _ h9 => h9) rfl hin rfl (by decide +kernel) rfl rfl (Nat.le_of_ble_eq_true rfl) dX5_init_22 (fun H locs hP hD hS => ?_)
  obtain ⟨hP, hD⟩ : gW D A [(h0, .inr (5, [.int (0 : Int32), .ref q1, .ref q2, .null, .null, .null, .null])), (q1, .inl (Y 0, 100, .inl (fun _ => 0))), (q2, .inl (Y 0, 100, .inl (fun _ => 0)))] H := ⟨hP, hD⟩
  refine lv_aload_n hx hb dX5_init_25 rfl (lv_at hl 0 rfl) ?_
  refine lv_bipush (v := (100 : Int32)) hx hb dX5_init_26 (by decide) ?_
  refine gNewa (atype := .int) (N' := 100) (a0 := (100, .inl (fun _ => 0))) 0 hx hb f5 rfl rfl hK hP hD hS hA (fun _ => gA0I _ _) (by decide) (by decide) (Nat.le_of_ble_eq_true rfl) (Nat.le_of_ble_eq_true rfl) (Nat.le_of_ble_eq_true rfl) dX5_init_28 (fun q3 H hP hD hS => ?_)
  obtain ⟨hP, hD⟩ : gW D A [(h0, .inr (5, [.int (0 : Int32), .ref q1, .ref q2, .null, .null, .null, .null])), (q1, .inl (Y 0, 100, .inl (fun _ => 0))), (q2, .inl (Y 0, 100, .inl (fun _ => 0))), (q3, .inl (Y 0, 100, .inl (fun _ => 0)))] H := ⟨hP, hD⟩
  refine W.widen (k := 3) (n := 300) (Nat.le_of_ble_eq_true rfl) (Nat.le_of_ble_eq_true rfl) ?_
  refine va_putF (ci := 5) (v := .ref q3) (ty := .array .int) (C := RX5) (T := TX5) (N := 7) hx hb hts f4 tyX5 tyX5_ok nmX5 hown hK hP hD hS 0 rfl rfl 3 (by decide) f8 (fun _ h9 => h9) rfl hin rfl (by decide +kernel) rfl rfl (Nat.le_of_ble_eq_true rfl) dX5_init_30 (fun H locs hP hD hS => ?_)
  obtain ⟨hP, hD⟩ : gW D A [(h0, .inr (5, [.int (0 : Int32), .ref q1, .ref q2, .ref q3, .null, .null, .null])), (q1, .inl (Y 0, 100, .inl (fun _ => 0))), (q2, .inl (Y 0, 100, .inl (fun _ => 0))), (q3, .inl (Y 0, 100, .inl (fun _ => 0)))] H := ⟨hP, hD⟩
  refine lv_aload_n hx hb dX5_init_33 rfl (lv_at hl 0 rfl) ?_
  refine lv_bipush (v := (100 : Int32)) hx hb dX5_init_34 (by decide) ?_
  refine gNewa (atype := .int) (N' := 100) (a0 := (100, .inl (fun _ => 0))) 0 hx hb f5 rfl rfl hK hP hD hS hA (fun _ => gA0I _ _) (by decide) (by decide) (Nat.le_of_ble_eq_true rfl) (Nat.le_of_ble_eq_true rfl) (Nat.le_of_ble_eq_true rfl) dX5_init_36 (fun q4 H hP hD hS => ?_)
  obtain ⟨hP, hD⟩ : gW D A [(h0, .inr (5, [.int (0 : Int32), .ref q1, .ref q2, .ref q3, .null, .null, .null])), (q1, .inl (Y 0, 100, .inl (fun _ => 0))), (q2, .inl (Y 0, 100, .inl (fun _ => 0))), (q3, .inl (Y 0, 100, .inl (fun _ => 0))), (q4, .inl (Y 0, 100, .inl (fun _ => 0)))] H := ⟨hP, hD⟩
  refine W.widen (k := 4) (n := 400) (Nat.le_of_ble_eq_true rfl) (Nat.le_of_ble_eq_true rfl) ?_
  refine va_putF (ci := 5) (v := .ref q4) (ty := .array .int) (C := RX5) (T := TX5) (N := 7) hx hb hts f4 tyX5 tyX5_ok nmX5 hown hK hP hD hS 0 rfl rfl 4 (by decide) f9 (fun _ h9 => h9) rfl hin rfl (by decide +kernel) rfl rfl (Nat.le_of_ble_eq_true rfl) dX5_init_38 (fun H locs hP hD hS => ?_)
  obtain ⟨hP, hD⟩ : gW D A [(h0, .inr (5, [.int (0 : Int32), .ref q1, .ref q2, .ref q3, .ref q4, .null, .null])), (q1, .inl (Y 0, 100, .inl (fun _ => 0))), (q2, .inl (Y 0, 100, .inl (fun _ => 0))), (q3, .inl (Y 0, 100, .inl (fun _ => 0))), (q4, .inl (Y 0, 100, .inl (fun _ => 0)))] H := ⟨hP, hD⟩
  refine lv_aload_n hx hb dX5_init_41 rfl (lv_at hl 0 rfl) ?_
  refine lv_bipush (v := (100 : Int32)) hx hb dX5_init_42 (by decide) ?_
  refine gNewa (atype := .int) (N' := 100) (a0 := (100, .inl (fun _ => 0))) 0 hx hb f5 rfl rfl hK hP hD hS hA (fun _ => gA0I _ _) (by decide) (by decide) (Nat.le_of_ble_eq_true rfl) (Nat.le_of_ble_eq_true rfl) (Nat.le_of_ble_eq_true rfl) dX5_init_44 (fun q5 H hP hD hS => ?_)
  obtain ⟨hP, hD⟩ : gW D A [(h0, .inr (5, [.int (0 : Int32), .ref q1, .ref q2, .ref q3, .ref q4, .null, .null])), (q1, .inl (Y 0, 100, .inl (fun _ => 0))), (q2, .inl (Y 0, 100, .inl (fun _ => 0))), (q3, .inl (Y 0, 100, .inl (fun _ => 0))), (q4, .inl (Y 0, 100, .inl (fun _ => 0))), (q5, .inl (Y 0, 100, .inl (fun _ => 0)))] H := ⟨hP, hD⟩
  refine W.widen (k := 5) (n := 500) (Nat.le_of_ble_eq_true rfl) (Nat.le_of_ble_eq_true rfl) ?_
  refine va_putF (ci := 5) (v := .ref q5) (ty := .array .int) (C := RX5) (T := TX5) (N := 7) hx hb hts f4 tyX5 tyX5_ok nmX5 hown hK hP hD hS 0 rfl rfl 5 (by decide) f10 (fun _ h9 => h9) rfl hin rfl (by decide +kernel) rfl rfl (Nat.le_of_ble_eq_true rfl) dX5_init_46 (fun H locs hP hD hS => ?_)
  obtain ⟨hP, hD⟩ : gW D A [(h0, .inr (5, [.int (0 : Int32), .ref q1, .ref q2, .ref q3, .ref q4, .ref q5, .null])), (q1, .inl (Y 0, 100, .inl (fun _ => 0))), (q2, .inl (Y 0, 100, .inl (fun _ => 0))), (q3, .inl (Y 0, 100, .inl (fun _ => 0))), (q4, .inl (Y 0, 100, .inl (fun _ => 0))), (q5, .inl (Y 0, 100, .inl (fun _ => 0)))] H := ⟨hP, hD⟩
  refine lv_aload_n hx hb dX5_init_49 rfl (lv_at hl 0 rfl) ?_
  refine lv_bipush (v := (100 : Int32)) hx hb dX5_init_50 (by decide) ?_
  refine gNewa (atype := .int) (N' := 100) (a0 := (100, .inl (fun _ => 0))) 0 hx hb f5 rfl rfl hK hP hD hS hA (fun _ => gA0I _ _) (by decide) (by decide) (Nat.le_of_ble_eq_true rfl) (Nat.le_of_ble_eq_true rfl) (Nat.le_of_ble_eq_true rfl) dX5_init_52 (fun q6 H hP hD hS => ?_)
  obtain ⟨hP, hD⟩ : gW D A [(h0, .inr (5, [.int (0 : Int32), .ref q1, .ref q2, .ref q3, .ref q4, .ref q5, .null])), (q1, .inl (Y 0, 100, .inl (fun _ => 0))), (q2, .inl (Y 0, 100, .inl (fun _ => 0))), (q3, .inl (Y 0, 100, .inl (fun _ => 0))), (q4, .inl (Y 0, 100, .inl (fun _ => 0))), (q5, .inl (Y 0, 100, .inl (fun _ => 0))), (q6, .inl (Y 0, 100, .inl (fun _ => 0)))] H := ⟨hP, hD⟩
  refine W.widen (k := 6) (n := 600) (Nat.le_of_ble_eq_true rfl) (Nat.le_of_ble_eq_true rfl) ?_
  refine va_putF (ci := 5) (v := .ref q6) (ty := .array .int) (C := RX5) (T := TX5) (N := 7) hx hb hts f4 tyX5 tyX5_ok nmX5 hown hK hP hD hS 0 rfl rfl 6 (by decide) f11 (fun _ h9 => h9) rfl hin rfl (by decide +kernel) rfl rfl (Nat.le_of_ble_eq_true rfl) dX5_init_54 (fun H locs hP hD hS => ?_)
  obtain ⟨hP, hD⟩ : gW D A [(h0, .inr (5, [.int (0 : Int32), .ref q1, .ref q2, .ref q3, .ref q4, .ref q5, .ref q6])), (q1, .inl (Y 0, 100, .inl (fun _ => 0))), (q2, .inl (Y 0, 100, .inl (fun _ => 0))), (q3, .inl (Y 0, 100, .inl (fun _ => 0))), (q4, .inl (Y 0, 100, .inl (fun _ => 0))), (q5, .inl (Y 0, 100, .inl (fun _ => 0))), (q6, .inl (Y 0, 100, .inl (fun _ => 0)))] H := ⟨hP, hD⟩
  exact W.vret hx hb hr (fun t ht hW => ⟨⟨(), rfl, trivial, q1, q2, q3, q4, q5, q6, by rw [ht]; exact hP, hD⟩, hS.F ht⟩) hS.2.2 dX5_init_57

abbrev rmX4_init : Room := { frames := 1, cells := 3, slots := 60, locals := 24 }
set_option maxHeartbeats 8000000 in
set_option maxRecDepth 100000 in
theorem kX4_init (l : Launch) (D : va_G) (Y : Nat → ClassId) (h0 sz : Nat) : Met l yX4_init wsX4_init rmX4_init (gP0 [.ref h0] sz D Y [(h0, .inr (4, [.int 0, .null, .null, .null]))]) (va_Qv (fun _ : Unit => True) (fun _ t => ∃ q1 q2 q3 : Nat, gB D (va_A [(h0, .inr (4, [.int 0, .null, .null, .null]))] sz) [(h0, .inr (4, [.int (0 : Int32), .ref q1, .ref q2, .ref q3])), (q1, .inl (Y 0, 20, .inl (fun _ => 0))), (q2, .inl (Y 0, 20, .inl (fun _ => 0))), (q3, .inl (Y 0, 20, .inl (fun _ => 0)))] t) (va_A [(h0, .inr (4, [.int 0, .null, .null, .null]))] sz)) 3 60 (va_A [(h0, .inr (4, [.int 0, .null, .null, .null]))] sz) := by
  refine Met.ofW (cc := cX4_init) (maxL := 1) (ret := none) (by decide +kernel) rfl ?_
  intro p e s m args below meth c s₁ B hml hv
  obtain ⟨rfl, hsz, hP, hK, hAO, hD0⟩ := hv
  have hx := B.exec
  have hb := B.bytes
  have hr := B.returns
  have hts := atoms_spec (ws := wsX4_init) B.pre
  have hown : s.vm.findClass RX4 = some m.cls := findClass_of_methodNamed B.named
  have hlocks := B.notSynchronized
  have hin : meth.name = "<init>" := (name_of_methodNamed B.named B.method).1
  subst hsz
  have hD := hD0.self (sz := s.heap.size)
  have hA : ∀ q : Nat, s.heap.size ≤ q → va_A [(h0, .inr (4, [.int 0, .null, .null, .null]))] s.heap.size q := fun q h => Or.inr h
  generalize va_A [(h0, .inr (4, [.int 0, .null, .null, .null]))] s.heap.size = A at hD hA ⊢
  have hS : va_S A s.heap s.heap [] := va_S.rf
  have hP : va_P D vwCl [(h0, .inr (4, [.int 0, .null, .null, .null]))] s.heap := hP
  have hl := lv_entry ([.ref h0]) (n := 1) (Nat.le_of_ble_eq_true rfl)
  rw [lg_entry_eq]
  generalize (lg_sl ([.ref h0]) ++ List.replicate (1 - (lg_sl ([.ref h0])).length) Slot.unset).toArray = ls at hl ⊢
  have hl : lv_has ls 1 [(0, .ref h0)] := hl
  have f0 := hts (.methodLink RX4 3 objectInit) (by decide +kernel)
  have f1 := hts (.instanceMethod objectInit) (by decide +kernel)
  have f2 := hts (.code objectInit ⟨#[0xb1]⟩ 1 none) (by decide +kernel)
  have f3 := hts (.fieldLink RX4 9 "CoastWatch$Laws" "size" "I") (by decide +kernel)
  have f4 : ∀ w ∈ u_ws RX4 TX4 4, w ∈ wsX4_init := by decide +kernel
  have f5 := hts (.arrayClass .int) (by decide +kernel)
  have f6 := hts (.fieldLink RX4 15 "CoastWatch$Laws" "crew" "[I") (by decide +kernel)
  have f7 := hts (.fieldLink RX4 19 "CoastWatch$Laws" "informer" "[I") (by decide +kernel)
  have f8 := hts (.fieldLink RX4 22 "CoastWatch$Laws" "from" "[I") (by decide +kernel)
  refine lv_aload_n hx hb dX4_init_0 rfl (lv_at hl 0 rfl) ?_
  refine W.objInit hx hb hown f0 f1 f2 rfl (by rw [hml]; exact hl.1) rfl dX4_init_1 (Nat.le_of_ble_eq_true rfl) (Nat.le_of_ble_eq_true rfl) ?_
  refine W.eq (g2 := F0 m 4 ls []) rfl ?_
  refine lv_aload_n hx hb dX4_init_4 rfl (lv_at hl 0 rfl) ?_
  refine lv_iconst (v := (0 : Int32)) hx hb dX4_init_5 (by decide) ?_
  refine va_put (ci := 4) (v := .int (0 : Int32)) (ty := .int) (C := RX4) (T := TX4) (N := 4) hx hb hts f4 tyX4 tyX4_ok nmX4 hown hK hP hD hS 0 rfl rfl 0 (by decide) f3 (fun _ h9 => h9) rfl (by decide +kernel) rfl rfl (Nat.le_of_ble_eq_true rfl) dX4_init_6 (fun H locs hP hD hS => ?_)
  obtain ⟨hP, hD⟩ : gW D A [(h0, .inr (4, [.int (0 : Int32), .null, .null, .null]))] H := ⟨hP, hD⟩
  refine lv_aload_n hx hb dX4_init_9 rfl (lv_at hl 0 rfl) ?_
  refine lv_bipush (v := (20 : Int32)) hx hb dX4_init_10 (by decide) ?_
  refine gNewa (atype := .int) (N' := 20) (a0 := (20, .inl (fun _ => 0))) 0 hx hb f5 rfl rfl hK hP hD hS hA (fun _ => gA0I _ _) (by decide) (by decide) (Nat.le_of_ble_eq_true rfl) (Nat.le_of_ble_eq_true rfl) (Nat.le_of_ble_eq_true rfl) dX4_init_12 (fun q1 H hP hD hS => ?_)
  obtain ⟨hP, hD⟩ : gW D A [(h0, .inr (4, [.int (0 : Int32), .null, .null, .null])), (q1, .inl (Y 0, 20, .inl (fun _ => 0)))] H := ⟨hP, hD⟩
  refine W.widen (k := 1) (n := 20) (Nat.le_of_ble_eq_true rfl) (Nat.le_of_ble_eq_true rfl) ?_
  refine va_putF (ci := 4) (v := .ref q1) (ty := .array .int) (C := RX4) (T := TX4) (N := 4) hx hb hts f4 tyX4 tyX4_ok nmX4 hown hK hP hD hS 0 rfl rfl 1 (by decide) f6 (fun _ h9 => h9) rfl hin rfl (by decide +kernel) rfl rfl (Nat.le_of_ble_eq_true rfl) dX4_init_14 (fun H locs hP hD hS => ?_)
  obtain ⟨hP, hD⟩ : gW D A [(h0, .inr (4, [.int (0 : Int32), .ref q1, .null, .null])), (q1, .inl (Y 0, 20, .inl (fun _ => 0)))] H := ⟨hP, hD⟩
  refine lv_aload_n hx hb dX4_init_17 rfl (lv_at hl 0 rfl) ?_
  refine lv_bipush (v := (20 : Int32)) hx hb dX4_init_18 (by decide) ?_
  refine gNewa (atype := .int) (N' := 20) (a0 := (20, .inl (fun _ => 0))) 0 hx hb f5 rfl rfl hK hP hD hS hA (fun _ => gA0I _ _) (by decide) (by decide) (Nat.le_of_ble_eq_true rfl) (Nat.le_of_ble_eq_true rfl) (Nat.le_of_ble_eq_true rfl) dX4_init_20 (fun q2 H hP hD hS => ?_)
  obtain ⟨hP, hD⟩ : gW D A [(h0, .inr (4, [.int (0 : Int32), .ref q1, .null, .null])), (q1, .inl (Y 0, 20, .inl (fun _ => 0))), (q2, .inl (Y 0, 20, .inl (fun _ => 0)))] H := ⟨hP, hD⟩
  refine W.widen (k := 2) (n := 40) (Nat.le_of_ble_eq_true rfl) (Nat.le_of_ble_eq_true rfl) ?_
  refine va_putF (ci := 4) (v := .ref q2) (ty := .array .int) (C := RX4) (T := TX4) (N := 4) hx hb hts f4 tyX4 tyX4_ok nmX4 hown hK hP hD hS 0 rfl rfl 2 (by decide) f7 (fun _ h9 => h9) rfl hin rfl (by decide +kernel) rfl rfl (Nat.le_of_ble_eq_true rfl) dX4_init_22 (fun H locs hP hD hS => ?_)
  obtain ⟨hP, hD⟩ : gW D A [(h0, .inr (4, [.int (0 : Int32), .ref q1, .ref q2, .null])), (q1, .inl (Y 0, 20, .inl (fun _ => 0))), (q2, .inl (Y 0, 20, .inl (fun _ => 0)))] H := ⟨hP, hD⟩
  refine lv_aload_n hx hb dX4_init_25 rfl (lv_at hl 0 rfl) ?_
  refine lv_bipush (v := (20 : Int32)) hx hb dX4_init_26 (by decide) ?_
  refine gNewa (atype := .int) (N' := 20) (a0 := (20, .inl (fun _ => 0))) 0 hx hb f5 rfl rfl hK hP hD hS hA (fun _ => gA0I _ _) (by decide) (by decide) (Nat.le_of_ble_eq_true rfl) (Nat.le_of_ble_eq_true rfl) (Nat.le_of_ble_eq_true rfl) dX4_init_28 (fun q3 H hP hD hS => ?_)
  obtain ⟨hP, hD⟩ : gW D A [(h0, .inr (4, [.int (0 : Int32), .ref q1, .ref q2, .null])), (q1, .inl (Y 0, 20, .inl (fun _ => 0))), (q2, .inl (Y 0, 20, .inl (fun _ => 0))), (q3, .inl (Y 0, 20, .inl (fun _ => 0)))] H := ⟨hP, hD⟩
  refine W.widen (k := 3) (n := 60) (Nat.le_of_ble_eq_true rfl) (Nat.le_of_ble_eq_true rfl) ?_
  refine va_putF (ci := 4) (v := .ref q3) (ty := .array .int) (C := RX4) (T := TX4) (N := 4) hx hb hts f4 tyX4 tyX4_ok nmX4 hown hK hP hD hS 0 rfl rfl 3 (by decide) f8 (fun _ h9 => h9) rfl hin rfl (by decide +kernel) rfl rfl (Nat.le_of_ble_eq_true rfl) dX4_init_30 (fun H locs hP hD hS => ?_)
  obtain ⟨hP, hD⟩ : gW D A [(h0, .inr (4, [.int (0 : Int32), .ref q1, .ref q2, .ref q3])), (q1, .inl (Y 0, 20, .inl (fun _ => 0))), (q2, .inl (Y 0, 20, .inl (fun _ => 0))), (q3, .inl (Y 0, 20, .inl (fun _ => 0)))] H := ⟨hP, hD⟩
  exact W.vret hx hb hr (fun t ht hW => ⟨⟨(), rfl, trivial, q1, q2, q3, by rw [ht]; exact hP, hD⟩, hS.F ht⟩) hS.2.2 dX4_init_33

abbrev rmX8_init : Room := { frames := 1, cells := 5, slots := 192, locals := 24 }
set_option maxHeartbeats 8000000 in
set_option maxRecDepth 100000 in
theorem kX8_init (l : Launch) (D : va_G) (Y : Nat → ClassId) (h0 sz : Nat) : Met l yX8_init wsX8_init rmX8_init (gP0 [.ref h0] sz D Y [(h0, .inr (8, [.int 0, .null, .null, .null, .null, .null]))]) (va_Qv (fun _ : Unit => True) (fun _ t => ∃ q1 q2 q3 q4 q5 : Nat, gB D (va_A [(h0, .inr (8, [.int 0, .null, .null, .null, .null, .null]))] sz) [(h0, .inr (8, [.int (0 : Int32), .ref q1, .ref q2, .ref q3, .ref q4, .ref q5])), (q1, .inl (Y 0, 60, .inl (fun _ => 0))), (q2, .inl (Y 0, 60, .inl (fun _ => 0))), (q3, .inl (Y 0, 60, .inl (fun _ => 0))), (q4, .inl (Y 0, 6, .inl (fun _ => 0))), (q5, .inl (Y 0, 6, .inl (fun _ => 0)))] t) (va_A [(h0, .inr (8, [.int 0, .null, .null, .null, .null, .null]))] sz)) 5 192 (va_A [(h0, .inr (8, [.int 0, .null, .null, .null, .null, .null]))] sz) := by
  refine Met.ofW (cc := cX8_init) (maxL := 1) (ret := none) (by decide +kernel) rfl ?_
  intro p e s m args below meth c s₁ B hml hv
  obtain ⟨rfl, hsz, hP, hK, hAO, hD0⟩ := hv
  have hx := B.exec
  have hb := B.bytes
  have hr := B.returns
  have hts := atoms_spec (ws := wsX8_init) B.pre
  have hown : s.vm.findClass RX8 = some m.cls := findClass_of_methodNamed B.named
  have hlocks := B.notSynchronized
  have hin : meth.name = "<init>" := (name_of_methodNamed B.named B.method).1
  subst hsz
  have hD := hD0.self (sz := s.heap.size)
  have hA : ∀ q : Nat, s.heap.size ≤ q → va_A [(h0, .inr (8, [.int 0, .null, .null, .null, .null, .null]))] s.heap.size q := fun q h => Or.inr h
  generalize va_A [(h0, .inr (8, [.int 0, .null, .null, .null, .null, .null]))] s.heap.size = A at hD hA ⊢
  have hS : va_S A s.heap s.heap [] := va_S.rf
  have hP : va_P D vwCl [(h0, .inr (8, [.int 0, .null, .null, .null, .null, .null]))] s.heap := hP
  have hl := lv_entry ([.ref h0]) (n := 1) (Nat.le_of_ble_eq_true rfl)
  rw [lg_entry_eq]
  generalize (lg_sl ([.ref h0]) ++ List.replicate (1 - (lg_sl ([.ref h0])).length) Slot.unset).toArray = ls at hl ⊢
  have hl : lv_has ls 1 [(0, .ref h0)] := hl
  have f0 := hts (.methodLink RX8 3 objectInit) (by decide +kernel)
  have f1 := hts (.instanceMethod objectInit) (by decide +kernel)
  have f2 := hts (.code objectInit ⟨#[0xb1]⟩ 1 none) (by decide +kernel)
  have f3 := hts (.fieldLink RX8 9 "CoastWatch$Words" "size" "I") (by decide +kernel)
  have f4 : ∀ w ∈ u_ws RX8 TX8 6, w ∈ wsX8_init := by decide +kernel
  have f5 := hts (.arrayClass .int) (by decide +kernel)
  have f6 := hts (.fieldLink RX8 15 "CoastWatch$Words" "informer" "[I") (by decide +kernel)
  have f7 := hts (.fieldLink RX8 19 "CoastWatch$Words" "night" "[I") (by decide +kernel)
  have f8 := hts (.fieldLink RX8 22 "CoastWatch$Words" "cove" "[I") (by decide +kernel)
  have f9 := hts (.fieldLink RX8 25 "CoastWatch$Words" "right" "[I") (by decide +kernel)
  have f10 := hts (.fieldLink RX8 28 "CoastWatch$Words" "wrong" "[I") (by decide +kernel)
  refine lv_aload_n hx hb dX8_init_0 rfl (lv_at hl 0 rfl) ?_
  refine W.objInit hx hb hown f0 f1 f2 rfl (by rw [hml]; exact hl.1) rfl dX8_init_1 (Nat.le_of_ble_eq_true rfl) (Nat.le_of_ble_eq_true rfl) ?_
  refine W.eq (g2 := F0 m 4 ls []) rfl ?_
  refine lv_aload_n hx hb dX8_init_4 rfl (lv_at hl 0 rfl) ?_
  refine lv_iconst (v := (0 : Int32)) hx hb dX8_init_5 (by decide) ?_
  refine va_put (ci := 8) (v := .int (0 : Int32)) (ty := .int) (C := RX8) (T := TX8) (N := 6) hx hb hts f4 tyX8 tyX8_ok nmX8 hown hK hP hD hS 0 rfl rfl 0 (by decide) f3 (fun _ h9 => h9) rfl (by decide +kernel) rfl rfl (Nat.le_of_ble_eq_true rfl) dX8_init_6 (fun H locs hP hD hS => ?_)
  obtain ⟨hP, hD⟩ : gW D A [(h0, .inr (8, [.int (0 : Int32), .null, .null, .null, .null, .null]))] H := ⟨hP, hD⟩
  refine lv_aload_n hx hb dX8_init_9 rfl (lv_at hl 0 rfl) ?_
  refine lv_bipush (v := (60 : Int32)) hx hb dX8_init_10 (by decide) ?_
  refine gNewa (atype := .int) (N' := 60) (a0 := (60, .inl (fun _ => 0))) 0 hx hb f5 rfl rfl hK hP hD hS hA (fun _ => gA0I _ _) (by decide) (by decide) (Nat.le_of_ble_eq_true rfl) (Nat.le_of_ble_eq_true rfl) (Nat.le_of_ble_eq_true rfl) dX8_init_12 (fun q1 H hP hD hS => ?_)
  obtain ⟨hP, hD⟩ : gW D A [(h0, .inr (8, [.int (0 : Int32), .null, .null, .null, .null, .null])), (q1, .inl (Y 0, 60, .inl (fun _ => 0)))] H := ⟨hP, hD⟩
  refine W.widen (k := 1) (n := 60) (Nat.le_of_ble_eq_true rfl) (Nat.le_of_ble_eq_true rfl) ?_
  refine va_putF (ci := 8) (v := .ref q1) (ty := .array .int) (C := RX8) (T := TX8) (N := 6) hx hb hts f4 tyX8 tyX8_ok nmX8 hown hK hP hD hS 0 rfl rfl 1 (by decide) f6 (fun _ h9 => h9) rfl hin rfl (by decide +kernel) rfl rfl (Nat.le_of_ble_eq_true rfl) dX8_init_14 (fun H locs hP hD hS => ?_)
  obtain ⟨hP, hD⟩ : gW D A [(h0, .inr (8, [.int (0 : Int32), .ref q1, .null, .null, .null, .null])), (q1, .inl (Y 0, 60, .inl (fun _ => 0)))] H := ⟨hP, hD⟩
  refine lv_aload_n hx hb dX8_init_17 rfl (lv_at hl 0 rfl) ?_
  refine lv_bipush (v := (60 : Int32)) hx hb dX8_init_18 (by decide) ?_
  refine gNewa (atype := .int) (N' := 60) (a0 := (60, .inl (fun _ => 0))) 0 hx hb f5 rfl rfl hK hP hD hS hA (fun _ => gA0I _ _) (by decide) (by decide) (Nat.le_of_ble_eq_true rfl) (Nat.le_of_ble_eq_true rfl) (Nat.le_of_ble_eq_true rfl) dX8_init_20 (fun q2 H hP hD hS => ?_)
  obtain ⟨hP, hD⟩ : gW D A [(h0, .inr (8, [.int (0 : Int32), .ref q1, .null, .null, .null, .null])), (q1, .inl (Y 0, 60, .inl (fun _ => 0))), (q2, .inl (Y 0, 60, .inl (fun _ => 0)))] H := ⟨hP, hD⟩
  refine W.widen (k := 2) (n := 120) (Nat.le_of_ble_eq_true rfl) (Nat.le_of_ble_eq_true rfl) ?_
  refine va_putF (ci := 8) (v := .ref q2) (ty := .array .int) (C := RX8) (T := TX8) (N := 6) hx hb hts f4 tyX8 tyX8_ok nmX8 hown hK hP hD hS 0 rfl rfl 2 (by decide) f7 (fun _ h9 => h9) rfl hin rfl (by decide +kernel) rfl rfl (Nat.le_of_ble_eq_true rfl) dX8_init_22 (fun H locs hP hD hS => ?_)
  obtain ⟨hP, hD⟩ : gW D A [(h0, .inr (8, [.int (0 : Int32), .ref q1, .ref q2, .null, .null, .null])), (q1, .inl (Y 0, 60, .inl (fun _ => 0))), (q2, .inl (Y 0, 60, .inl (fun _ => 0)))] H := ⟨hP, hD⟩
  refine lv_aload_n hx hb dX8_init_25 rfl (lv_at hl 0 rfl) ?_
  refine lv_bipush (v := (60 : Int32)) hx hb dX8_init_26 (by decide) ?_
  refine gNewa (atype := .int) (N' := 60) (a0 := (60, .inl (fun _ => 0))) 0 hx hb f5 rfl rfl hK hP hD hS hA (fun _ => gA0I _ _) (by decide) (by decide) (Nat.le_of_ble_eq_true rfl) (Nat.le_of_ble_eq_true rfl) (Nat.le_of_ble_eq_true rfl) dX8_init_28 (fun q3 H hP hD hS => ?_)
  obtain ⟨hP, hD⟩ : gW D A [(h0, .inr (8, [.int (0 : Int32), .ref q1, .ref q2, .null, .null, .null])), (q1, .inl (Y 0, 60, .inl (fun _ => 0))), (q2, .inl (Y 0, 60, .inl (fun _ => 0))), (q3, .inl (Y 0, 60, .inl (fun _ => 0)))] H := ⟨hP, hD⟩
  refine W.widen (k := 3) (n := 180) (Nat.le_of_ble_eq_true rfl) (Nat.le_of_ble_eq_true rfl) ?_
  refine va_putF (ci := 8) (v := .ref q3) (ty := .array .int) (C := RX8) (T := TX8) (N := 6) hx hb hts f4 tyX8 tyX8_ok nmX8 hown hK hP hD hS 0 rfl rfl 3 (by decide) f8 (fun _ h9 => h9) rfl hin rfl (by decide +kernel) rfl rfl (Nat.le_of_ble_eq_true rfl) dX8_init_30 (fun H locs hP hD hS => ?_)
  obtain ⟨hP, hD⟩ : gW D A [(h0, .inr (8, [.int (0 : Int32), .ref q1, .ref q2, .ref q3, .null, .null])), (q1, .inl (Y 0, 60, .inl (fun _ => 0))), (q2, .inl (Y 0, 60, .inl (fun _ => 0))), (q3, .inl (Y 0, 60, .inl (fun _ => 0)))] H := ⟨hP, hD⟩
  refine lv_aload_n hx hb dX8_init_33 rfl (lv_at hl 0 rfl) ?_
  refine lv_bipush (v := (6 : Int32)) hx hb dX8_init_34 (by decide) ?_
  refine gNewa (atype := .int) (N' := 6) (a0 := (6, .inl (fun _ => 0))) 0 hx hb f5 rfl rfl hK hP hD hS hA (fun _ => gA0I _ _) (by decide) (by decide) (Nat.le_of_ble_eq_true rfl) (Nat.le_of_ble_eq_true rfl) (Nat.le_of_ble_eq_true rfl) dX8_init_36 (fun q4 H hP hD hS => ?_)
  obtain ⟨hP, hD⟩ : gW D A [(h0, .inr (8, [.int (0 : Int32), .ref q1, .ref q2, .ref q3, .null, .null])), (q1, .inl (Y 0, 60, .inl (fun _ => 0))), (q2, .inl (Y 0, 60, .inl (fun _ => 0))), (q3, .inl (Y 0, 60, .inl (fun _ => 0))), (q4, .inl (Y 0, 6, .inl (fun _ => 0)))] H := ⟨hP, hD⟩
  refine W.widen (k := 4) (n := 186) (Nat.le_of_ble_eq_true rfl) (Nat.le_of_ble_eq_true rfl) ?_
  refine va_putF (ci := 8) (v := .ref q4) (ty := .array .int) (C := RX8) (T := TX8) (N := 6) hx hb hts f4 tyX8 tyX8_ok nmX8 hown hK hP hD hS 0 rfl rfl 4 (by decide) f9 (fun _ h9 => h9) rfl hin rfl (by decide +kernel) rfl rfl (Nat.le_of_ble_eq_true rfl) dX8_init_38 (fun H locs hP hD hS => ?_)
  obtain ⟨hP, hD⟩ : gW D A [(h0, .inr (8, [.int (0 : Int32), .ref q1, .ref q2, .ref q3, .ref q4, .null])), (q1, .inl (Y 0, 60, .inl (fun _ => 0))), (q2, .inl (Y 0, 60, .inl (fun _ => 0))), (q3, .inl (Y 0, 60, .inl (fun _ => 0))), (q4, .inl (Y 0, 6, .inl (fun _ => 0)))] H := ⟨hP, hD⟩
  refine lv_aload_n hx hb dX8_init_41 rfl (lv_at hl 0 rfl) ?_
  refine lv_bipush (v := (6 : Int32)) hx hb dX8_init_42 (by decide) ?_
  refine gNewa (atype := .int) (N' := 6) (a0 := (6, .inl (fun _ => 0))) 0 hx hb f5 rfl rfl hK hP hD hS hA (fun _ => gA0I _ _) (by decide) (by decide) (Nat.le_of_ble_eq_true rfl) (Nat.le_of_ble_eq_true rfl) (Nat.le_of_ble_eq_true rfl) dX8_init_44 (fun q5 H hP hD hS => ?_)
  obtain ⟨hP, hD⟩ : gW D A [(h0, .inr (8, [.int (0 : Int32), .ref q1, .ref q2, .ref q3, .ref q4, .null])), (q1, .inl (Y 0, 60, .inl (fun _ => 0))), (q2, .inl (Y 0, 60, .inl (fun _ => 0))), (q3, .inl (Y 0, 60, .inl (fun _ => 0))), (q4, .inl (Y 0, 6, .inl (fun _ => 0))), (q5, .inl (Y 0, 6, .inl (fun _ => 0)))] H := ⟨hP, hD⟩
  refine W.widen (k := 5) (n := 192) (Nat.le_of_ble_eq_true rfl) (Nat.le_of_ble_eq_true rfl) ?_
  refine va_putF (ci := 8) (v := .ref q5) (ty := .array .int) (C := RX8) (T := TX8) (N := 6) hx hb hts f4 tyX8 tyX8_ok nmX8 hown hK hP hD hS 0 rfl rfl 5 (by decide) f10 (fun _ h9 => h9) rfl hin rfl (by decide +kernel) rfl rfl (Nat.le_of_ble_eq_true rfl) dX8_init_46 (fun H locs hP hD hS => ?_)
  obtain ⟨hP, hD⟩ : gW D A [(h0, .inr (8, [.int (0 : Int32), .ref q1, .ref q2, .ref q3, .ref q4, .ref q5])), (q1, .inl (Y 0, 60, .inl (fun _ => 0))), (q2, .inl (Y 0, 60, .inl (fun _ => 0))), (q3, .inl (Y 0, 60, .inl (fun _ => 0))), (q4, .inl (Y 0, 6, .inl (fun _ => 0))), (q5, .inl (Y 0, 6, .inl (fun _ => 0)))] H := ⟨hP, hD⟩
  exact W.vret hx hb hr (fun t ht hW => ⟨⟨(), rfl, trivial, q1, q2, q3, q4, q5, by rw [ht]; exact hP, hD⟩, hS.F ht⟩) hS.2.2 dX8_init_49

abbrev rmX6_init : Room := { frames := 1, cells := 3, slots := 102, locals := 24 }
set_option maxHeartbeats 8000000 in
set_option maxRecDepth 100000 in
theorem kX6_init (l : Launch) (D : va_G) (Y : Nat → ClassId) (h0 sz : Nat) : Met l yX6_init wsX6_init rmX6_init (gP0 [.ref h0] sz D Y [(h0, .inr (6, [.null, .null, .null]))]) (va_Qv (fun _ : Unit => True) (fun _ t => ∃ q1 q2 q3 : Nat, gB D (va_A [(h0, .inr (6, [.null, .null, .null]))] sz) [(h0, .inr (6, [.ref q1, .ref q2, .ref q3])), (q1, .inl (Y 0, 34, .inl (fun _ => 0))), (q2, .inl (Y 0, 34, .inl (fun _ => 0))), (q3, .inl (Y 0, 34, .inl (fun _ => 0)))] t) (va_A [(h0, .inr (6, [.null, .null, .null]))] sz)) 3 102 (va_A [(h0, .inr (6, [.null, .null, .null]))] sz) := by
  refine Met.ofW (cc := cX6_init) (maxL := 1) (ret := none) (by decide +kernel) rfl ?_
  intro p e s m args below meth c s₁ B hml hv
  obtain ⟨rfl, hsz, hP, hK, hAO, hD0⟩ := hv
  have hx := B.exec
  have hb := B.bytes
  have hr := B.returns
  have hts := atoms_spec (ws := wsX6_init) B.pre
  have hown : s.vm.findClass RX6 = some m.cls := findClass_of_methodNamed B.named
  have hlocks := B.notSynchronized
  have hin : meth.name = "<init>" := (name_of_methodNamed B.named B.method).1
  subst hsz
  have hD := hD0.self (sz := s.heap.size)
  have hA : ∀ q : Nat, s.heap.size ≤ q → va_A [(h0, .inr (6, [.null, .null, .null]))] s.heap.size q := fun q h => Or.inr h
  generalize va_A [(h0, .inr (6, [.null, .null, .null]))] s.heap.size = A at hD hA ⊢
  have hS : va_S A s.heap s.heap [] := va_S.rf
  have hP : va_P D vwCl [(h0, .inr (6, [.null, .null, .null]))] s.heap := hP
  have hl := lv_entry ([.ref h0]) (n := 1) (Nat.le_of_ble_eq_true rfl)
  rw [lg_entry_eq]
  generalize (lg_sl ([.ref h0]) ++ List.replicate (1 - (lg_sl ([.ref h0])).length) Slot.unset).toArray = ls at hl ⊢
  have hl : lv_has ls 1 [(0, .ref h0)] := hl
  have f0 := hts (.methodLink RX6 3 objectInit) (by decide +kernel)
  have f1 := hts (.instanceMethod objectInit) (by decide +kernel)
  have f2 := hts (.code objectInit ⟨#[0xb1]⟩ 1 none) (by decide +kernel)
  have f3 := hts (.arrayClass .int) (by decide +kernel)
  have f4 := hts (.fieldLink RX6 9 "CoastWatch$Seasons" "least" "[I") (by decide +kernel)
  have f5 : ∀ w ∈ u_ws RX6 TX6 3, w ∈ wsX6_init := by decide +kernel
  have f6 := hts (.fieldLink RX6 15 "CoastWatch$Seasons" "most" "[I") (by decide +kernel)
  have f7 := hts (.fieldLink RX6 18 "CoastWatch$Seasons" "byLaw" "[I") (by decide +kernel)
  refine lv_aload_n hx hb dX6_init_0 rfl (lv_at hl 0 rfl) ?_
  refine W.objInit hx hb hown f0 f1 f2 rfl (by rw [hml]; exact hl.1) rfl dX6_init_1 (Nat.le_of_ble_eq_true rfl) (Nat.le_of_ble_eq_true rfl) ?_
  refine W.eq (g2 := F0 m 4 ls []) rfl ?_
  refine lv_aload_n hx hb dX6_init_4 rfl (lv_at hl 0 rfl) ?_
  refine lv_bipush (v := (34 : Int32)) hx hb dX6_init_5 (by decide) ?_
  refine gNewa (atype := .int) (N' := 34) (a0 := (34, .inl (fun _ => 0))) 0 hx hb f3 rfl rfl hK hP hD hS hA (fun _ => gA0I _ _) (by decide) (by decide) (Nat.le_of_ble_eq_true rfl) (Nat.le_of_ble_eq_true rfl) (Nat.le_of_ble_eq_true rfl) dX6_init_7 (fun q1 H hP hD hS => ?_)
  obtain ⟨hP, hD⟩ : gW D A [(h0, .inr (6, [.null, .null, .null])), (q1, .inl (Y 0, 34, .inl (fun _ => 0)))] H := ⟨hP, hD⟩
  refine W.widen (k := 1) (n := 34) (Nat.le_of_ble_eq_true rfl) (Nat.le_of_ble_eq_true rfl) ?_
  refine va_putF (ci := 6) (v := .ref q1) (ty := .array .int) (C := RX6) (T := TX6) (N := 3) hx hb hts f5 tyX6 tyX6_ok nmX6 hown hK hP hD hS 0 rfl rfl 0 (by decide) f4 (fun _ h9 => h9) rfl hin rfl (by decide +kernel) rfl rfl (Nat.le_of_ble_eq_true rfl) dX6_init_9 (fun H locs hP hD hS => ?_)
  obtain ⟨hP, hD⟩ : gW D A [(h0, .inr (6, [.ref q1, .null, .null])), (q1, .inl (Y 0, 34, .inl (fun _ => 0)))] H := ⟨hP, hD⟩
  refine lv_aload_n hx hb dX6_init_12 rfl (lv_at hl 0 rfl) ?_
  refine lv_bipush (v := (34 : Int32)) hx hb dX6_init_13 (by decide) ?_
  refine gNewa (atype := .int) (N' := 34) (a0 := (34, .inl (fun _ => 0))) 0 hx hb f3 rfl rfl hK hP hD hS hA (fun _ => gA0I _ _) (by decide) (by decide) (Nat.le_of_ble_eq_true rfl) (Nat.le_of_ble_eq_true rfl) (Nat.le_of_ble_eq_true rfl) dX6_init_15 (fun q2 H hP hD hS => ?_)
  obtain ⟨hP, hD⟩ : gW D A [(h0, .inr (6, [.ref q1, .null, .null])), (q1, .inl (Y 0, 34, .inl (fun _ => 0))), (q2, .inl (Y 0, 34, .inl (fun _ => 0)))] H := ⟨hP, hD⟩
  refine W.widen (k := 2) (n := 68) (Nat.le_of_ble_eq_true rfl) (Nat.le_of_ble_eq_true rfl) ?_
  refine va_putF (ci := 6) (v := .ref q2) (ty := .array .int) (C := RX6) (T := TX6) (N := 3) hx hb hts f5 tyX6 tyX6_ok nmX6 hown hK hP hD hS 0 rfl rfl 1 (by decide) f6 (fun _ h9 => h9) rfl hin rfl (by decide +kernel) rfl rfl (Nat.le_of_ble_eq_true rfl) dX6_init_17 (fun H locs hP hD hS => ?_)
  obtain ⟨hP, hD⟩ : gW D A [(h0, .inr (6, [.ref q1, .ref q2, .null])), (q1, .inl (Y 0, 34, .inl (fun _ => 0))), (q2, .inl (Y 0, 34, .inl (fun _ => 0)))] H := ⟨hP, hD⟩
  refine lv_aload_n hx hb dX6_init_20 rfl (lv_at hl 0 rfl) ?_
  refine lv_bipush (v := (34 : Int32)) hx hb dX6_init_21 (by decide) ?_
  refine gNewa (atype := .int) (N' := 34) (a0 := (34, .inl (fun _ => 0))) 0 hx hb f3 rfl rfl hK hP hD hS hA (fun _ => gA0I _ _) (by decide) (by decide) (Nat.le_of_ble_eq_true rfl) (Nat.le_of_ble_eq_true rfl) (Nat.le_of_ble_eq_true rfl) dX6_init_23 (fun q3 H hP hD hS => ?_)
  obtain ⟨hP, hD⟩ : gW D A [(h0, .inr (6, [.ref q1, .ref q2, .null])), (q1, .inl (Y 0, 34, .inl (fun _ => 0))), (q2, .inl (Y 0, 34, .inl (fun _ => 0))), (q3, .inl (Y 0, 34, .inl (fun _ => 0)))] H := ⟨hP, hD⟩
  refine W.widen (k := 3) (n := 102) (Nat.le_of_ble_eq_true rfl) (Nat.le_of_ble_eq_true rfl) ?_
  refine va_putF (ci := 6) (v := .ref q3) (ty := .array .int) (C := RX6) (T := TX6) (N := 3) hx hb hts f5 tyX6 tyX6_ok nmX6 hown hK hP hD hS 0 rfl rfl 2 (by decide) f7 (fun _ h9 => h9) rfl hin rfl (by decide +kernel) rfl rfl (Nat.le_of_ble_eq_true rfl) dX6_init_25 (fun H locs hP hD hS => ?_)
  obtain ⟨hP, hD⟩ : gW D A [(h0, .inr (6, [.ref q1, .ref q2, .ref q3])), (q1, .inl (Y 0, 34, .inl (fun _ => 0))), (q2, .inl (Y 0, 34, .inl (fun _ => 0))), (q3, .inl (Y 0, 34, .inl (fun _ => 0)))] H := ⟨hP, hD⟩
  exact W.vret hx hb hr (fun t ht hW => ⟨⟨(), rfl, trivial, q1, q2, q3, by rw [ht]; exact hP, hD⟩, hS.F ht⟩) hS.2.2 dX6_init_28

abbrev rmX2_init : Room := { frames := 1, cells := 1, slots := 6, locals := 24 }
set_option maxHeartbeats 8000000 in
set_option maxRecDepth 100000 in
theorem kX2_init (l : Launch) (D : va_G) (Y : Nat → ClassId) (h0 sz : Nat) : Met l yX2_init wsX2_init rmX2_init (gP0 [.ref h0] sz D Y [(h0, .inr (2, [.null, .long 0, .long 0]))]) (va_Qv (fun _ : Unit => True) (fun _ t => ∃ q1 : Nat, gB D (va_A [(h0, .inr (2, [.null, .long 0, .long 0]))] sz) [(h0, .inr (2, [.ref q1, .long (0 : Int64), .long (1 : Int64)])), (q1, .inl (Y 0, 6, .inl (fun _ => 0)))] t) (va_A [(h0, .inr (2, [.null, .long 0, .long 0]))] sz)) 1 6 (va_A [(h0, .inr (2, [.null, .long 0, .long 0]))] sz) := by
  refine Met.ofW (cc := cX2_init) (maxL := 1) (ret := none) (by decide +kernel) rfl ?_
  intro p e s m args below meth c s₁ B hml hv
  obtain ⟨rfl, hsz, hP, hK, hAO, hD0⟩ := hv
  have hx := B.exec
  have hb := B.bytes
  have hr := B.returns
  have hts := atoms_spec (ws := wsX2_init) B.pre
  have hown : s.vm.findClass RX2 = some m.cls := findClass_of_methodNamed B.named
  have hlocks := B.notSynchronized
  have hin : meth.name = "<init>" := (name_of_methodNamed B.named B.method).1
  subst hsz
  have hD := hD0.self (sz := s.heap.size)
  have hA : ∀ q : Nat, s.heap.size ≤ q → va_A [(h0, .inr (2, [.null, .long 0, .long 0]))] s.heap.size q := fun q h => Or.inr h
  generalize va_A [(h0, .inr (2, [.null, .long 0, .long 0]))] s.heap.size = A at hD hA ⊢
  have hS : va_S A s.heap s.heap [] := va_S.rf
  have hP : va_P D vwCl [(h0, .inr (2, [.null, .long 0, .long 0]))] s.heap := hP
  have hl := lv_entry ([.ref h0]) (n := 1) (Nat.le_of_ble_eq_true rfl)
  rw [lg_entry_eq]
  generalize (lg_sl ([.ref h0]) ++ List.replicate (1 - (lg_sl ([.ref h0])).length) Slot.unset).toArray = ls at hl ⊢
  have hl : lv_has ls 1 [(0, .ref h0)] := hl
  have f0 := hts (.methodLink RX2 3 objectInit) (by decide +kernel)
  have f1 := hts (.instanceMethod objectInit) (by decide +kernel)
  have f2 := hts (.code objectInit ⟨#[0xb1]⟩ 1 none) (by decide +kernel)
  have f3 := hts (.arrayClass .int) (by decide +kernel)
  have f4 := hts (.fieldLink RX2 9 "CoastWatch$Game" "worths" "[I") (by decide +kernel)
  have f5 : ∀ w ∈ u_ws RX2 TX2 3, w ∈ wsX2_init := by decide +kernel
  have f6 := hts (.fieldLink RX2 15 "CoastWatch$Game" "above" "J") (by decide +kernel)
  have f7 := hts (.fieldLink RX2 19 "CoastWatch$Game" "below" "J") (by decide +kernel)
  refine lv_aload_n hx hb dX2_init_0 rfl (lv_at hl 0 rfl) ?_
  refine W.objInit hx hb hown f0 f1 f2 rfl (by rw [hml]; exact hl.1) rfl dX2_init_1 (Nat.le_of_ble_eq_true rfl) (Nat.le_of_ble_eq_true rfl) ?_
  refine W.eq (g2 := F0 m 4 ls []) rfl ?_
  refine lv_aload_n hx hb dX2_init_4 rfl (lv_at hl 0 rfl) ?_
  refine lv_bipush (v := (6 : Int32)) hx hb dX2_init_5 (by decide) ?_
  refine gNewa (atype := .int) (N' := 6) (a0 := (6, .inl (fun _ => 0))) 0 hx hb f3 rfl rfl hK hP hD hS hA (fun _ => gA0I _ _) (by decide) (by decide) (Nat.le_of_ble_eq_true rfl) (Nat.le_of_ble_eq_true rfl) (Nat.le_of_ble_eq_true rfl) dX2_init_7 (fun q1 H hP hD hS => ?_)
  obtain ⟨hP, hD⟩ : gW D A [(h0, .inr (2, [.null, .long 0, .long 0])), (q1, .inl (Y 0, 6, .inl (fun _ => 0)))] H := ⟨hP, hD⟩
  refine W.widen (k := 1) (n := 6) (Nat.le_of_ble_eq_true rfl) (Nat.le_of_ble_eq_true rfl) ?_
  refine va_putF (ci := 2) (v := .ref q1) (ty := .array .int) (C := RX2) (T := TX2) (N := 3) hx hb hts f5 tyX2 tyX2_ok nmX2 hown hK hP hD hS 0 rfl rfl 0 (by decide) f4 (fun _ h9 => h9) rfl hin rfl (by decide +kernel) rfl rfl (Nat.le_of_ble_eq_true rfl) dX2_init_9 (fun H locs hP hD hS => ?_)
  obtain ⟨hP, hD⟩ : gW D A [(h0, .inr (2, [.ref q1, .long 0, .long 0])), (q1, .inl (Y 0, 6, .inl (fun _ => 0)))] H := ⟨hP, hD⟩
  refine lv_aload_n hx hb dX2_init_12 rfl (lv_at hl 0 rfl) ?_
  refine lv_lconst (v := (0 : Int64)) hx hb dX2_init_13 (by decide) ?_
  refine va_put (ci := 2) (v := .long (0 : Int64)) (ty := .long) (C := RX2) (T := TX2) (N := 3) hx hb hts f5 tyX2 tyX2_ok nmX2 hown hK hP hD hS 0 rfl rfl 1 (by decide) f6 (fun _ h9 => h9) rfl (by decide +kernel) rfl rfl (Nat.le_of_ble_eq_true rfl) dX2_init_14 (fun H locs hP hD hS => ?_)
  obtain ⟨hP, hD⟩ : gW D A [(h0, .inr (2, [.ref q1, .long (0 : Int64), .long 0])), (q1, .inl (Y 0, 6, .inl (fun _ => 0)))] H := ⟨hP, hD⟩
  refine lv_aload_n hx hb dX2_init_17 rfl (lv_at hl 0 rfl) ?_
  refine lv_lconst (v := (1 : Int64)) hx hb dX2_init_18 (by decide) ?_
  refine va_put (ci := 2) (v := .long (1 : Int64)) (ty := .long) (C := RX2) (T := TX2) (N := 3) hx hb hts f5 tyX2 tyX2_ok nmX2 hown hK hP hD hS 0 rfl rfl 2 (by decide) f7 (fun _ h9 => h9) rfl (by decide +kernel) rfl rfl (Nat.le_of_ble_eq_true rfl) dX2_init_19 (fun H locs hP hD hS => ?_)
  obtain ⟨hP, hD⟩ : gW D A [(h0, .inr (2, [.ref q1, .long (0 : Int64), .long (1 : Int64)])), (q1, .inl (Y 0, 6, .inl (fun _ => 0)))] H := ⟨hP, hD⟩
  exact W.vret hx hb hr (fun t ht hW => ⟨⟨(), rfl, trivial, q1, by rw [ht]; exact hP, hD⟩, hS.F ht⟩) hS.2.2 dX2_init_22
