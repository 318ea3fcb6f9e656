/-! making: arrays, arrays of arrays, what a constructor's start wants -/
def gAO (U : State) : Prop := (Cond.arrayOver (.array .int)).before #[] U = true
theorem gAO.of {A : Array Value} {U : State} (h : (Cond.arrayOver (.array .int)).before A U = true) : gAO U := h
theorem gAO.use {A : Array Value} {U : State} (h : gAO U) : (Cond.arrayOver (.array .int)).before A U = true := h
theorem gAO.moved {u U : State} (hvm : u.vm.Alike U.vm) (h : gAO u) : gAO U := by
  have e : (Cond.arrayOver (.array .int)).before #[] (u.setVm U.vm) = (Cond.arrayOver (.array .int)).before #[] u := Cond.arrayOver_setVmC hvm _
  have h1 : (Cond.arrayOver (.array .int)).before #[] (u.setVm U.vm) = true := e.trans h
  exact h1
theorem gA0I (cA : ClassId) (N : Nat) : vp_cell cA (N, .inl (fun _ => 0)) = arrV cA N (fun _ => defaultValue .int) := rfl
theorem gA0Z (cA : ClassId) (N : Nat) : vp_cell cA (N, .inl (fun _ => 0)) = arrV cA N (fun _ => defaultValue .boolean) := rfl
theorem gA0J (cA : ClassId) (N : Nat) : vp_cell cA (N, .inr (.inl (fun _ => 0))) = arrV cA N (fun _ => defaultValue .long) := rfl
def iv4 (v : Int32) : Nat → Int32 := upd (upd (upd (upd (fun _ => 0) (0 : Int32).toNatClampNeg v) (1 : Int32).toNatClampNeg v) (2 : Int32).toNatClampNeg v) (3 : Int32).toNatClampNeg v
def iv6 (v : Int32) : Nat → Int32 := upd (upd (iv4 v) (4 : Int32).toNatClampNeg v) (5 : Int32).toNatClampNeg v
abbrev gB (D : va_G) (A : Nat → Prop) (ws : va_W) (t : State) : Prop := va_P D vwCl ws t.heap ∧ va_D A ws
abbrev gW (D : va_G) (A : Nat → Prop) (ws : va_W) (H : Heap) : Prop := va_P D vwCl ws H ∧ va_D A ws
def gP0 (av : List Value) (sz : Nat) (D : va_G) (Y : Nat → ClassId) (ws : va_W) : Array Value → State → Prop := va_Pc av (fun U => U.heap.size = sz ∧ va_P D vwCl ws U.heap ∧ va_K D vwCl (tY Y) U ∧ gAO U ∧ va_D (fun _ => True) ws)
theorem gP0_blind {av : List Value} {sz : Nat} {D : va_G} {Y : Nat → ClassId} {ws : va_W} : FrameBlind (gP0 av sz D Y ws) := fun a U g mk q => ⟨q.1, q.2.1, q.2.2.1, va_K.moved (u := U) (U := U.calling g mk a) (Vm.Alike.refl U.vm) q.2.2.2.1, gAO.moved (u := U) (U := U.calling g mk a) (Vm.Alike.refl U.vm) q.2.2.2.2.1, q.2.2.2.2.2⟩
abbrev gNw (i : Nat) (y : MethodName) (U : State) : Prop := va_Nw (.methodLinkNest RX9 i y RX9) U
def gP9 (av : List Value) (sz : Nat) (D : va_G) (Y : Nat → ClassId) (ws : va_W) : Array Value → State → Prop := va_Pc av (fun U => U.heap.size = sz ∧ va_P D vwCl ws U.heap ∧ va_K D vwCl (tY Y) U ∧ gAO U ∧ va_D (fun _ => True) ws ∧ gNw 45 yX0_init U ∧ gNw 52 yX3_init U ∧ gNw 59 yX5_init U ∧ gNw 66 yX4_init U ∧ gNw 73 yX8_init U ∧ gNw 80 yX6_init U ∧ gNw 87 yX2_init U)
theorem gNw_call {i : Nat} {y : MethodName} {U : State} {g : JFrame} {mk : MethodId} {a : Array Value} (h : gNw i y U) : gNw i y (U.calling g mk a) := va_Nw.same rfl (rfl : U.vm = (U.calling g mk a).vm) h
theorem gP9_blind {av : List Value} {sz : Nat} {D : va_G} {Y : Nat → ClassId} {ws : va_W} : FrameBlind (gP9 av sz D Y ws) := fun a U g mk q => by
  obtain ⟨q0, q1, qP, qK, qO, qD, n1, n2, n3, n4, n5, n6, n7⟩ := q
  exact ⟨q0, q1, qP, va_K.moved (u := U) (U := U.calling g mk a) (Vm.Alike.refl U.vm) qK, gAO.moved (u := U) (U := U.calling g mk a) (Vm.Alike.refl U.vm) qO, qD, va_Nw.same rfl rfl n1, va_Nw.same rfl rfl n2, va_Nw.same rfl rfl n3, va_Nw.same rfl rfl n4, va_Nw.same rfl rfl n5, va_Nw.same rfl rfl n6, va_Nw.same rfl rfl n7⟩
theorem g_II : "[" ++ (FieldType.array .int).toString = "[[I" := by decide +kernel
theorem g_outer (c : ClassId) (N h0 : Nat) : ∀ i : Nat, Jvm.Free.Multi.outerC c N h0 i = arrV c N (fun j => va_rf (if j < i then some (h0 + 1 + j) else none))
  | 0 => by
    show ({ cls := c, slots := Array.replicate N .null, vm := .none } : Cell) = _
    rw [arrV_new]
    refine congrArg (arrV c N) (funext fun j => ?_)
    simp [va_rf]
  | i + 1 => by
    show (Jvm.Free.Multi.outerC c N h0 i).setSlot i (.ref (h0 + 1 + i)) = _
    rw [g_outer c N h0 i, arrV_store]
    refine congrArg (arrV c N) (funext fun j => ?_)
    by_cases e : j = i
    · subst e
      simp [updV, va_rf]
    · by_cases h : j < i
      · simp [updV, e, h, Nat.lt_succ_of_lt h]
      · simp [updV, e, h, show ¬ j < i + 1 by omega]
def gRow (Y : Nat → ClassId) (q K : Nat) (i : Nat) : Nat × va_E := (q + 1 + i, .inl (Y 0, K, .inl (fun _ => 0)))
def gRows (Y : Nat → ClassId) (q N K : Nat) : va_W := (q, .inl (Y 3, N, .inr (.inr (.inr (.inr (fun j => if j < N then some (q + 1 + j) else none)))))) :: (List.range N).map (gRow Y q K)
theorem gRows_at {Y : Nat → ClassId} {q N K k : Nat} {x : Nat × va_E} (h : (gRows Y q N K)[k + 1]? = some x) : k < N ∧ x = gRow Y q K k := by
  have h1 : ((List.range N).map (gRow Y q K))[k]? = some x := h
  rw [List.getElem?_map] at h1
  by_cases hk : k < N
  · rw [List.getElem?_range hk] at h1
    exact ⟨hk, (Option.some.inj h1).symm⟩
  · rw [List.getElem?_eq_none (by rw [List.length_range]; omega)] at h1
    cases h1
theorem gDnew {A : Nat → Prop} {ws new : va_W} {D : va_G} {cl : List vw_C} {H : Heap} {z : Nat} (hz : z = H.size) (hD : va_D A ws) (hP : va_P D cl ws H) (hnew : ∀ k x, new[k]? = some x → x.1 = z + k) (hA : ∀ q, z ≤ q → A q) : va_D A (ws ++ new) := by
  subst hz
  refine va_D.app hD ⟨fun i j p q hp hq e => ?_, fun k q h => hA _ ?_⟩ (fun i j p q hp hq => ?_)
  · have h1 := hnew i p hp
    have h2 := hnew j q hq
    omega
  · have h1 := hnew k q h
    omega
  · have h1 := (hP i p hp).lt
    have h2 := hnew j q hq
    omega
section GMK
variable {p : Program} {l : Launch} {e : Env} {R : Room} {s : State} {m : MethodId} {args : Array Value} {below : List Frame} {meth : Method} {c : Code} {H : Heap} {locs : List Loc} {cells slots : Nat} {Q : State → Prop}
variable {cc : ByteArray} {pc : Nat} {ls : Array Slot} {rest : List Value} {D : va_G} {cl : List vw_C} {A : Nat → Prop} {ws : va_W} {H0 : Heap} {Y : Nat → ClassId}
theorem gNewa {atype : ArrayType} {ty : FieldType} {N' : Nat} {a0 : vp_A} {n : Int32} (t0 : Nat) (hexec : p.tables.exec = Jvm.exec) (hb : c.code = cc) (harr : (Cond.arrayClass (newarray.typeOf atype)).before args s = true) (hty : newarray.typeOf atype = ty) (hY : (tY Y)[t0]? = some (Y t0, ty)) (hK : va_K D cl (tY Y) s) (hP : va_P D cl ws H) (hD : va_D A ws) (hS : va_S A H0 H locs) (hA : ∀ q, H0.size ≤ q → A q)
    (ha : ∀ cA : ClassId, vp_cell cA a0 = arrV cA N' (fun _ => defaultValue ty)) (hn : ¬ n < 0) (hN : n.toNatClampNeg = N') (hbytes : N' * componentBytes ty ≤ 536870912) (hcells : cells + 1 ≤ R.cells) (hslots : slots + N' ≤ R.slots) (hdg : decode cc pc = .ok (.newarray atype, 2))
    (kk : ∀ (q : Nat) (H1 : Heap), va_P D cl (ws ++ [(q, .inl (Y t0, a0))]) H1 → va_D A (ws ++ [(q, .inl (Y t0, a0))]) → va_S A H0 H1 locs →
      W p l e R s m args below meth c H1 locs (cells + 1) (slots + N') Q (F0 m (pc + 2) ls (.ref q :: rest))) : W p l e R s m args below meth c H locs cells slots Q (F0 m pc ls (.int n :: rest)) := by
  refine va_newa (ty := ty) hexec hb harr hty hK hP hD hS hA ha hn hN hbytes hcells hslots hdg (fun q cA H1 hK1 hP1 hD1 hS1 => ?_)
  have h1 : va_RA s (Y t0) ty := (hK.2 t0 _ hY).2
  have h2 : va_RA s cA ty := (hK1.2 4 (cA, ty) rfl).2
  have e : cA = Y t0 := by
    subst hty
    cases atype <;> exact Option.some.inj (h2.symm.trans h1)
  subst e
  exact kk q H1 hP1 hD1 hS1
theorem gMna {own : String} {index N K : Nat} {n k : Int32} (hexec : p.tables.exec = Jvm.exec) (hb : c.code = cc) (hown : s.vm.findClass own = some m.cls) (hclink : (Cond.classLink own index "[[I").before args s = true) (hAO : gAO s) (harr : (Cond.arrayClass .int).before args s = true) (hK : va_K D cl (tY Y) s) (hP : va_P D cl ws H) (hD : va_D A ws) (hS : va_S A H0 H locs) (hA : ∀ q, H0.size ≤ q → A q)
    (hn : ¬ n < 0) (hk : ¬ k < 0) (hN : n.toNatClampNeg = N) (hM : k.toNatClampNeg = K) (hb1 : N * 4 ≤ 536870912) (hb2 : K * 4 ≤ 536870912) (hcells : cells + (1 + N) ≤ R.cells) (hslots : slots + (N + N * K) ≤ R.slots) (hdg : decode cc pc = .ok (.multianewarray index 2, 4))
    (kk : ∀ (q : Nat) (H1 : Heap), va_P D cl (ws ++ gRows Y q N K) H1 → va_D A (ws ++ gRows Y q N K) → va_S A H0 H1 locs →
      W p l e R s m args below meth c H1 locs (cells + 1 + N) (slots + N + N * K) Q (F0 m (pc + 4) ls (.ref q :: rest))) : W p l e R s m args below meth c H locs cells slots Q (F0 m pc ls (.int k :: .int n :: rest)) := by
  subst hN
  subst hM
  intro T hT Xs
  obtain ⟨vm₁, cA, comp, -, fA, fC, hO, -, X', step⟩ := Xs.multianewarray2F (ty := .int) hexec hown (by rw [g_II]; exact hclink) hAO.use harr (g := F0 m pc ls (.int k :: .int n :: rest)) rfl (by rw [hb]; exact hdg) rfl hn hk hb1 hb2 (by omega) rfl rfl hcells hslots
  have eA : cA = Y 3 := Option.some.inj (fA.symm.trans (hK.2 3 (Y 3, .array .int) rfl).2)
  have eC : comp = Y 0 := Option.some.inj (fC.symm.trans (hK.2 0 (Y 0, .int) rfl).2)
  subst eA
  subst eC
  generalize hF : Jvm.Free.Multi.fill (T.setVm vm₁) (Y 3) (Y 0) n.toNatClampNeg k.toNatClampNeg (defaultValue .int) n.toNatClampNeg = F at X' step
  have hTh : (T.setVm vm₁).heap = H := hT
  obtain ⟨f1, f2, -, -⟩ := Jvm.Free.Multi.fill_facts (T.setVm vm₁) (Y 3) (Y 0) n.toNatClampNeg k.toNatClampNeg (defaultValue .int) n.toNatClampNeg
  rw [hF, hTh] at f1 f2
  have hold : ∀ x : Nat, x < H.size → F.heap[x]? = H[x]? := fun x hx => by
    have := Jvm.Free.Multi.fill_old (T.setVm vm₁) (Y 3) (Y 0) n.toNatClampNeg k.toNatClampNeg (defaultValue .int) (a := x) (by rw [hTh]; exact hx) n.toNatClampNeg
    rw [hF, hTh] at this
    exact this
  have hrow : ∀ j : Nat, j < n.toNatClampNeg → F.heap[H.size + 1 + j]? = some (vp_cell (Y 0) (k.toNatClampNeg, .inl (fun _ => 0))) := fun j hj => by
    have := Jvm.Free.Multi.fill_inner (T.setVm vm₁) (Y 3) (Y 0) n.toNatClampNeg k.toNatClampNeg (defaultValue .int) n.toNatClampNeg j hj
    rw [hF, hTh] at this
    rw [this]
    show some ({ cls := Y 0, slots := Array.replicate k.toNatClampNeg (.int 0), vm := .none } : Cell) = _
    rw [arrV_new]
    rfl
  rw [g_outer] at f2
  have hP0 : va_P D cl ws F.heap := hP.kept (fun k9 x hx => hold x.1 ((hP k9 x hx).lt))
  have hnew : va_P D cl (gRows Y H.size n.toNatClampNeg k.toNatClampNeg) F.heap := fun k9 x hx => by
    cases k9 with
    | zero =>
      have hx : some _ = some x := hx
      cases hx
      exact f2
    | succ k9 =>
      obtain ⟨h1, rfl⟩ := gRows_at hx
      exact hrow k9 h1
  have hD1 : va_D A (ws ++ gRows Y H.size n.toNatClampNeg k.toNatClampNeg) := gDnew rfl hD hP (fun k9 x hx => by
    cases k9 with
    | zero =>
      have hx : some _ = some x := hx
      cases hx
      rfl
    | succ k9 =>
      obtain ⟨-, rfl⟩ := gRows_at hx
      show H.size + 1 + k9 = H.size + (k9 + 1)
      omega) (fun q h => hA q (Nat.le_trans hS.1 h))
  obtain ⟨t, a1, b1⟩ := kk H.size F.heap (hP0.app hnew) hD1 ⟨by rw [f1]; have := hS.1; omega, fun x h1 h2 => (hold x (Nat.lt_of_lt_of_le h1 hS.1)).trans (hS.2.1 x h1 h2), hS.2.2⟩ F rfl X'
  refine ⟨t, step t ?_, b1⟩
  have e : T.heap.size = H.size := by rw [hT]
  rw [e]
  exact a1
end GMK
