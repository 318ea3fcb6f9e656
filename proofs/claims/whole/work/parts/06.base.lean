/-! the generic layer: states as numbered functions, loops as a least fixed point, worlds, calls, entries -/
abbrev gS : Type := (Nat → Int32) × (Nat → Nat → Int32) × (Nat → Int64) × (Nat → Int64)
def gi (S : gS) (k : Nat) : Int32 := S.1 k
def ga (S : gS) (k : Nat) : Nat → Int32 := S.2.1 k
def gl (S : gS) (k : Nat) : Int64 := S.2.2.1 k
def gc (S : gS) : Nat → Int64 := S.2.2.2
def sI (S : gS) (k : Nat) (v : Int32) : gS := (fun j => if j = k then v else S.1 j, S.2)
def sA (S : gS) (k : Nat) (f : Nat → Int32) : gS := (S.1, fun j => if j = k then f else S.2.1 j, S.2.2)
def sL (S : gS) (k : Nat) (v : Int64) : gS := (S.1, S.2.1, fun j => if j = k then v else S.2.2.1 j, S.2.2.2)
def sC (S : gS) (f : Nat → Int64) : gS := (S.1, S.2.1, S.2.2.1, f)
def lpN {α : Type} (B : (α → Prop) → α → Prop) : Nat → α → Prop
  | 0, _ => False
  | n + 1, a => B (lpN B n) a
def lp {α : Type} (B : (α → Prop) → α → Prop) (a : α) : Prop := ∃ n, lpN B n a
theorem lp_walk {α : Type} {B : (α → Prop) → α → Prop} {G : α → Prop} (hs : ∀ (K : α → Prop) (a : α), (∀ a', K a' → G a') → B K a → G a) (a : α) (h : lp B a) : G a := by
  obtain ⟨n, h⟩ := h
  induction n generalizing a with
  | zero => exact h.elim
  | succ n ih => exact hs _ a (fun a' q => ih a' q) h
theorem lp_inv {α : Type} {B : (α → Prop) → α → Prop} (I : α → Prop) (μ : α → Nat) (hs : ∀ (K : α → Prop) (a : α), I a → (∀ a', I a' → μ a' < μ a → K a') → B K a) (a : α) (h : I a) : lp B a := by
  suffices H : ∀ (n : Nat) (a : α), I a → μ a < n → lpN B n a from ⟨μ a + 1, H _ a h (Nat.lt_succ_self _)⟩
  intro n
  induction n with
  | zero => intro a _ h; omega
  | succ n ih => intro a hi hm; exact hs _ a hi (fun a' hi' hm' => ih a' hi' (by omega))
theorem vp_lt {i : Int32} {n : Nat} (h : vp_in i n) : i.toNatClampNeg < n := Nat.not_le.mp fun q => h (Or.inr q)
theorem ne_toInt {x k : Int32} {z : Int} (h : ¬ x = k) (e : k.toInt = z) : x.toInt ≠ z := by
  subst e
  exact fun q => h (Int32.toInt_inj.mp q)
theorem gD {ws : va_W} {n : Nat} {ad : Nat → Nat} (hm : ws.map (fun q => q.1) = (List.range n).map ad) (hi : ∀ i j, i < n → j < n → ad i = ad j → i = j) {A0 : Nat → Prop} (ha : ∀ k, k < n → A0 (ad k)) : va_D A0 ws := by
  have key : ∀ (k : Nat) (q : Nat × va_E), ws[k]? = some q → k < n ∧ q.1 = ad k := by
    intro k q h
    have h1 : (ws.map (fun q => q.1))[k]? = some q.1 := by rw [List.getElem?_map, h]; rfl
    rw [hm, List.getElem?_map] at h1
    by_cases hk : k < n
    · rw [List.getElem?_range hk] at h1
      exact ⟨hk, (Option.some.inj h1).symm⟩
    · rw [List.getElem?_eq_none (by rw [List.length_range]; omega)] at h1
      cases h1
  refine ⟨fun i j p q hp hq e => ?_, fun k q h => ?_⟩
  · obtain ⟨a1, a2⟩ := key i p hp
    obtain ⟨b1, b2⟩ := key j q hq
    exact hi i j a1 b1 (by rw [← a2, ← b2, e])
  · obtain ⟨a1, a2⟩ := key k q h
    rw [a2]; exact ha k a1
def gF (ad : Nat → Nat) (n sz : Nat) : Nat → Prop := fun q => (∃ k, k < n ∧ q = ad k) ∨ sz ≤ q
theorem gF_in {ad : Nat → Nat} {n sz k : Nat} (h : k < n) : gF ad n sz (ad k) := Or.inl ⟨k, h, rfl⟩
theorem gF_le {ad : Nat → Nat} {n a b : Nat} (h : a ≤ b) : ∀ q, gF ad n b q → gF ad n a q := fun _ z => z.imp id (fun w => Nat.le_trans h w)
def gH (D : va_G) (cl : List vw_C) (tys : List (ClassId × FieldType)) (ws : va_W) (U : State) : Prop := va_P D cl ws U.heap ∧ va_K D cl tys U
def gPc (av : List Value) (sz : Nat) (D : va_G) (cl : List vw_C) (tys : List (ClassId × FieldType)) (ws : va_W) : Array Value → State → Prop := va_Pc av (fun U => U.heap.size = sz ∧ gH D cl tys ws U)
theorem gPc_blind {av : List Value} {sz : Nat} {D : va_G} {cl : List vw_C} {tys : List (ClassId × FieldType)} {ws : va_W} : FrameBlind (gPc av sz D cl tys ws) := fun a U g mk q => ⟨q.1, q.2.1, q.2.2.1, va_K.moved (u := U) (U := U.calling g mk a) (Vm.Alike.refl U.vm) q.2.2.2⟩
section GC
variable {p : Program} {l : Launch} {e : Env} {R : Room} {s : State} {m : MethodId} {args : Array Value} {below : List Frame} {meth : Method} {c : Code} {H : Heap} {locs : List Loc} {cells slots : Nat} {Z : State → Prop}
variable {pc : Nat} {ls : Array Slot} {rest st : List Value} {D : va_G} {cl : List vw_C} {tys : List (ClassId × FieldType)} {A0 : Nat → Prop} {H0 : Heap} {σ : Type} {wd : σ → va_W} {w0 : va_W} {F : Nat → Prop}
variable {y : MethodName} {bytes cc : ByteArray} {maxL nL n index : Nat} {ret : Option FieldType} {ws : List Cond} {rm : Room} {Ts : List Cond} {own C : String} {b q0 ci N : Nat} {As fs : List Value} {T : u_T}
theorem gVi (S : CallFix p m c cc nL s args Ts own) {Q : Int32 → σ → Prop} (hM : Met l y ws rm (gPc (.ref b :: As) H.size D cl tys w0) (va_Qi Q (fun S' t => gH D cl tys (wd S') t) F) 0 0 F) (cw : CallW R s args own C index y bytes maxL ret ws rm 0 0 n) (hK : va_K D cl tys s) (hP : va_P D cl w0 H) (hS : va_S A0 H0 H locs) (hF : ∀ q, F q → A0 q) (he : w0[q0]? = some (b, .inr (ci, fs))) (hc : cl[ci]? = some (C, T, N)) (hst : st = As.reverse ++ .ref b :: rest) (hn : As.length = n) (hsz : ls.size = nL) (hW : (rest.map fun v => v.category).sum ≤ 8) (hdg : decode cc pc = .ok (.invokevirtual index, 3)) (hf : cells ≤ R.cells ∧ slots ≤ R.slots)
    (kk : ∀ (r : Int32) (S' : σ) (H1 : Heap) (locs1 : List Loc), Q r S' → va_P D cl (wd S') H1 → va_S A0 H0 H1 locs1 → W p l e R s m args below meth c H1 locs1 cells slots Z (F0 m (pc + 3) ls (.int r :: rest))) : W p l e R s m args below meth c H locs cells slots Z (F0 m pc ls st) := by
  subst hst
  exact va_calli (va_runV S hM cw ⟨gPc_blind, va_recv hK hP hc he, fun U hU hW => ⟨rfl, by rw [hU], by rw [hU]; exact hP, va_K.moved hW.alike hK⟩⟩ rfl hn hsz rfl (lv_room hW) hdg hf) hS (fun q _ h => hF q h) hF (fun r u t H1 locs ht _ hw hB _ _ hS => kk r u H1 locs hw (by rw [← ht]; exact hB.1) hS)
theorem gVl (S : CallFix p m c cc nL s args Ts own) {Q : Int64 → σ → Prop} (hM : Met l y ws rm (gPc (.ref b :: As) H.size D cl tys w0) (va_Ql Q (fun S' t => gH D cl tys (wd S') t) F) 0 0 F) (cw : CallW R s args own C index y bytes maxL ret ws rm 0 0 n) (hK : va_K D cl tys s) (hP : va_P D cl w0 H) (hS : va_S A0 H0 H locs) (hF : ∀ q, F q → A0 q) (he : w0[q0]? = some (b, .inr (ci, fs))) (hc : cl[ci]? = some (C, T, N)) (hst : st = As.reverse ++ .ref b :: rest) (hn : As.length = n) (hsz : ls.size = nL) (hW : (rest.map fun v => v.category).sum ≤ 8) (hdg : decode cc pc = .ok (.invokevirtual index, 3)) (hf : cells ≤ R.cells ∧ slots ≤ R.slots)
    (kk : ∀ (r : Int64) (S' : σ) (H1 : Heap) (locs1 : List Loc), Q r S' → va_P D cl (wd S') H1 → va_S A0 H0 H1 locs1 → W p l e R s m args below meth c H1 locs1 cells slots Z (F0 m (pc + 3) ls (.long r :: rest))) : W p l e R s m args below meth c H locs cells slots Z (F0 m pc ls st) := by
  subst hst
  exact va_calll (va_runV S hM cw ⟨gPc_blind, va_recv hK hP hc he, fun U hU hW => ⟨rfl, by rw [hU], by rw [hU]; exact hP, va_K.moved hW.alike hK⟩⟩ rfl hn hsz rfl (lv_room hW) hdg hf) hS (fun q _ h => hF q h) hF (fun r u t H1 locs ht _ hw hB _ _ hS => kk r u H1 locs hw (by rw [← ht]; exact hB.1) hS)
theorem gVv (S : CallFix p m c cc nL s args Ts own) {Q : σ → Prop} (hM : Met l y ws rm (gPc (.ref b :: As) H.size D cl tys w0) (va_Qv Q (fun S' t => gH D cl tys (wd S') t) F) 0 0 F) (cw : CallW R s args own C index y bytes maxL ret ws rm 0 0 n) (hK : va_K D cl tys s) (hP : va_P D cl w0 H) (hS : va_S A0 H0 H locs) (hF : ∀ q, F q → A0 q) (he : w0[q0]? = some (b, .inr (ci, fs))) (hc : cl[ci]? = some (C, T, N)) (hst : st = As.reverse ++ .ref b :: rest) (hn : As.length = n) (hsz : ls.size = nL) (hW : (rest.map fun v => v.category).sum ≤ 8) (hdg : decode cc pc = .ok (.invokevirtual index, 3)) (hf : cells ≤ R.cells ∧ slots ≤ R.slots)
    (kk : ∀ (S' : σ) (H1 : Heap) (locs1 : List Loc), Q S' → va_P D cl (wd S') H1 → va_S A0 H0 H1 locs1 → W p l e R s m args below meth c H1 locs1 cells slots Z (F0 m (pc + 3) ls rest)) : W p l e R s m args below meth c H locs cells slots Z (F0 m pc ls st) := by
  subst hst
  exact va_callv (va_runV S hM cw ⟨gPc_blind, va_recv hK hP hc he, fun U hU hW => ⟨rfl, by rw [hU], by rw [hU]; exact hP, va_K.moved hW.alike hK⟩⟩ rfl hn hsz rfl (lv_room hW) hdg hf) hS (fun q _ h => hF q h) hF (fun u t H1 locs ht _ hw hB _ _ hS => kk u H1 locs hw (by rw [← ht]; exact hB.1) hS)
theorem gSi (S : CallFix p m c cc nL s args Ts own) {Q : Int32 → σ → Prop} (hM : Met l y ws rm (gPc As H.size D cl tys w0) (va_Qi Q (fun S' t => gH D cl tys (wd S') t) F) 0 0 F) (cw : CallB R s args own index y bytes maxL ret ws rm 0 0 n ∧ (Cond.static y).before args s = true) (hK : va_K D cl tys s) (hP : va_P D cl w0 H) (hS : va_S A0 H0 H locs) (hF : ∀ q, F q → A0 q) (hst : st = As.reverse ++ rest) (hn : As.length = n) (hsz : ls.size = nL) (hW : (rest.map fun v => v.category).sum ≤ 8) (hdg : decode cc pc = .ok (.invokestatic index, 3)) (hf : cells ≤ R.cells ∧ slots ≤ R.slots)
    (kk : ∀ (r : Int32) (S' : σ) (H1 : Heap) (locs1 : List Loc), Q r S' → va_P D cl (wd S') H1 → va_S A0 H0 H1 locs1 → W p l e R s m args below meth c H1 locs1 cells slots Z (F0 m (pc + 3) ls (.int r :: rest))) : W p l e R s m args below meth c H locs cells slots Z (F0 m pc ls st) := by
  subst hst
  exact va_calli (va_runS S hM cw ⟨gPc_blind, fun U hU hW => ⟨rfl, by rw [hU], by rw [hU]; exact hP, va_K.moved hW.alike hK⟩⟩ rfl hn hsz rfl (lv_room hW) hdg hf) hS (fun q _ h => hF q h) hF (fun r u t H1 locs ht _ hw hB _ _ hS => kk r u H1 locs hw (by rw [← ht]; exact hB.1) hS)
theorem gSl (S : CallFix p m c cc nL s args Ts own) {Q : Int64 → σ → Prop} (hM : Met l y ws rm (gPc As H.size D cl tys w0) (va_Ql Q (fun S' t => gH D cl tys (wd S') t) F) 0 0 F) (cw : CallB R s args own index y bytes maxL ret ws rm 0 0 n ∧ (Cond.static y).before args s = true) (hK : va_K D cl tys s) (hP : va_P D cl w0 H) (hS : va_S A0 H0 H locs) (hF : ∀ q, F q → A0 q) (hst : st = As.reverse ++ rest) (hn : As.length = n) (hsz : ls.size = nL) (hW : (rest.map fun v => v.category).sum ≤ 8) (hdg : decode cc pc = .ok (.invokestatic index, 3)) (hf : cells ≤ R.cells ∧ slots ≤ R.slots)
    (kk : ∀ (r : Int64) (S' : σ) (H1 : Heap) (locs1 : List Loc), Q r S' → va_P D cl (wd S') H1 → va_S A0 H0 H1 locs1 → W p l e R s m args below meth c H1 locs1 cells slots Z (F0 m (pc + 3) ls (.long r :: rest))) : W p l e R s m args below meth c H locs cells slots Z (F0 m pc ls st) := by
  subst hst
  exact va_calll (va_runS S hM cw ⟨gPc_blind, fun U hU hW => ⟨rfl, by rw [hU], by rw [hU]; exact hP, va_K.moved hW.alike hK⟩⟩ rfl hn hsz rfl (lv_room hW) hdg hf) hS (fun q _ h => hF q h) hF (fun r u t H1 locs ht _ hw hB _ _ hS => kk r u H1 locs hw (by rw [← ht]; exact hB.1) hS)
theorem gAald (hexec : p.tables.exec = Jvm.exec) (hb : c.code = cc) (hK : va_K D cl tys s) (hP : va_P D cl w0 H) (q0 t0 : Nat) {cA : ClassId} {ty : FieldType} {n a : Nat} {f : Nat → Option Nat} {g : Nat → Nat} (ha : w0[q0]? = some (a, .inl (cA, n, .inr (.inr (.inr (.inr f)))))) (ht : tys[t0]? = some (cA, .array ty)) (hfg : ∀ j, j < n → f j = some (g j)) {i : Int32} (hin : vp_in i n) (hdg : decode cc pc = .ok (.aaload, 1))
    (kk : W p l e R s m args below meth c H locs cells slots Z (F0 m (pc + 1) ls (.ref (g i.toNatClampNeg) :: rest))) : W p l e R s m args below meth c H locs cells slots Z (F0 m pc ls (.int i :: .ref a :: rest)) := by
  have hlt : i.toNatClampNeg < n := vp_lt hin
  refine W.aald (v := va_rf (f i.toNatClampNeg)) (ty := .array ty) hexec hb (hP q0 _ ha) ((hK.2 t0 _ ht).1 n (fun j => va_rf (f j))) rfl (fun q => by cases q) (by show ¬ (i < 0 ∨ (arrV _ _ _).slots.size ≤ _); rw [arrV_size]; exact hin) (by show (arrV _ _ _).slots[_]? = _; rw [arrV_read _ _ hlt]) rfl rfl hdg ?_
  rw [hfg _ hlt]
  exact kk
end GC
section GM
variable {l : Launch} {y : MethodName} {ws ws' : List Cond} {rm : Room} {cc : ByteArray} {maxL : Nat} {av : List Value} {D : va_G} {cl : List vw_C} {tys : List (ClassId × FieldType)} {σ : Type} {wd : σ → va_W} {w0 : va_W} {sz n : Nat} {ad : Nat → Nat}
theorem gMet_i {Q : Int32 → σ → Prop} (hy : plainName y.cls = true) (hw : ws = Cond.code y cc maxL (some .int) :: ws') (hav : (lg_sl av).length ≤ maxL)
    (body : ∀ (p : Program) (e : Env) (s : State) (m : MethodId) (args : Array Value) (below : List Frame) (meth : Method) (c : Code) (Z : State → Prop) (H : Heap) (locs : List Loc), p.tables.exec = Jvm.exec → c.code = cc → c.maxLocals = maxL → (∀ w ∈ ws, w.before args s = true) → s.vm.findClass y.cls = some m.cls → va_K D cl tys s → va_P D cl w0 H → va_S (gF ad n s.heap.size) s.heap H locs →
      (∀ (r : Int32) (S' : σ) (H : Heap) (locs : List Loc) (pc : Nat) (ls : Array Slot), decode cc pc = .ok (.ireturn, 1) → Q r S' → va_P D cl (wd S') H → va_S (gF ad n s.heap.size) s.heap H locs → W p l e rm s m args below meth c H locs 0 0 Z (F0 m pc ls [.int r])) →
      ∀ ls : Array Slot, lv_has ls maxL (lv_args 0 av) → W p l e rm s m args below meth c H locs 0 0 Z (F0 m 0 ls [])) :
    Met l y ws rm (gPc av sz D cl tys w0) (va_Qi Q (fun S' t => gH D cl tys (wd S') t) (gF ad n sz)) 0 0 (gF ad n sz) := by
  refine Met.ofW (cc := cc) (maxL := maxL) (ret := some .int) hy hw ?_
  intro p e s m args below meth c s₁ B hml hv
  obtain ⟨rfl, hsz, hP, hK⟩ := hv
  have hown := findClass_of_methodNamed B.named
  rw [lg_entry_eq]
  subst hsz
  refine body p e s m _ below meth c _ _ _ B.exec B.bytes hml (atoms_spec (ws := ws) B.pre) hown hK hP va_S.rf ?_ _ (lv_entry av hav)
  intro r S' H locs pc ls hd hq hP' hS
  exact W.iret (v := r) B.exec B.bytes B.returns (fun t ht hW => ⟨⟨r, S', rfl, hq, by rw [ht]; exact hP', va_K.moved hW.alike hK⟩, hS.F ht⟩) hS.2.2 hd (hlocks := B.notSynchronized)
theorem gMet_z {Q : Int32 → σ → Prop} (hy : plainName y.cls = true) (hw : ws = Cond.code y cc maxL (some .boolean) :: ws') (hav : (lg_sl av).length ≤ maxL)
    (body : ∀ (p : Program) (e : Env) (s : State) (m : MethodId) (args : Array Value) (below : List Frame) (meth : Method) (c : Code) (Z : State → Prop) (H : Heap) (locs : List Loc), p.tables.exec = Jvm.exec → c.code = cc → c.maxLocals = maxL → (∀ w ∈ ws, w.before args s = true) → s.vm.findClass y.cls = some m.cls → va_K D cl tys s → va_P D cl w0 H → va_S (gF ad n s.heap.size) s.heap H locs →
      (∀ (r : Int32) (S' : σ) (H : Heap) (locs : List Loc) (pc : Nat) (ls : Array Slot), decode cc pc = .ok (.ireturn, 1) → narrow .boolean (.int r) = .int r → Q r S' → va_P D cl (wd S') H → va_S (gF ad n s.heap.size) s.heap H locs → W p l e rm s m args below meth c H locs 0 0 Z (F0 m pc ls [.int r])) →
      ∀ ls : Array Slot, lv_has ls maxL (lv_args 0 av) → W p l e rm s m args below meth c H locs 0 0 Z (F0 m 0 ls [])) :
    Met l y ws rm (gPc av sz D cl tys w0) (va_Qi Q (fun S' t => gH D cl tys (wd S') t) (gF ad n sz)) 0 0 (gF ad n sz) := by
  refine Met.ofW (cc := cc) (maxL := maxL) (ret := some .boolean) hy hw ?_
  intro p e s m args below meth c s₁ B hml hv
  obtain ⟨rfl, hsz, hP, hK⟩ := hv
  have hown := findClass_of_methodNamed B.named
  rw [lg_entry_eq]
  subst hsz
  refine body p e s m _ below meth c _ _ _ B.exec B.bytes hml (atoms_spec (ws := ws) B.pre) hown hK hP va_S.rf ?_ _ (lv_entry av hav)
  intro r S' H locs pc ls hd hn hq hP' hS
  exact W.zret (v := r) B.exec B.bytes B.returns hn (fun t ht hW => ⟨⟨r, S', rfl, hq, by rw [ht]; exact hP', va_K.moved hW.alike hK⟩, hS.F ht⟩) hS.2.2 hd (hlocks := B.notSynchronized)
theorem gMet_l {Q : Int64 → σ → Prop} (hy : plainName y.cls = true) (hw : ws = Cond.code y cc maxL (some .long) :: ws') (hav : (lg_sl av).length ≤ maxL)
    (body : ∀ (p : Program) (e : Env) (s : State) (m : MethodId) (args : Array Value) (below : List Frame) (meth : Method) (c : Code) (Z : State → Prop) (H : Heap) (locs : List Loc), p.tables.exec = Jvm.exec → c.code = cc → c.maxLocals = maxL → (∀ w ∈ ws, w.before args s = true) → s.vm.findClass y.cls = some m.cls → va_K D cl tys s → va_P D cl w0 H → va_S (gF ad n s.heap.size) s.heap H locs →
      (∀ (r : Int64) (S' : σ) (H : Heap) (locs : List Loc) (pc : Nat) (ls : Array Slot), decode cc pc = .ok (.lreturn, 1) → Q r S' → va_P D cl (wd S') H → va_S (gF ad n s.heap.size) s.heap H locs → W p l e rm s m args below meth c H locs 0 0 Z (F0 m pc ls [.long r])) →
      ∀ ls : Array Slot, lv_has ls maxL (lv_args 0 av) → W p l e rm s m args below meth c H locs 0 0 Z (F0 m 0 ls [])) :
    Met l y ws rm (gPc av sz D cl tys w0) (va_Ql Q (fun S' t => gH D cl tys (wd S') t) (gF ad n sz)) 0 0 (gF ad n sz) := by
  refine Met.ofW (cc := cc) (maxL := maxL) (ret := some .long) hy hw ?_
  intro p e s m args below meth c s₁ B hml hv
  obtain ⟨rfl, hsz, hP, hK⟩ := hv
  have hown := findClass_of_methodNamed B.named
  rw [lg_entry_eq]
  subst hsz
  refine body p e s m _ below meth c _ _ _ B.exec B.bytes hml (atoms_spec (ws := ws) B.pre) hown hK hP va_S.rf ?_ _ (lv_entry av hav)
  intro r S' H locs pc ls hd hq hP' hS
  exact W.lret (v := r) B.exec B.bytes B.returns (fun t ht hW => ⟨⟨r, S', rfl, hq, by rw [ht]; exact hP', va_K.moved hW.alike hK⟩, hS.F ht⟩) hS.2.2 hd (hlocks := B.notSynchronized)
theorem gMet_v {Q : σ → Prop} (hy : plainName y.cls = true) (hw : ws = Cond.code y cc maxL none :: ws') (hav : (lg_sl av).length ≤ maxL)
    (body : ∀ (p : Program) (e : Env) (s : State) (m : MethodId) (args : Array Value) (below : List Frame) (meth : Method) (c : Code) (Z : State → Prop) (H : Heap) (locs : List Loc), p.tables.exec = Jvm.exec → c.code = cc → c.maxLocals = maxL → (∀ w ∈ ws, w.before args s = true) → s.vm.findClass y.cls = some m.cls → va_K D cl tys s → va_P D cl w0 H → va_S (gF ad n s.heap.size) s.heap H locs →
      (∀ (S' : σ) (H : Heap) (locs : List Loc) (pc : Nat) (ls : Array Slot), decode cc pc = .ok (.return_, 1) → Q S' → va_P D cl (wd S') H → va_S (gF ad n s.heap.size) s.heap H locs → W p l e rm s m args below meth c H locs 0 0 Z (F0 m pc ls [])) →
      ∀ ls : Array Slot, lv_has ls maxL (lv_args 0 av) → W p l e rm s m args below meth c H locs 0 0 Z (F0 m 0 ls [])) :
    Met l y ws rm (gPc av sz D cl tys w0) (va_Qv Q (fun S' t => gH D cl tys (wd S') t) (gF ad n sz)) 0 0 (gF ad n sz) := by
  refine Met.ofW (cc := cc) (maxL := maxL) (ret := none) hy hw ?_
  intro p e s m args below meth c s₁ B hml hv
  obtain ⟨rfl, hsz, hP, hK⟩ := hv
  have hown := findClass_of_methodNamed B.named
  rw [lg_entry_eq]
  subst hsz
  refine body p e s m _ below meth c _ _ _ B.exec B.bytes hml (atoms_spec (ws := ws) B.pre) hown hK hP va_S.rf ?_ _ (lv_entry av hav)
  intro S' H locs pc ls hd hq hP' hS
  exact W.vret B.exec B.bytes B.returns (fun t ht hW => ⟨⟨S', rfl, hq, by rw [ht]; exact hP', va_K.moved hW.alike hK⟩, hS.F ht⟩) hS.2.2 hd (hlocks := B.notSynchronized)
end GM
abbrev vwCl : List vw_C := [(RX0, TX0, 9), (RX1, TX1, 7), (RX2, TX2, 3), (RX3, TX3, 7), (RX4, TX4, 4), (RX5, TX5, 7), (RX6, TX6, 3), (RX7, TX7, 2), (RX8, TX8, 6), (RX9, TX9, 15), (RX10, TX10, 54)]
abbrev tY (Y : Nat → ClassId) : List (ClassId × FieldType) := [(Y 0, .int), (Y 1, .boolean), (Y 2, .long), (Y 3, .array .int)]
/-! the world of C: 65 cells; ints 0 X9.night, 1 X9.seed, 2 X9.drawCount, 3 X9.casksPrice, 4 X0.size, 5 X3.size, 6 X5.size, 7 X4.size, 8 X8.size; longs 0 above, 1 below -/
-- arrays: 0 X9.refusals, 1 X9.purses, 2 X7.numbers0, 3 X7.numbers1, 4 X7.numbers2, 5 X7.numbers3, 6 X7.length, 7 X1.depth, 8 X1.worth, 9 X1.ledBy, 10 X1.standing, 11 X1.shares, 12 X1.bribed, 13 X1.watchers, 14 X0.draught, 15 X0.hold, 16 X0.strength, 17 X0.bold, 18 X0.casks, 19 X0.escapes, 20 X0.returns, 21 X0.fear0, 22 X0.fear1, 23 X0.fear2, 24 X0.fear3, 25 X0.fear4, 26 X0.fear5, 27 X0.fear6, 28 X0.fear7, 29 X3.cove, 30 X3.room, 31 X3.cost, 32 X3.guess, 33 X3.lying, 34 X5.boat, 35 X5.casks, 36 X5.night, 37 X5.cove, 38 X5.place, 39 X5.hide, 40 X4.crew, 41 X4.informer, 42 X4.from, 43 X8.informer, 44 X8.night, 45 X8.cove, 46 X8.right, 47 X8.wrong, 48 X6.least, 49 X6.most, 50 X6.byLaw, 51 X2.worths
def wC (Y : Nat → ClassId) (A : Nat → Nat) (S : gS) : va_W := [(A 0, .inr (9, [.int (gi S 0), .int (gi S 1), .int (gi S 2), .int (gi S 3), .ref (A 10), .ref (A 11), .ref (A 1), .ref (A 2), .ref (A 3), .ref (A 4), .ref (A 5), .ref (A 6), .ref (A 7), .ref (A 8), .ref (A 9)])), (A 1, .inr (7, [.ref (A 12), .ref (A 17)])), (A 2, .inr (1, [.ref (A 18), .ref (A 19), .ref (A 20), .ref (A 21), .ref (A 22), .ref (A 23), .ref (A 24)])), (A 3, .inr (0, [.int (gi S 4), .ref (A 25), .ref (A 26), .ref (A 27), .ref (A 28), .ref (A 29), .ref (A 30), .ref (A 31), .ref (A 32)])), (A 4, .inr (3, [.int (gi S 5), .ref (A 41), .ref (A 42), .ref (A 43), .ref (A 44), .ref (A 45), .ref (A 46)])), (A 5, .inr (5, [.int (gi S 6), .ref (A 47), .ref (A 48), .ref (A 49), .ref (A 50), .ref (A 51), .ref (A 52)])), (A 6, .inr (4, [.int (gi S 7), .ref (A 53), .ref (A 54), .ref (A 55)])), (A 7, .inr (8, [.int (gi S 8), .ref (A 56), .ref (A 57), .ref (A 58), .ref (A 59), .ref (A 60)])), (A 8, .inr (6, [.ref (A 61), .ref (A 62), .ref (A 63)])), (A 9, .inr (2, [.ref (A 64), .long (gl S 0), .long (gl S 1)])), (A 10, .inl (Y 0, 8, .inl (ga S 0))), (A 11, .inl (Y 0, 8, .inl (ga S 1))), (A 12, .inl (Y 3, 4, .inr (.inr (.inr (.inr (fun j => if j < 4 then some (A (13 + j)) else none)))))), (A 13, .inl (Y 0, 30, .inl (ga S 2))), (A 14, .inl (Y 0, 30, .inl (ga S 3))), (A 15, .inl (Y 0, 30, .inl (ga S 4))), (A 16, .inl (Y 0, 30, .inl (ga S 5))), (A 17, .inl (Y 0, 4, .inl (ga S 6))), (A 18, .inl (Y 0, 6, .inl (ga S 7))), (A 19, .inl (Y 0, 6, .inl (ga S 8))), (A 20, .inl (Y 0, 6, .inl (ga S 9))), (A 21, .inl (Y 0, 6, .inl (ga S 10))), (A 22, .inl (Y 0, 6, .inl (ga S 11))), (A 23, .inl (Y 1, 6, .inl (ga S 12))), (A 24, .inl (Y 0, 6, .inl (ga S 13))), (A 25, .inl (Y 0, 8, .inl (ga S 14))), (A 26, .inl (Y 0, 8, .inl (ga S 15))), (A 27, .inl (Y 0, 8, .inl (ga S 16))), (A 28, .inl (Y 0, 8, .inl (ga S 17))), (A 29, .inl (Y 0, 8, .inl (ga S 18))), (A 30, .inl (Y 0, 8, .inl (ga S 19))), (A 31, .inl (Y 0, 8, .inl (ga S 20))), (A 32, .inl (Y 3, 8, .inr (.inr (.inr (.inr (fun j => if j < 8 then some (A (33 + j)) else none)))))), (A 33, .inl (Y 0, 6, .inl (ga S 21))), (A 34, .inl (Y 0, 6, .inl (ga S 22))), (A 35, .inl (Y 0, 6, .inl (ga S 23))), (A 36, .inl (Y 0, 6, .inl (ga S 24))), (A 37, .inl (Y 0, 6, .inl (ga S 25))), (A 38, .inl (Y 0, 6, .inl (ga S 26))), (A 39, .inl (Y 0, 6, .inl (ga S 27))), (A 40, .inl (Y 0, 6, .inl (ga S 28))), (A 41, .inl (Y 0, 12, .inl (ga S 29))), (A 42, .inl (Y 0, 12, .inl (ga S 30))), (A 43, .inl (Y 0, 12, .inl (ga S 31))), (A 44, .inl (Y 0, 12, .inl (ga S 32))), (A 45, .inl (Y 0, 12, .inl (ga S 33))), (A 46, .inl (Y 2, 101, .inr (.inl (gc S)))), (A 47, .inl (Y 0, 100, .inl (ga S 34))), (A 48, .inl (Y 0, 100, .inl (ga S 35))), (A 49, .inl (Y 0, 100, .inl (ga S 36))), (A 50, .inl (Y 0, 100, .inl (ga S 37))), (A 51, .inl (Y 0, 100, .inl (ga S 38))), (A 52, .inl (Y 0, 100, .inl (ga S 39))), (A 53, .inl (Y 0, 20, .inl (ga S 40))), (A 54, .inl (Y 0, 20, .inl (ga S 41))), (A 55, .inl (Y 0, 20, .inl (ga S 42))), (A 56, .inl (Y 0, 60, .inl (ga S 43))), (A 57, .inl (Y 0, 60, .inl (ga S 44))), (A 58, .inl (Y 0, 60, .inl (ga S 45))), (A 59, .inl (Y 0, 6, .inl (ga S 46))), (A 60, .inl (Y 0, 6, .inl (ga S 47))), (A 61, .inl (Y 0, 34, .inl (ga S 48))), (A 62, .inl (Y 0, 34, .inl (ga S 49))), (A 63, .inl (Y 0, 34, .inl (ga S 50))), (A 64, .inl (Y 0, 6, .inl (ga S 51)))]
theorem aC0 (Y : Nat → ClassId) (A : Nat → Nat) (S : gS) : (wC Y A S)[0]? = some (A 0, .inr (9, [.int (gi S 0), .int (gi S 1), .int (gi S 2), .int (gi S 3), .ref (A 10), .ref (A 11), .ref (A 1), .ref (A 2), .ref (A 3), .ref (A 4), .ref (A 5), .ref (A 6), .ref (A 7), .ref (A 8), .ref (A 9)])) := rfl
theorem aC1 (Y : Nat → ClassId) (A : Nat → Nat) (S : gS) : (wC Y A S)[1]? = some (A 1, .inr (7, [.ref (A 12), .ref (A 17)])) := rfl
theorem aC2 (Y : Nat → ClassId) (A : Nat → Nat) (S : gS) : (wC Y A S)[2]? = some (A 2, .inr (1, [.ref (A 18), .ref (A 19), .ref (A 20), .ref (A 21), .ref (A 22), .ref (A 23), .ref (A 24)])) := rfl
theorem aC3 (Y : Nat → ClassId) (A : Nat → Nat) (S : gS) : (wC Y A S)[3]? = some (A 3, .inr (0, [.int (gi S 4), .ref (A 25), .ref (A 26), .ref (A 27), .ref (A 28), .ref (A 29), .ref (A 30), .ref (A 31), .ref (A 32)])) := rfl
theorem aC4 (Y : Nat → ClassId) (A : Nat → Nat) (S : gS) : (wC Y A S)[4]? = some (A 4, .inr (3, [.int (gi S 5), .ref (A 41), .ref (A 42), .ref (A 43), .ref (A 44), .ref (A 45), .ref (A 46)])) := rfl
theorem aC5 (Y : Nat → ClassId) (A : Nat → Nat) (S : gS) : (wC Y A S)[5]? = some (A 5, .inr (5, [.int (gi S 6), .ref (A 47), .ref (A 48), .ref (A 49), .ref (A 50), .ref (A 51), .ref (A 52)])) := rfl
theorem aC6 (Y : Nat → ClassId) (A : Nat → Nat) (S : gS) : (wC Y A S)[6]? = some (A 6, .inr (4, [.int (gi S 7), .ref (A 53), .ref (A 54), .ref (A 55)])) := rfl
theorem aC7 (Y : Nat → ClassId) (A : Nat → Nat) (S : gS) : (wC Y A S)[7]? = some (A 7, .inr (8, [.int (gi S 8), .ref (A 56), .ref (A 57), .ref (A 58), .ref (A 59), .ref (A 60)])) := rfl
theorem aC8 (Y : Nat → ClassId) (A : Nat → Nat) (S : gS) : (wC Y A S)[8]? = some (A 8, .inr (6, [.ref (A 61), .ref (A 62), .ref (A 63)])) := rfl
theorem aC9 (Y : Nat → ClassId) (A : Nat → Nat) (S : gS) : (wC Y A S)[9]? = some (A 9, .inr (2, [.ref (A 64), .long (gl S 0), .long (gl S 1)])) := rfl
theorem aC10 (Y : Nat → ClassId) (A : Nat → Nat) (S : gS) : (wC Y A S)[10]? = some (A 10, .inl (Y 0, 8, .inl (ga S 0))) := rfl
theorem aC11 (Y : Nat → ClassId) (A : Nat → Nat) (S : gS) : (wC Y A S)[11]? = some (A 11, .inl (Y 0, 8, .inl (ga S 1))) := rfl
theorem aC12 (Y : Nat → ClassId) (A : Nat → Nat) (S : gS) : (wC Y A S)[12]? = some (A 12, .inl (Y 3, 4, .inr (.inr (.inr (.inr (fun j => if j < 4 then some (A (13 + j)) else none)))))) := rfl
theorem aC13 (Y : Nat → ClassId) (A : Nat → Nat) (S : gS) : (wC Y A S)[13]? = some (A 13, .inl (Y 0, 30, .inl (ga S 2))) := rfl
theorem aC14 (Y : Nat → ClassId) (A : Nat → Nat) (S : gS) : (wC Y A S)[14]? = some (A 14, .inl (Y 0, 30, .inl (ga S 3))) := rfl
theorem aC15 (Y : Nat → ClassId) (A : Nat → Nat) (S : gS) : (wC Y A S)[15]? = some (A 15, .inl (Y 0, 30, .inl (ga S 4))) := rfl
theorem aC16 (Y : Nat → ClassId) (A : Nat → Nat) (S : gS) : (wC Y A S)[16]? = some (A 16, .inl (Y 0, 30, .inl (ga S 5))) := rfl
theorem aC17 (Y : Nat → ClassId) (A : Nat → Nat) (S : gS) : (wC Y A S)[17]? = some (A 17, .inl (Y 0, 4, .inl (ga S 6))) := rfl
theorem aC18 (Y : Nat → ClassId) (A : Nat → Nat) (S : gS) : (wC Y A S)[18]? = some (A 18, .inl (Y 0, 6, .inl (ga S 7))) := rfl
theorem aC19 (Y : Nat → ClassId) (A : Nat → Nat) (S : gS) : (wC Y A S)[19]? = some (A 19, .inl (Y 0, 6, .inl (ga S 8))) := rfl
theorem aC20 (Y : Nat → ClassId) (A : Nat → Nat) (S : gS) : (wC Y A S)[20]? = some (A 20, .inl (Y 0, 6, .inl (ga S 9))) := rfl
theorem aC21 (Y : Nat → ClassId) (A : Nat → Nat) (S : gS) : (wC Y A S)[21]? = some (A 21, .inl (Y 0, 6, .inl (ga S 10))) := rfl
theorem aC22 (Y : Nat → ClassId) (A : Nat → Nat) (S : gS) : (wC Y A S)[22]? = some (A 22, .inl (Y 0, 6, .inl (ga S 11))) := rfl
theorem aC23 (Y : Nat → ClassId) (A : Nat → Nat) (S : gS) : (wC Y A S)[23]? = some (A 23, .inl (Y 1, 6, .inl (ga S 12))) := rfl
theorem aC24 (Y : Nat → ClassId) (A : Nat → Nat) (S : gS) : (wC Y A S)[24]? = some (A 24, .inl (Y 0, 6, .inl (ga S 13))) := rfl
theorem aC25 (Y : Nat → ClassId) (A : Nat → Nat) (S : gS) : (wC Y A S)[25]? = some (A 25, .inl (Y 0, 8, .inl (ga S 14))) := rfl
theorem aC26 (Y : Nat → ClassId) (A : Nat → Nat) (S : gS) : (wC Y A S)[26]? = some (A 26, .inl (Y 0, 8, .inl (ga S 15))) := rfl
theorem aC27 (Y : Nat → ClassId) (A : Nat → Nat) (S : gS) : (wC Y A S)[27]? = some (A 27, .inl (Y 0, 8, .inl (ga S 16))) := rfl
theorem aC28 (Y : Nat → ClassId) (A : Nat → Nat) (S : gS) : (wC Y A S)[28]? = some (A 28, .inl (Y 0, 8, .inl (ga S 17))) := rfl
theorem aC29 (Y : Nat → ClassId) (A : Nat → Nat) (S : gS) : (wC Y A S)[29]? = some (A 29, .inl (Y 0, 8, .inl (ga S 18))) := rfl
theorem aC30 (Y : Nat → ClassId) (A : Nat → Nat) (S : gS) : (wC Y A S)[30]? = some (A 30, .inl (Y 0, 8, .inl (ga S 19))) := rfl
theorem aC31 (Y : Nat → ClassId) (A : Nat → Nat) (S : gS) : (wC Y A S)[31]? = some (A 31, .inl (Y 0, 8, .inl (ga S 20))) := rfl
theorem aC32 (Y : Nat → ClassId) (A : Nat → Nat) (S : gS) : (wC Y A S)[32]? = some (A 32, .inl (Y 3, 8, .inr (.inr (.inr (.inr (fun j => if j < 8 then some (A (33 + j)) else none)))))) := rfl
theorem aC33 (Y : Nat → ClassId) (A : Nat → Nat) (S : gS) : (wC Y A S)[33]? = some (A 33, .inl (Y 0, 6, .inl (ga S 21))) := rfl
theorem aC34 (Y : Nat → ClassId) (A : Nat → Nat) (S : gS) : (wC Y A S)[34]? = some (A 34, .inl (Y 0, 6, .inl (ga S 22))) := rfl
theorem aC35 (Y : Nat → ClassId) (A : Nat → Nat) (S : gS) : (wC Y A S)[35]? = some (A 35, .inl (Y 0, 6, .inl (ga S 23))) := rfl
theorem aC36 (Y : Nat → ClassId) (A : Nat → Nat) (S : gS) : (wC Y A S)[36]? = some (A 36, .inl (Y 0, 6, .inl (ga S 24))) := rfl
theorem aC37 (Y : Nat → ClassId) (A : Nat → Nat) (S : gS) : (wC Y A S)[37]? = some (A 37, .inl (Y 0, 6, .inl (ga S 25))) := rfl
theorem aC38 (Y : Nat → ClassId) (A : Nat → Nat) (S : gS) : (wC Y A S)[38]? = some (A 38, .inl (Y 0, 6, .inl (ga S 26))) := rfl
theorem aC39 (Y : Nat → ClassId) (A : Nat → Nat) (S : gS) : (wC Y A S)[39]? = some (A 39, .inl (Y 0, 6, .inl (ga S 27))) := rfl
theorem aC40 (Y : Nat → ClassId) (A : Nat → Nat) (S : gS) : (wC Y A S)[40]? = some (A 40, .inl (Y 0, 6, .inl (ga S 28))) := rfl
theorem aC41 (Y : Nat → ClassId) (A : Nat → Nat) (S : gS) : (wC Y A S)[41]? = some (A 41, .inl (Y 0, 12, .inl (ga S 29))) := rfl
theorem aC42 (Y : Nat → ClassId) (A : Nat → Nat) (S : gS) : (wC Y A S)[42]? = some (A 42, .inl (Y 0, 12, .inl (ga S 30))) := rfl
theorem aC43 (Y : Nat → ClassId) (A : Nat → Nat) (S : gS) : (wC Y A S)[43]? = some (A 43, .inl (Y 0, 12, .inl (ga S 31))) := rfl
theorem aC44 (Y : Nat → ClassId) (A : Nat → Nat) (S : gS) : (wC Y A S)[44]? = some (A 44, .inl (Y 0, 12, .inl (ga S 32))) := rfl
theorem aC45 (Y : Nat → ClassId) (A : Nat → Nat) (S : gS) : (wC Y A S)[45]? = some (A 45, .inl (Y 0, 12, .inl (ga S 33))) := rfl
theorem aC46 (Y : Nat → ClassId) (A : Nat → Nat) (S : gS) : (wC Y A S)[46]? = some (A 46, .inl (Y 2, 101, .inr (.inl (gc S)))) := rfl
theorem aC47 (Y : Nat → ClassId) (A : Nat → Nat) (S : gS) : (wC Y A S)[47]? = some (A 47, .inl (Y 0, 100, .inl (ga S 34))) := rfl
theorem aC48 (Y : Nat → ClassId) (A : Nat → Nat) (S : gS) : (wC Y A S)[48]? = some (A 48, .inl (Y 0, 100, .inl (ga S 35))) := rfl
theorem aC49 (Y : Nat → ClassId) (A : Nat → Nat) (S : gS) : (wC Y A S)[49]? = some (A 49, .inl (Y 0, 100, .inl (ga S 36))) := rfl
theorem aC50 (Y : Nat → ClassId) (A : Nat → Nat) (S : gS) : (wC Y A S)[50]? = some (A 50, .inl (Y 0, 100, .inl (ga S 37))) := rfl
theorem aC51 (Y : Nat → ClassId) (A : Nat → Nat) (S : gS) : (wC Y A S)[51]? = some (A 51, .inl (Y 0, 100, .inl (ga S 38))) := rfl
theorem aC52 (Y : Nat → ClassId) (A : Nat → Nat) (S : gS) : (wC Y A S)[52]? = some (A 52, .inl (Y 0, 100, .inl (ga S 39))) := rfl
theorem aC53 (Y : Nat → ClassId) (A : Nat → Nat) (S : gS) : (wC Y A S)[53]? = some (A 53, .inl (Y 0, 20, .inl (ga S 40))) := rfl
theorem aC54 (Y : Nat → ClassId) (A : Nat → Nat) (S : gS) : (wC Y A S)[54]? = some (A 54, .inl (Y 0, 20, .inl (ga S 41))) := rfl
theorem aC55 (Y : Nat → ClassId) (A : Nat → Nat) (S : gS) : (wC Y A S)[55]? = some (A 55, .inl (Y 0, 20, .inl (ga S 42))) := rfl
theorem aC56 (Y : Nat → ClassId) (A : Nat → Nat) (S : gS) : (wC Y A S)[56]? = some (A 56, .inl (Y 0, 60, .inl (ga S 43))) := rfl
theorem aC57 (Y : Nat → ClassId) (A : Nat → Nat) (S : gS) : (wC Y A S)[57]? = some (A 57, .inl (Y 0, 60, .inl (ga S 44))) := rfl
theorem aC58 (Y : Nat → ClassId) (A : Nat → Nat) (S : gS) : (wC Y A S)[58]? = some (A 58, .inl (Y 0, 60, .inl (ga S 45))) := rfl
theorem aC59 (Y : Nat → ClassId) (A : Nat → Nat) (S : gS) : (wC Y A S)[59]? = some (A 59, .inl (Y 0, 6, .inl (ga S 46))) := rfl
theorem aC60 (Y : Nat → ClassId) (A : Nat → Nat) (S : gS) : (wC Y A S)[60]? = some (A 60, .inl (Y 0, 6, .inl (ga S 47))) := rfl
theorem aC61 (Y : Nat → ClassId) (A : Nat → Nat) (S : gS) : (wC Y A S)[61]? = some (A 61, .inl (Y 0, 34, .inl (ga S 48))) := rfl
theorem aC62 (Y : Nat → ClassId) (A : Nat → Nat) (S : gS) : (wC Y A S)[62]? = some (A 62, .inl (Y 0, 34, .inl (ga S 49))) := rfl
theorem aC63 (Y : Nat → ClassId) (A : Nat → Nat) (S : gS) : (wC Y A S)[63]? = some (A 63, .inl (Y 0, 34, .inl (ga S 50))) := rfl
theorem aC64 (Y : Nat → ClassId) (A : Nat → Nat) (S : gS) : (wC Y A S)[64]? = some (A 64, .inl (Y 0, 6, .inl (ga S 51))) := rfl
theorem pC0_0 {D : va_G} {Y : Nat → ClassId} {A : Nat → Nat} {S S1 : gS} {H : Heap} {v : Int32} (e : S1 = sI S 0 v) (h : va_P D vwCl ((wC Y A S).set 0 (A 0, .inr (9, ([.int (gi S 0), .int (gi S 1), .int (gi S 2), .int (gi S 3), .ref (A 10), .ref (A 11), .ref (A 1), .ref (A 2), .ref (A 3), .ref (A 4), .ref (A 5), .ref (A 6), .ref (A 7), .ref (A 8), .ref (A 9)] : List Value).set 0 (.int v)))) H) : va_P D vwCl (wC Y A S1) H := by subst e; exact h
theorem pC0_1 {D : va_G} {Y : Nat → ClassId} {A : Nat → Nat} {S S1 : gS} {H : Heap} {v : Int32} (e : S1 = sI S 1 v) (h : va_P D vwCl ((wC Y A S).set 0 (A 0, .inr (9, ([.int (gi S 0), .int (gi S 1), .int (gi S 2), .int (gi S 3), .ref (A 10), .ref (A 11), .ref (A 1), .ref (A 2), .ref (A 3), .ref (A 4), .ref (A 5), .ref (A 6), .ref (A 7), .ref (A 8), .ref (A 9)] : List Value).set 1 (.int v)))) H) : va_P D vwCl (wC Y A S1) H := by subst e; exact h
theorem pC0_2 {D : va_G} {Y : Nat → ClassId} {A : Nat → Nat} {S S1 : gS} {H : Heap} {v : Int32} (e : S1 = sI S 2 v) (h : va_P D vwCl ((wC Y A S).set 0 (A 0, .inr (9, ([.int (gi S 0), .int (gi S 1), .int (gi S 2), .int (gi S 3), .ref (A 10), .ref (A 11), .ref (A 1), .ref (A 2), .ref (A 3), .ref (A 4), .ref (A 5), .ref (A 6), .ref (A 7), .ref (A 8), .ref (A 9)] : List Value).set 2 (.int v)))) H) : va_P D vwCl (wC Y A S1) H := by subst e; exact h
theorem pC0_3 {D : va_G} {Y : Nat → ClassId} {A : Nat → Nat} {S S1 : gS} {H : Heap} {v : Int32} (e : S1 = sI S 3 v) (h : va_P D vwCl ((wC Y A S).set 0 (A 0, .inr (9, ([.int (gi S 0), .int (gi S 1), .int (gi S 2), .int (gi S 3), .ref (A 10), .ref (A 11), .ref (A 1), .ref (A 2), .ref (A 3), .ref (A 4), .ref (A 5), .ref (A 6), .ref (A 7), .ref (A 8), .ref (A 9)] : List Value).set 3 (.int v)))) H) : va_P D vwCl (wC Y A S1) H := by subst e; exact h
theorem pC3_0 {D : va_G} {Y : Nat → ClassId} {A : Nat → Nat} {S S1 : gS} {H : Heap} {v : Int32} (e : S1 = sI S 4 v) (h : va_P D vwCl ((wC Y A S).set 3 (A 3, .inr (0, ([.int (gi S 4), .ref (A 25), .ref (A 26), .ref (A 27), .ref (A 28), .ref (A 29), .ref (A 30), .ref (A 31), .ref (A 32)] : List Value).set 0 (.int v)))) H) : va_P D vwCl (wC Y A S1) H := by subst e; exact h
theorem pC4_0 {D : va_G} {Y : Nat → ClassId} {A : Nat → Nat} {S S1 : gS} {H : Heap} {v : Int32} (e : S1 = sI S 5 v) (h : va_P D vwCl ((wC Y A S).set 4 (A 4, .inr (3, ([.int (gi S 5), .ref (A 41), .ref (A 42), .ref (A 43), .ref (A 44), .ref (A 45), .ref (A 46)] : List Value).set 0 (.int v)))) H) : va_P D vwCl (wC Y A S1) H := by subst e; exact h
theorem pC5_0 {D : va_G} {Y : Nat → ClassId} {A : Nat → Nat} {S S1 : gS} {H : Heap} {v : Int32} (e : S1 = sI S 6 v) (h : va_P D vwCl ((wC Y A S).set 5 (A 5, .inr (5, ([.int (gi S 6), .ref (A 47), .ref (A 48), .ref (A 49), .ref (A 50), .ref (A 51), .ref (A 52)] : List Value).set 0 (.int v)))) H) : va_P D vwCl (wC Y A S1) H := by subst e; exact h
theorem pC6_0 {D : va_G} {Y : Nat → ClassId} {A : Nat → Nat} {S S1 : gS} {H : Heap} {v : Int32} (e : S1 = sI S 7 v) (h : va_P D vwCl ((wC Y A S).set 6 (A 6, .inr (4, ([.int (gi S 7), .ref (A 53), .ref (A 54), .ref (A 55)] : List Value).set 0 (.int v)))) H) : va_P D vwCl (wC Y A S1) H := by subst e; exact h
theorem pC7_0 {D : va_G} {Y : Nat → ClassId} {A : Nat → Nat} {S S1 : gS} {H : Heap} {v : Int32} (e : S1 = sI S 8 v) (h : va_P D vwCl ((wC Y A S).set 7 (A 7, .inr (8, ([.int (gi S 8), .ref (A 56), .ref (A 57), .ref (A 58), .ref (A 59), .ref (A 60)] : List Value).set 0 (.int v)))) H) : va_P D vwCl (wC Y A S1) H := by subst e; exact h
theorem pC9_1 {D : va_G} {Y : Nat → ClassId} {A : Nat → Nat} {S S1 : gS} {H : Heap} {v : Int64} (e : S1 = sL S 0 v) (h : va_P D vwCl ((wC Y A S).set 9 (A 9, .inr (2, ([.ref (A 64), .long (gl S 0), .long (gl S 1)] : List Value).set 1 (.long v)))) H) : va_P D vwCl (wC Y A S1) H := by subst e; exact h
theorem pC9_2 {D : va_G} {Y : Nat → ClassId} {A : Nat → Nat} {S S1 : gS} {H : Heap} {v : Int64} (e : S1 = sL S 1 v) (h : va_P D vwCl ((wC Y A S).set 9 (A 9, .inr (2, ([.ref (A 64), .long (gl S 0), .long (gl S 1)] : List Value).set 2 (.long v)))) H) : va_P D vwCl (wC Y A S1) H := by subst e; exact h
theorem uC10 {D : va_G} {Y : Nat → ClassId} {A : Nat → Nat} {S S1 : gS} {H : Heap} {f : Nat → Int32} (e : S1 = sA S 0 f) (h : va_P D vwCl ((wC Y A S).set 10 (A 10, .inl (Y 0, 8, .inl f))) H) : va_P D vwCl (wC Y A S1) H := by subst e; exact h
theorem uC11 {D : va_G} {Y : Nat → ClassId} {A : Nat → Nat} {S S1 : gS} {H : Heap} {f : Nat → Int32} (e : S1 = sA S 1 f) (h : va_P D vwCl ((wC Y A S).set 11 (A 11, .inl (Y 0, 8, .inl f))) H) : va_P D vwCl (wC Y A S1) H := by subst e; exact h
theorem uC13 {D : va_G} {Y : Nat → ClassId} {A : Nat → Nat} {S S1 : gS} {H : Heap} {f : Nat → Int32} (e : S1 = sA S 2 f) (h : va_P D vwCl ((wC Y A S).set 13 (A 13, .inl (Y 0, 30, .inl f))) H) : va_P D vwCl (wC Y A S1) H := by subst e; exact h
theorem uC14 {D : va_G} {Y : Nat → ClassId} {A : Nat → Nat} {S S1 : gS} {H : Heap} {f : Nat → Int32} (e : S1 = sA S 3 f) (h : va_P D vwCl ((wC Y A S).set 14 (A 14, .inl (Y 0, 30, .inl f))) H) : va_P D vwCl (wC Y A S1) H := by subst e; exact h
theorem uC15 {D : va_G} {Y : Nat → ClassId} {A : Nat → Nat} {S S1 : gS} {H : Heap} {f : Nat → Int32} (e : S1 = sA S 4 f) (h : va_P D vwCl ((wC Y A S).set 15 (A 15, .inl (Y 0, 30, .inl f))) H) : va_P D vwCl (wC Y A S1) H := by subst e; exact h
theorem uC16 {D : va_G} {Y : Nat → ClassId} {A : Nat → Nat} {S S1 : gS} {H : Heap} {f : Nat → Int32} (e : S1 = sA S 5 f) (h : va_P D vwCl ((wC Y A S).set 16 (A 16, .inl (Y 0, 30, .inl f))) H) : va_P D vwCl (wC Y A S1) H := by subst e; exact h
theorem uC17 {D : va_G} {Y : Nat → ClassId} {A : Nat → Nat} {S S1 : gS} {H : Heap} {f : Nat → Int32} (e : S1 = sA S 6 f) (h : va_P D vwCl ((wC Y A S).set 17 (A 17, .inl (Y 0, 4, .inl f))) H) : va_P D vwCl (wC Y A S1) H := by subst e; exact h
theorem uC18 {D : va_G} {Y : Nat → ClassId} {A : Nat → Nat} {S S1 : gS} {H : Heap} {f : Nat → Int32} (e : S1 = sA S 7 f) (h : va_P D vwCl ((wC Y A S).set 18 (A 18, .inl (Y 0, 6, .inl f))) H) : va_P D vwCl (wC Y A S1) H := by subst e; exact h
theorem uC19 {D : va_G} {Y : Nat → ClassId} {A : Nat → Nat} {S S1 : gS} {H : Heap} {f : Nat → Int32} (e : S1 = sA S 8 f) (h : va_P D vwCl ((wC Y A S).set 19 (A 19, .inl (Y 0, 6, .inl f))) H) : va_P D vwCl (wC Y A S1) H := by subst e; exact h
theorem uC20 {D : va_G} {Y : Nat → ClassId} {A : Nat → Nat} {S S1 : gS} {H : Heap} {f : Nat → Int32} (e : S1 = sA S 9 f) (h : va_P D vwCl ((wC Y A S).set 20 (A 20, .inl (Y 0, 6, .inl f))) H) : va_P D vwCl (wC Y A S1) H := by subst e; exact h
theorem uC21 {D : va_G} {Y : Nat → ClassId} {A : Nat → Nat} {S S1 : gS} {H : Heap} {f : Nat → Int32} (e : S1 = sA S 10 f) (h : va_P D vwCl ((wC Y A S).set 21 (A 21, .inl (Y 0, 6, .inl f))) H) : va_P D vwCl (wC Y A S1) H := by subst e; exact h
theorem uC22 {D : va_G} {Y : Nat → ClassId} {A : Nat → Nat} {S S1 : gS} {H : Heap} {f : Nat → Int32} (e : S1 = sA S 11 f) (h : va_P D vwCl ((wC Y A S).set 22 (A 22, .inl (Y 0, 6, .inl f))) H) : va_P D vwCl (wC Y A S1) H := by subst e; exact h
theorem uC23 {D : va_G} {Y : Nat → ClassId} {A : Nat → Nat} {S S1 : gS} {H : Heap} {f : Nat → Int32} (e : S1 = sA S 12 f) (h : va_P D vwCl ((wC Y A S).set 23 (A 23, .inl (Y 1, 6, .inl f))) H) : va_P D vwCl (wC Y A S1) H := by subst e; exact h
theorem uC24 {D : va_G} {Y : Nat → ClassId} {A : Nat → Nat} {S S1 : gS} {H : Heap} {f : Nat → Int32} (e : S1 = sA S 13 f) (h : va_P D vwCl ((wC Y A S).set 24 (A 24, .inl (Y 0, 6, .inl f))) H) : va_P D vwCl (wC Y A S1) H := by subst e; exact h
theorem uC25 {D : va_G} {Y : Nat → ClassId} {A : Nat → Nat} {S S1 : gS} {H : Heap} {f : Nat → Int32} (e : S1 = sA S 14 f) (h : va_P D vwCl ((wC Y A S).set 25 (A 25, .inl (Y 0, 8, .inl f))) H) : va_P D vwCl (wC Y A S1) H := by subst e; exact h
theorem uC26 {D : va_G} {Y : Nat → ClassId} {A : Nat → Nat} {S S1 : gS} {H : Heap} {f : Nat → Int32} (e : S1 = sA S 15 f) (h : va_P D vwCl ((wC Y A S).set 26 (A 26, .inl (Y 0, 8, .inl f))) H) : va_P D vwCl (wC Y A S1) H := by subst e; exact h
theorem uC27 {D : va_G} {Y : Nat → ClassId} {A : Nat → Nat} {S S1 : gS} {H : Heap} {f : Nat → Int32} (e : S1 = sA S 16 f) (h : va_P D vwCl ((wC Y A S).set 27 (A 27, .inl (Y 0, 8, .inl f))) H) : va_P D vwCl (wC Y A S1) H := by subst e; exact h
theorem uC28 {D : va_G} {Y : Nat → ClassId} {A : Nat → Nat} {S S1 : gS} {H : Heap} {f : Nat → Int32} (e : S1 = sA S 17 f) (h : va_P D vwCl ((wC Y A S).set 28 (A 28, .inl (Y 0, 8, .inl f))) H) : va_P D vwCl (wC Y A S1) H := by subst e; exact h
theorem uC29 {D : va_G} {Y : Nat → ClassId} {A : Nat → Nat} {S S1 : gS} {H : Heap} {f : Nat → Int32} (e : S1 = sA S 18 f) (h : va_P D vwCl ((wC Y A S).set 29 (A 29, .inl (Y 0, 8, .inl f))) H) : va_P D vwCl (wC Y A S1) H := by subst e; exact h
theorem uC30 {D : va_G} {Y : Nat → ClassId} {A : Nat → Nat} {S S1 : gS} {H : Heap} {f : Nat → Int32} (e : S1 = sA S 19 f) (h : va_P D vwCl ((wC Y A S).set 30 (A 30, .inl (Y 0, 8, .inl f))) H) : va_P D vwCl (wC Y A S1) H := by subst e; exact h
theorem uC31 {D : va_G} {Y : Nat → ClassId} {A : Nat → Nat} {S S1 : gS} {H : Heap} {f : Nat → Int32} (e : S1 = sA S 20 f) (h : va_P D vwCl ((wC Y A S).set 31 (A 31, .inl (Y 0, 8, .inl f))) H) : va_P D vwCl (wC Y A S1) H := by subst e; exact h
theorem uC33 {D : va_G} {Y : Nat → ClassId} {A : Nat → Nat} {S S1 : gS} {H : Heap} {f : Nat → Int32} (e : S1 = sA S 21 f) (h : va_P D vwCl ((wC Y A S).set 33 (A 33, .inl (Y 0, 6, .inl f))) H) : va_P D vwCl (wC Y A S1) H := by subst e; exact h
theorem uC34 {D : va_G} {Y : Nat → ClassId} {A : Nat → Nat} {S S1 : gS} {H : Heap} {f : Nat → Int32} (e : S1 = sA S 22 f) (h : va_P D vwCl ((wC Y A S).set 34 (A 34, .inl (Y 0, 6, .inl f))) H) : va_P D vwCl (wC Y A S1) H := by subst e; exact h
theorem uC35 {D : va_G} {Y : Nat → ClassId} {A : Nat → Nat} {S S1 : gS} {H : Heap} {f : Nat → Int32} (e : S1 = sA S 23 f) (h : va_P D vwCl ((wC Y A S).set 35 (A 35, .inl (Y 0, 6, .inl f))) H) : va_P D vwCl (wC Y A S1) H := by subst e; exact h
theorem uC36 {D : va_G} {Y : Nat → ClassId} {A : Nat → Nat} {S S1 : gS} {H : Heap} {f : Nat → Int32} (e : S1 = sA S 24 f) (h : va_P D vwCl ((wC Y A S).set 36 (A 36, .inl (Y 0, 6, .inl f))) H) : va_P D vwCl (wC Y A S1) H := by subst e; exact h
theorem uC37 {D : va_G} {Y : Nat → ClassId} {A : Nat → Nat} {S S1 : gS} {H : Heap} {f : Nat → Int32} (e : S1 = sA S 25 f) (h : va_P D vwCl ((wC Y A S).set 37 (A 37, .inl (Y 0, 6, .inl f))) H) : va_P D vwCl (wC Y A S1) H := by subst e; exact h
theorem uC38 {D : va_G} {Y : Nat → ClassId} {A : Nat → Nat} {S S1 : gS} {H : Heap} {f : Nat → Int32} (e : S1 = sA S 26 f) (h : va_P D vwCl ((wC Y A S).set 38 (A 38, .inl (Y 0, 6, .inl f))) H) : va_P D vwCl (wC Y A S1) H := by subst e; exact h
theorem uC39 {D : va_G} {Y : Nat → ClassId} {A : Nat → Nat} {S S1 : gS} {H : Heap} {f : Nat → Int32} (e : S1 = sA S 27 f) (h : va_P D vwCl ((wC Y A S).set 39 (A 39, .inl (Y 0, 6, .inl f))) H) : va_P D vwCl (wC Y A S1) H := by subst e; exact h
theorem uC40 {D : va_G} {Y : Nat → ClassId} {A : Nat → Nat} {S S1 : gS} {H : Heap} {f : Nat → Int32} (e : S1 = sA S 28 f) (h : va_P D vwCl ((wC Y A S).set 40 (A 40, .inl (Y 0, 6, .inl f))) H) : va_P D vwCl (wC Y A S1) H := by subst e; exact h
theorem uC41 {D : va_G} {Y : Nat → ClassId} {A : Nat → Nat} {S S1 : gS} {H : Heap} {f : Nat → Int32} (e : S1 = sA S 29 f) (h : va_P D vwCl ((wC Y A S).set 41 (A 41, .inl (Y 0, 12, .inl f))) H) : va_P D vwCl (wC Y A S1) H := by subst e; exact h
theorem uC42 {D : va_G} {Y : Nat → ClassId} {A : Nat → Nat} {S S1 : gS} {H : Heap} {f : Nat → Int32} (e : S1 = sA S 30 f) (h : va_P D vwCl ((wC Y A S).set 42 (A 42, .inl (Y 0, 12, .inl f))) H) : va_P D vwCl (wC Y A S1) H := by subst e; exact h
theorem uC43 {D : va_G} {Y : Nat → ClassId} {A : Nat → Nat} {S S1 : gS} {H : Heap} {f : Nat → Int32} (e : S1 = sA S 31 f) (h : va_P D vwCl ((wC Y A S).set 43 (A 43, .inl (Y 0, 12, .inl f))) H) : va_P D vwCl (wC Y A S1) H := by subst e; exact h
theorem uC44 {D : va_G} {Y : Nat → ClassId} {A : Nat → Nat} {S S1 : gS} {H : Heap} {f : Nat → Int32} (e : S1 = sA S 32 f) (h : va_P D vwCl ((wC Y A S).set 44 (A 44, .inl (Y 0, 12, .inl f))) H) : va_P D vwCl (wC Y A S1) H := by subst e; exact h
theorem uC45 {D : va_G} {Y : Nat → ClassId} {A : Nat → Nat} {S S1 : gS} {H : Heap} {f : Nat → Int32} (e : S1 = sA S 33 f) (h : va_P D vwCl ((wC Y A S).set 45 (A 45, .inl (Y 0, 12, .inl f))) H) : va_P D vwCl (wC Y A S1) H := by subst e; exact h
theorem uC46 {D : va_G} {Y : Nat → ClassId} {A : Nat → Nat} {S S1 : gS} {H : Heap} {f : Nat → Int64} (e : S1 = sC S f) (h : va_P D vwCl ((wC Y A S).set 46 (A 46, .inl (Y 2, 101, .inr (.inl f)))) H) : va_P D vwCl (wC Y A S1) H := by subst e; exact h
theorem uC47 {D : va_G} {Y : Nat → ClassId} {A : Nat → Nat} {S S1 : gS} {H : Heap} {f : Nat → Int32} (e : S1 = sA S 34 f) (h : va_P D vwCl ((wC Y A S).set 47 (A 47, .inl (Y 0, 100, .inl f))) H) : va_P D vwCl (wC Y A S1) H := by subst e; exact h
theorem uC48 {D : va_G} {Y : Nat → ClassId} {A : Nat → Nat} {S S1 : gS} {H : Heap} {f : Nat → Int32} (e : S1 = sA S 35 f) (h : va_P D vwCl ((wC Y A S).set 48 (A 48, .inl (Y 0, 100, .inl f))) H) : va_P D vwCl (wC Y A S1) H := by subst e; exact h
theorem uC49 {D : va_G} {Y : Nat → ClassId} {A : Nat → Nat} {S S1 : gS} {H : Heap} {f : Nat → Int32} (e : S1 = sA S 36 f) (h : va_P D vwCl ((wC Y A S).set 49 (A 49, .inl (Y 0, 100, .inl f))) H) : va_P D vwCl (wC Y A S1) H := by subst e; exact h
theorem uC50 {D : va_G} {Y : Nat → ClassId} {A : Nat → Nat} {S S1 : gS} {H : Heap} {f : Nat → Int32} (e : S1 = sA S 37 f) (h : va_P D vwCl ((wC Y A S).set 50 (A 50, .inl (Y 0, 100, .inl f))) H) : va_P D vwCl (wC Y A S1) H := by subst e; exact h
theorem uC51 {D : va_G} {Y : Nat → ClassId} {A : Nat → Nat} {S S1 : gS} {H : Heap} {f : Nat → Int32} (e : S1 = sA S 38 f) (h : va_P D vwCl ((wC Y A S).set 51 (A 51, .inl (Y 0, 100, .inl f))) H) : va_P D vwCl (wC Y A S1) H := by subst e; exact h
theorem uC52 {D : va_G} {Y : Nat → ClassId} {A : Nat → Nat} {S S1 : gS} {H : Heap} {f : Nat → Int32} (e : S1 = sA S 39 f) (h : va_P D vwCl ((wC Y A S).set 52 (A 52, .inl (Y 0, 100, .inl f))) H) : va_P D vwCl (wC Y A S1) H := by subst e; exact h
theorem uC53 {D : va_G} {Y : Nat → ClassId} {A : Nat → Nat} {S S1 : gS} {H : Heap} {f : Nat → Int32} (e : S1 = sA S 40 f) (h : va_P D vwCl ((wC Y A S).set 53 (A 53, .inl (Y 0, 20, .inl f))) H) : va_P D vwCl (wC Y A S1) H := by subst e; exact h
theorem uC54 {D : va_G} {Y : Nat → ClassId} {A : Nat → Nat} {S S1 : gS} {H : Heap} {f : Nat → Int32} (e : S1 = sA S 41 f) (h : va_P D vwCl ((wC Y A S).set 54 (A 54, .inl (Y 0, 20, .inl f))) H) : va_P D vwCl (wC Y A S1) H := by subst e; exact h
theorem uC55 {D : va_G} {Y : Nat → ClassId} {A : Nat → Nat} {S S1 : gS} {H : Heap} {f : Nat → Int32} (e : S1 = sA S 42 f) (h : va_P D vwCl ((wC Y A S).set 55 (A 55, .inl (Y 0, 20, .inl f))) H) : va_P D vwCl (wC Y A S1) H := by subst e; exact h
theorem uC56 {D : va_G} {Y : Nat → ClassId} {A : Nat → Nat} {S S1 : gS} {H : Heap} {f : Nat → Int32} (e : S1 = sA S 43 f) (h : va_P D vwCl ((wC Y A S).set 56 (A 56, .inl (Y 0, 60, .inl f))) H) : va_P D vwCl (wC Y A S1) H := by subst e; exact h
theorem uC57 {D : va_G} {Y : Nat → ClassId} {A : Nat → Nat} {S S1 : gS} {H : Heap} {f : Nat → Int32} (e : S1 = sA S 44 f) (h : va_P D vwCl ((wC Y A S).set 57 (A 57, .inl (Y 0, 60, .inl f))) H) : va_P D vwCl (wC Y A S1) H := by subst e; exact h
theorem uC58 {D : va_G} {Y : Nat → ClassId} {A : Nat → Nat} {S S1 : gS} {H : Heap} {f : Nat → Int32} (e : S1 = sA S 45 f) (h : va_P D vwCl ((wC Y A S).set 58 (A 58, .inl (Y 0, 60, .inl f))) H) : va_P D vwCl (wC Y A S1) H := by subst e; exact h
theorem uC59 {D : va_G} {Y : Nat → ClassId} {A : Nat → Nat} {S S1 : gS} {H : Heap} {f : Nat → Int32} (e : S1 = sA S 46 f) (h : va_P D vwCl ((wC Y A S).set 59 (A 59, .inl (Y 0, 6, .inl f))) H) : va_P D vwCl (wC Y A S1) H := by subst e; exact h
theorem uC60 {D : va_G} {Y : Nat → ClassId} {A : Nat → Nat} {S S1 : gS} {H : Heap} {f : Nat → Int32} (e : S1 = sA S 47 f) (h : va_P D vwCl ((wC Y A S).set 60 (A 60, .inl (Y 0, 6, .inl f))) H) : va_P D vwCl (wC Y A S1) H := by subst e; exact h
theorem uC61 {D : va_G} {Y : Nat → ClassId} {A : Nat → Nat} {S S1 : gS} {H : Heap} {f : Nat → Int32} (e : S1 = sA S 48 f) (h : va_P D vwCl ((wC Y A S).set 61 (A 61, .inl (Y 0, 34, .inl f))) H) : va_P D vwCl (wC Y A S1) H := by subst e; exact h
theorem uC62 {D : va_G} {Y : Nat → ClassId} {A : Nat → Nat} {S S1 : gS} {H : Heap} {f : Nat → Int32} (e : S1 = sA S 49 f) (h : va_P D vwCl ((wC Y A S).set 62 (A 62, .inl (Y 0, 34, .inl f))) H) : va_P D vwCl (wC Y A S1) H := by subst e; exact h
theorem uC63 {D : va_G} {Y : Nat → ClassId} {A : Nat → Nat} {S S1 : gS} {H : Heap} {f : Nat → Int32} (e : S1 = sA S 50 f) (h : va_P D vwCl ((wC Y A S).set 63 (A 63, .inl (Y 0, 34, .inl f))) H) : va_P D vwCl (wC Y A S1) H := by subst e; exact h
theorem uC64 {D : va_G} {Y : Nat → ClassId} {A : Nat → Nat} {S S1 : gS} {H : Heap} {f : Nat → Int32} (e : S1 = sA S 51 f) (h : va_P D vwCl ((wC Y A S).set 64 (A 64, .inl (Y 0, 6, .inl f))) H) : va_P D vwCl (wC Y A S1) H := by subst e; exact h
theorem arC12 (Y : Nat → ClassId) (A : Nat → Nat) (S : gS) {j : Nat} (h : j < 4) : (wC Y A S)[13 + j]? = some (A (13 + j), .inl (Y 0, 30, .inl (ga S (2 + j)))) := by
  match j, h with
  | 0, _ => rfl
  | 1, _ => rfl
  | 2, _ => rfl
  | 3, _ => rfl
  | j + 4, h => omega
theorem urC12 {D : va_G} {Y : Nat → ClassId} {A : Nat → Nat} {S S1 : gS} {H : Heap} {j : Nat} (hj : j < 4) {f : Nat → Int32} (e : S1 = sA S (2 + j) f) (h : va_P D vwCl ((wC Y A S).set (13 + j) (A (13 + j), .inl (Y 0, 30, .inl f))) H) : va_P D vwCl (wC Y A S1) H := by
  subst e
  match j, hj, h with
  | 0, _, h => exact h
  | 1, _, h => exact h
  | 2, _, h => exact h
  | 3, _, h => exact h
  | j + 4, hj, _ => omega
theorem arC32 (Y : Nat → ClassId) (A : Nat → Nat) (S : gS) {j : Nat} (h : j < 8) : (wC Y A S)[33 + j]? = some (A (33 + j), .inl (Y 0, 6, .inl (ga S (21 + j)))) := by
  match j, h with
  | 0, _ => rfl
  | 1, _ => rfl
  | 2, _ => rfl
  | 3, _ => rfl
  | 4, _ => rfl
  | 5, _ => rfl
  | 6, _ => rfl
  | 7, _ => rfl
  | j + 8, h => omega
theorem urC32 {D : va_G} {Y : Nat → ClassId} {A : Nat → Nat} {S S1 : gS} {H : Heap} {j : Nat} (hj : j < 8) {f : Nat → Int32} (e : S1 = sA S (21 + j) f) (h : va_P D vwCl ((wC Y A S).set (33 + j) (A (33 + j), .inl (Y 0, 6, .inl f))) H) : va_P D vwCl (wC Y A S1) H := by
  subst e
  match j, hj, h with
  | 0, _, h => exact h
  | 1, _, h => exact h
  | 2, _, h => exact h
  | 3, _, h => exact h
  | 4, _, h => exact h
  | 5, _, h => exact h
  | 6, _, h => exact h
  | 7, _, h => exact h
  | j + 8, hj, _ => omega
def iC (A : Nat → Nat) : Prop := ∀ i j, i < 65 → j < 65 → A i = A j → i = j
theorem dC {Y : Nat → ClassId} {A : Nat → Nat} (hI : iC A) (S : gS) {A0 : Nat → Prop} (ha : ∀ k, k < 65 → A0 (A k)) : va_D A0 (wC Y A S) := gD rfl hI ha
/-! the world of M: 44 cells; ints 0 X10.seed, 1 X10.night, 2 X10.boats, 3 X10.hides, 4 X10.lots, 5 X10.drawMany, 6 X10.price, 7 X10.laws, 8 X10.words; longs 0 gameAbove, 1 gameBelow -/
-- arrays: 0 X10.depth, 1 X10.worth, 2 X10.rowSize, 3 X10.row, 4 X10.led, 5 X10.draught, 6 X10.hold, 7 X10.strength, 8 X10.bold, 9 X10.aboard, 10 X10.away, 11 X10.home, 12 X10.fear, 13 X10.hideCove, 14 X10.hideRoom, 15 X10.hideCost, 16 X10.guess, 17 X10.lotBoat, 18 X10.lotCasks, 19 X10.lotNight, 20 X10.lotCove, 21 X10.lotLies, 22 X10.lotHide, 23 X10.standing, 24 X10.shares, 25 X10.bribed, 26 X10.there, 27 X10.came, 28 X10.lawCrew, 29 X10.lawInformer, 30 X10.lawNight, 31 X10.wordOf, 32 X10.wordNight, 33 X10.wordCove, 34 X10.right, 35 X10.wrong, 36 X10.usedLeast, 37 X10.usedMost, 38 X10.usedLaw, 39 X10.coins, 40 X10.refused, 41 X10.between, 42 X10.sorted
def wM (Y : Nat → ClassId) (A : Nat → Nat) (S : gS) : va_W := [(A 0, .inr (10, [.int (gi S 0), .int (gi S 1), .ref (A 1), .ref (A 2), .ref (A 3), .ref (A 4), .ref (A 5), .int (gi S 2), .ref (A 6), .ref (A 7), .ref (A 8), .ref (A 9), .ref (A 10), .ref (A 11), .ref (A 12), .ref (A 13), .int (gi S 3), .ref (A 14), .ref (A 15), .ref (A 16), .ref (A 17), .int (gi S 4), .ref (A 18), .ref (A 19), .ref (A 20), .ref (A 21), .ref (A 22), .ref (A 23), .ref (A 24), .ref (A 25), .ref (A 26), .ref (A 27), .ref (A 28), .int (gi S 5), .int (gi S 6), .int (gi S 7), .ref (A 29), .ref (A 30), .ref (A 31), .int (gi S 8), .ref (A 32), .ref (A 33), .ref (A 34), .ref (A 35), .ref (A 36), .ref (A 37), .ref (A 38), .ref (A 39), .ref (A 40), .ref (A 41), .ref (A 42), .ref (A 43), .long (gl S 0), .long (gl S 1)])), (A 1, .inl (Y 0, 6, .inl (ga S 0))), (A 2, .inl (Y 0, 6, .inl (ga S 1))), (A 3, .inl (Y 0, 4, .inl (ga S 2))), (A 4, .inl (Y 0, 120, .inl (ga S 3))), (A 5, .inl (Y 0, 6, .inl (ga S 4))), (A 6, .inl (Y 0, 8, .inl (ga S 5))), (A 7, .inl (Y 0, 8, .inl (ga S 6))), (A 8, .inl (Y 0, 8, .inl (ga S 7))), (A 9, .inl (Y 0, 8, .inl (ga S 8))), (A 10, .inl (Y 0, 8, .inl (ga S 9))), (A 11, .inl (Y 0, 8, .inl (ga S 10))), (A 12, .inl (Y 0, 8, .inl (ga S 11))), (A 13, .inl (Y 0, 48, .inl (ga S 12))), (A 14, .inl (Y 0, 12, .inl (ga S 13))), (A 15, .inl (Y 0, 12, .inl (ga S 14))), (A 16, .inl (Y 0, 12, .inl (ga S 15))), (A 17, .inl (Y 0, 12, .inl (ga S 16))), (A 18, .inl (Y 0, 100, .inl (ga S 17))), (A 19, .inl (Y 0, 100, .inl (ga S 18))), (A 20, .inl (Y 0, 100, .inl (ga S 19))), (A 21, .inl (Y 0, 100, .inl (ga S 20))), (A 22, .inl (Y 0, 100, .inl (ga S 21))), (A 23, .inl (Y 0, 100, .inl (ga S 22))), (A 24, .inl (Y 0, 6, .inl (ga S 23))), (A 25, .inl (Y 0, 6, .inl (ga S 24))), (A 26, .inl (Y 1, 6, .inl (ga S 25))), (A 27, .inl (Y 0, 6, .inl (ga S 26))), (A 28, .inl (Y 1, 6, .inl (ga S 27))), (A 29, .inl (Y 0, 20, .inl (ga S 28))), (A 30, .inl (Y 0, 20, .inl (ga S 29))), (A 31, .inl (Y 0, 20, .inl (ga S 30))), (A 32, .inl (Y 0, 60, .inl (ga S 31))), (A 33, .inl (Y 0, 60, .inl (ga S 32))), (A 34, .inl (Y 0, 60, .inl (ga S 33))), (A 35, .inl (Y 0, 6, .inl (ga S 34))), (A 36, .inl (Y 0, 6, .inl (ga S 35))), (A 37, .inl (Y 0, 34, .inl (ga S 36))), (A 38, .inl (Y 0, 34, .inl (ga S 37))), (A 39, .inl (Y 0, 34, .inl (ga S 38))), (A 40, .inl (Y 0, 8, .inl (ga S 39))), (A 41, .inl (Y 0, 8, .inl (ga S 40))), (A 42, .inl (Y 0, 30, .inl (ga S 41))), (A 43, .inl (Y 0, 6, .inl (ga S 42)))]
theorem aM0 (Y : Nat → ClassId) (A : Nat → Nat) (S : gS) : (wM Y A S)[0]? = some (A 0, .inr (10, [.int (gi S 0), .int (gi S 1), .ref (A 1), .ref (A 2), .ref (A 3), .ref (A 4), .ref (A 5), .int (gi S 2), .ref (A 6), .ref (A 7), .ref (A 8), .ref (A 9), .ref (A 10), .ref (A 11), .ref (A 12), .ref (A 13), .int (gi S 3), .ref (A 14), .ref (A 15), .ref (A 16), .ref (A 17), .int (gi S 4), .ref (A 18), .ref (A 19), .ref (A 20), .ref (A 21), .ref (A 22), .ref (A 23), .ref (A 24), .ref (A 25), .ref (A 26), .ref (A 27), .ref (A 28), .int (gi S 5), .int (gi S 6), .int (gi S 7), .ref (A 29), .ref (A 30), .ref (A 31), .int (gi S 8), .ref (A 32), .ref (A 33), .ref (A 34), .ref (A 35), .ref (A 36), .ref (A 37), .ref (A 38), .ref (A 39), .ref (A 40), .ref (A 41), .ref (A 42), .ref (A 43), .long (gl S 0), .long (gl S 1)])) := rfl
theorem aM1 (Y : Nat → ClassId) (A : Nat → Nat) (S : gS) : (wM Y A S)[1]? = some (A 1, .inl (Y 0, 6, .inl (ga S 0))) := rfl
theorem aM2 (Y : Nat → ClassId) (A : Nat → Nat) (S : gS) : (wM Y A S)[2]? = some (A 2, .inl (Y 0, 6, .inl (ga S 1))) := rfl
theorem aM3 (Y : Nat → ClassId) (A : Nat → Nat) (S : gS) : (wM Y A S)[3]? = some (A 3, .inl (Y 0, 4, .inl (ga S 2))) := rfl
theorem aM4 (Y : Nat → ClassId) (A : Nat → Nat) (S : gS) : (wM Y A S)[4]? = some (A 4, .inl (Y 0, 120, .inl (ga S 3))) := rfl
theorem aM5 (Y : Nat → ClassId) (A : Nat → Nat) (S : gS) : (wM Y A S)[5]? = some (A 5, .inl (Y 0, 6, .inl (ga S 4))) := rfl
theorem aM6 (Y : Nat → ClassId) (A : Nat → Nat) (S : gS) : (wM Y A S)[6]? = some (A 6, .inl (Y 0, 8, .inl (ga S 5))) := rfl
theorem aM7 (Y : Nat → ClassId) (A : Nat → Nat) (S : gS) : (wM Y A S)[7]? = some (A 7, .inl (Y 0, 8, .inl (ga S 6))) := rfl
theorem aM8 (Y : Nat → ClassId) (A : Nat → Nat) (S : gS) : (wM Y A S)[8]? = some (A 8, .inl (Y 0, 8, .inl (ga S 7))) := rfl
theorem aM9 (Y : Nat → ClassId) (A : Nat → Nat) (S : gS) : (wM Y A S)[9]? = some (A 9, .inl (Y 0, 8, .inl (ga S 8))) := rfl
theorem aM10 (Y : Nat → ClassId) (A : Nat → Nat) (S : gS) : (wM Y A S)[10]? = some (A 10, .inl (Y 0, 8, .inl (ga S 9))) := rfl
theorem aM11 (Y : Nat → ClassId) (A : Nat → Nat) (S : gS) : (wM Y A S)[11]? = some (A 11, .inl (Y 0, 8, .inl (ga S 10))) := rfl
theorem aM12 (Y : Nat → ClassId) (A : Nat → Nat) (S : gS) : (wM Y A S)[12]? = some (A 12, .inl (Y 0, 8, .inl (ga S 11))) := rfl
theorem aM13 (Y : Nat → ClassId) (A : Nat → Nat) (S : gS) : (wM Y A S)[13]? = some (A 13, .inl (Y 0, 48, .inl (ga S 12))) := rfl
theorem aM14 (Y : Nat → ClassId) (A : Nat → Nat) (S : gS) : (wM Y A S)[14]? = some (A 14, .inl (Y 0, 12, .inl (ga S 13))) := rfl
theorem aM15 (Y : Nat → ClassId) (A : Nat → Nat) (S : gS) : (wM Y A S)[15]? = some (A 15, .inl (Y 0, 12, .inl (ga S 14))) := rfl
theorem aM16 (Y : Nat → ClassId) (A : Nat → Nat) (S : gS) : (wM Y A S)[16]? = some (A 16, .inl (Y 0, 12, .inl (ga S 15))) := rfl
theorem aM17 (Y : Nat → ClassId) (A : Nat → Nat) (S : gS) : (wM Y A S)[17]? = some (A 17, .inl (Y 0, 12, .inl (ga S 16))) := rfl
theorem aM18 (Y : Nat → ClassId) (A : Nat → Nat) (S : gS) : (wM Y A S)[18]? = some (A 18, .inl (Y 0, 100, .inl (ga S 17))) := rfl
theorem aM19 (Y : Nat → ClassId) (A : Nat → Nat) (S : gS) : (wM Y A S)[19]? = some (A 19, .inl (Y 0, 100, .inl (ga S 18))) := rfl
theorem aM20 (Y : Nat → ClassId) (A : Nat → Nat) (S : gS) : (wM Y A S)[20]? = some (A 20, .inl (Y 0, 100, .inl (ga S 19))) := rfl
theorem aM21 (Y : Nat → ClassId) (A : Nat → Nat) (S : gS) : (wM Y A S)[21]? = some (A 21, .inl (Y 0, 100, .inl (ga S 20))) := rfl
theorem aM22 (Y : Nat → ClassId) (A : Nat → Nat) (S : gS) : (wM Y A S)[22]? = some (A 22, .inl (Y 0, 100, .inl (ga S 21))) := rfl
theorem aM23 (Y : Nat → ClassId) (A : Nat → Nat) (S : gS) : (wM Y A S)[23]? = some (A 23, .inl (Y 0, 100, .inl (ga S 22))) := rfl
theorem aM24 (Y : Nat → ClassId) (A : Nat → Nat) (S : gS) : (wM Y A S)[24]? = some (A 24, .inl (Y 0, 6, .inl (ga S 23))) := rfl
theorem aM25 (Y : Nat → ClassId) (A : Nat → Nat) (S : gS) : (wM Y A S)[25]? = some (A 25, .inl (Y 0, 6, .inl (ga S 24))) := rfl
theorem aM26 (Y : Nat → ClassId) (A : Nat → Nat) (S : gS) : (wM Y A S)[26]? = some (A 26, .inl (Y 1, 6, .inl (ga S 25))) := rfl
theorem aM27 (Y : Nat → ClassId) (A : Nat → Nat) (S : gS) : (wM Y A S)[27]? = some (A 27, .inl (Y 0, 6, .inl (ga S 26))) := rfl
theorem aM28 (Y : Nat → ClassId) (A : Nat → Nat) (S : gS) : (wM Y A S)[28]? = some (A 28, .inl (Y 1, 6, .inl (ga S 27))) := rfl
theorem aM29 (Y : Nat → ClassId) (A : Nat → Nat) (S : gS) : (wM Y A S)[29]? = some (A 29, .inl (Y 0, 20, .inl (ga S 28))) := rfl
theorem aM30 (Y : Nat → ClassId) (A : Nat → Nat) (S : gS) : (wM Y A S)[30]? = some (A 30, .inl (Y 0, 20, .inl (ga S 29))) := rfl
theorem aM31 (Y : Nat → ClassId) (A : Nat → Nat) (S : gS) : (wM Y A S)[31]? = some (A 31, .inl (Y 0, 20, .inl (ga S 30))) := rfl
theorem aM32 (Y : Nat → ClassId) (A : Nat → Nat) (S : gS) : (wM Y A S)[32]? = some (A 32, .inl (Y 0, 60, .inl (ga S 31))) := rfl
theorem aM33 (Y : Nat → ClassId) (A : Nat → Nat) (S : gS) : (wM Y A S)[33]? = some (A 33, .inl (Y 0, 60, .inl (ga S 32))) := rfl
theorem aM34 (Y : Nat → ClassId) (A : Nat → Nat) (S : gS) : (wM Y A S)[34]? = some (A 34, .inl (Y 0, 60, .inl (ga S 33))) := rfl
theorem aM35 (Y : Nat → ClassId) (A : Nat → Nat) (S : gS) : (wM Y A S)[35]? = some (A 35, .inl (Y 0, 6, .inl (ga S 34))) := rfl
theorem aM36 (Y : Nat → ClassId) (A : Nat → Nat) (S : gS) : (wM Y A S)[36]? = some (A 36, .inl (Y 0, 6, .inl (ga S 35))) := rfl
theorem aM37 (Y : Nat → ClassId) (A : Nat → Nat) (S : gS) : (wM Y A S)[37]? = some (A 37, .inl (Y 0, 34, .inl (ga S 36))) := rfl
theorem aM38 (Y : Nat → ClassId) (A : Nat → Nat) (S : gS) : (wM Y A S)[38]? = some (A 38, .inl (Y 0, 34, .inl (ga S 37))) := rfl
theorem aM39 (Y : Nat → ClassId) (A : Nat → Nat) (S : gS) : (wM Y A S)[39]? = some (A 39, .inl (Y 0, 34, .inl (ga S 38))) := rfl
theorem aM40 (Y : Nat → ClassId) (A : Nat → Nat) (S : gS) : (wM Y A S)[40]? = some (A 40, .inl (Y 0, 8, .inl (ga S 39))) := rfl
theorem aM41 (Y : Nat → ClassId) (A : Nat → Nat) (S : gS) : (wM Y A S)[41]? = some (A 41, .inl (Y 0, 8, .inl (ga S 40))) := rfl
theorem aM42 (Y : Nat → ClassId) (A : Nat → Nat) (S : gS) : (wM Y A S)[42]? = some (A 42, .inl (Y 0, 30, .inl (ga S 41))) := rfl
theorem aM43 (Y : Nat → ClassId) (A : Nat → Nat) (S : gS) : (wM Y A S)[43]? = some (A 43, .inl (Y 0, 6, .inl (ga S 42))) := rfl
theorem pM0_0 {D : va_G} {Y : Nat → ClassId} {A : Nat → Nat} {S S1 : gS} {H : Heap} {v : Int32} (e : S1 = sI S 0 v) (h : va_P D vwCl ((wM Y A S).set 0 (A 0, .inr (10, ([.int (gi S 0), .int (gi S 1), .ref (A 1), .ref (A 2), .ref (A 3), .ref (A 4), .ref (A 5), .int (gi S 2), .ref (A 6), .ref (A 7), .ref (A 8), .ref (A 9), .ref (A 10), .ref (A 11), .ref (A 12), .ref (A 13), .int (gi S 3), .ref (A 14), .ref (A 15), .ref (A 16), .ref (A 17), .int (gi S 4), .ref (A 18), .ref (A 19), .ref (A 20), .ref (A 21), .ref (A 22), .ref (A 23), .ref (A 24), .ref (A 25), .ref (A 26), .ref (A 27), .ref (A 28), .int (gi S 5), .int (gi S 6), .int (gi S 7), .ref (A 29), .ref (A 30), .ref (A 31), .int (gi S 8), .ref (A 32), .ref (A 33), .ref (A 34), .ref (A 35), .ref (A 36), .ref (A 37), .ref (A 38), .ref (A 39), .ref (A 40), .ref (A 41), .ref (A 42), .ref (A 43), .long (gl S 0), .long (gl S 1)] : List Value).set 0 (.int v)))) H) : va_P D vwCl (wM Y A S1) H := by subst e; exact h
theorem pM0_1 {D : va_G} {Y : Nat → ClassId} {A : Nat → Nat} {S S1 : gS} {H : Heap} {v : Int32} (e : S1 = sI S 1 v) (h : va_P D vwCl ((wM Y A S).set 0 (A 0, .inr (10, ([.int (gi S 0), .int (gi S 1), .ref (A 1), .ref (A 2), .ref (A 3), .ref (A 4), .ref (A 5), .int (gi S 2), .ref (A 6), .ref (A 7), .ref (A 8), .ref (A 9), .ref (A 10), .ref (A 11), .ref (A 12), .ref (A 13), .int (gi S 3), .ref (A 14), .ref (A 15), .ref (A 16), .ref (A 17), .int (gi S 4), .ref (A 18), .ref (A 19), .ref (A 20), .ref (A 21), .ref (A 22), .ref (A 23), .ref (A 24), .ref (A 25), .ref (A 26), .ref (A 27), .ref (A 28), .int (gi S 5), .int (gi S 6), .int (gi S 7), .ref (A 29), .ref (A 30), .ref (A 31), .int (gi S 8), .ref (A 32), .ref (A 33), .ref (A 34), .ref (A 35), .ref (A 36), .ref (A 37), .ref (A 38), .ref (A 39), .ref (A 40), .ref (A 41), .ref (A 42), .ref (A 43), .long (gl S 0), .long (gl S 1)] : List Value).set 1 (.int v)))) H) : va_P D vwCl (wM Y A S1) H := by subst e; exact h
theorem pM0_7 {D : va_G} {Y : Nat → ClassId} {A : Nat → Nat} {S S1 : gS} {H : Heap} {v : Int32} (e : S1 = sI S 2 v) (h : va_P D vwCl ((wM Y A S).set 0 (A 0, .inr (10, ([.int (gi S 0), .int (gi S 1), .ref (A 1), .ref (A 2), .ref (A 3), .ref (A 4), .ref (A 5), .int (gi S 2), .ref (A 6), .ref (A 7), .ref (A 8), .ref (A 9), .ref (A 10), .ref (A 11), .ref (A 12), .ref (A 13), .int (gi S 3), .ref (A 14), .ref (A 15), .ref (A 16), .ref (A 17), .int (gi S 4), .ref (A 18), .ref (A 19), .ref (A 20), .ref (A 21), .ref (A 22), .ref (A 23), .ref (A 24), .ref (A 25), .ref (A 26), .ref (A 27), .ref (A 28), .int (gi S 5), .int (gi S 6), .int (gi S 7), .ref (A 29), .ref (A 30), .ref (A 31), .int (gi S 8), .ref (A 32), .ref (A 33), .ref (A 34), .ref (A 35), .ref (A 36), .ref (A 37), .ref (A 38), .ref (A 39), .ref (A 40), .ref (A 41), .ref (A 42), .ref (A 43), .long (gl S 0), .long (gl S 1)] : List Value).set 7 (.int v)))) H) : va_P D vwCl (wM Y A S1) H := by subst e; exact h
theorem pM0_16 {D : va_G} {Y : Nat → ClassId} {A : Nat → Nat} {S S1 : gS} {H : Heap} {v : Int32} (e : S1 = sI S 3 v) (h : va_P D vwCl ((wM Y A S).set 0 (A 0, .inr (10, ([.int (gi S 0), .int (gi S 1), .ref (A 1), .ref (A 2), .ref (A 3), .ref (A 4), .ref (A 5), .int (gi S 2), .ref (A 6), .ref (A 7), .ref (A 8), .ref (A 9), .ref (A 10), .ref (A 11), .ref (A 12), .ref (A 13), .int (gi S 3), .ref (A 14), .ref (A 15), .ref (A 16), .ref (A 17), .int (gi S 4), .ref (A 18), .ref (A 19), .ref (A 20), .ref (A 21), .ref (A 22), .ref (A 23), .ref (A 24), .ref (A 25), .ref (A 26), .ref (A 27), .ref (A 28), .int (gi S 5), .int (gi S 6), .int (gi S 7), .ref (A 29), .ref (A 30), .ref (A 31), .int (gi S 8), .ref (A 32), .ref (A 33), .ref (A 34), .ref (A 35), .ref (A 36), .ref (A 37), .ref (A 38), .ref (A 39), .ref (A 40), .ref (A 41), .ref (A 42), .ref (A 43), .long (gl S 0), .long (gl S 1)] : List Value).set 16 (.int v)))) H) : va_P D vwCl (wM Y A S1) H := by subst e; exact h
theorem pM0_21 {D : va_G} {Y : Nat → ClassId} {A : Nat → Nat} {S S1 : gS} {H : Heap} {v : Int32} (e : S1 = sI S 4 v) (h : va_P D vwCl ((wM Y A S).set 0 (A 0, .inr (10, ([.int (gi S 0), .int (gi S 1), .ref (A 1), .ref (A 2), .ref (A 3), .ref (A 4), .ref (A 5), .int (gi S 2), .ref (A 6), .ref (A 7), .ref (A 8), .ref (A 9), .ref (A 10), .ref (A 11), .ref (A 12), .ref (A 13), .int (gi S 3), .ref (A 14), .ref (A 15), .ref (A 16), .ref (A 17), .int (gi S 4), .ref (A 18), .ref (A 19), .ref (A 20), .ref (A 21), .ref (A 22), .ref (A 23), .ref (A 24), .ref (A 25), .ref (A 26), .ref (A 27), .ref (A 28), .int (gi S 5), .int (gi S 6), .int (gi S 7), .ref (A 29), .ref (A 30), .ref (A 31), .int (gi S 8), .ref (A 32), .ref (A 33), .ref (A 34), .ref (A 35), .ref (A 36), .ref (A 37), .ref (A 38), .ref (A 39), .ref (A 40), .ref (A 41), .ref (A 42), .ref (A 43), .long (gl S 0), .long (gl S 1)] : List Value).set 21 (.int v)))) H) : va_P D vwCl (wM Y A S1) H := by subst e; exact h
theorem pM0_33 {D : va_G} {Y : Nat → ClassId} {A : Nat → Nat} {S S1 : gS} {H : Heap} {v : Int32} (e : S1 = sI S 5 v) (h : va_P D vwCl ((wM Y A S).set 0 (A 0, .inr (10, ([.int (gi S 0), .int (gi S 1), .ref (A 1), .ref (A 2), .ref (A 3), .ref (A 4), .ref (A 5), .int (gi S 2), .ref (A 6), .ref (A 7), .ref (A 8), .ref (A 9), .ref (A 10), .ref (A 11), .ref (A 12), .ref (A 13), .int (gi S 3), .ref (A 14), .ref (A 15), .ref (A 16), .ref (A 17), .int (gi S 4), .ref (A 18), .ref (A 19), .ref (A 20), .ref (A 21), .ref (A 22), .ref (A 23), .ref (A 24), .ref (A 25), .ref (A 26), .ref (A 27), .ref (A 28), .int (gi S 5), .int (gi S 6), .int (gi S 7), .ref (A 29), .ref (A 30), .ref (A 31), .int (gi S 8), .ref (A 32), .ref (A 33), .ref (A 34), .ref (A 35), .ref (A 36), .ref (A 37), .ref (A 38), .ref (A 39), .ref (A 40), .ref (A 41), .ref (A 42), .ref (A 43), .long (gl S 0), .long (gl S 1)] : List Value).set 33 (.int v)))) H) : va_P D vwCl (wM Y A S1) H := by subst e; exact h
theorem pM0_34 {D : va_G} {Y : Nat → ClassId} {A : Nat → Nat} {S S1 : gS} {H : Heap} {v : Int32} (e : S1 = sI S 6 v) (h : va_P D vwCl ((wM Y A S).set 0 (A 0, .inr (10, ([.int (gi S 0), .int (gi S 1), .ref (A 1), .ref (A 2), .ref (A 3), .ref (A 4), .ref (A 5), .int (gi S 2), .ref (A 6), .ref (A 7), .ref (A 8), .ref (A 9), .ref (A 10), .ref (A 11), .ref (A 12), .ref (A 13), .int (gi S 3), .ref (A 14), .ref (A 15), .ref (A 16), .ref (A 17), .int (gi S 4), .ref (A 18), .ref (A 19), .ref (A 20), .ref (A 21), .ref (A 22), .ref (A 23), .ref (A 24), .ref (A 25), .ref (A 26), .ref (A 27), .ref (A 28), .int (gi S 5), .int (gi S 6), .int (gi S 7), .ref (A 29), .ref (A 30), .ref (A 31), .int (gi S 8), .ref (A 32), .ref (A 33), .ref (A 34), .ref (A 35), .ref (A 36), .ref (A 37), .ref (A 38), .ref (A 39), .ref (A 40), .ref (A 41), .ref (A 42), .ref (A 43), .long (gl S 0), .long (gl S 1)] : List Value).set 34 (.int v)))) H) : va_P D vwCl (wM Y A S1) H := by subst e; exact h
theorem pM0_35 {D : va_G} {Y : Nat → ClassId} {A : Nat → Nat} {S S1 : gS} {H : Heap} {v : Int32} (e : S1 = sI S 7 v) (h : va_P D vwCl ((wM Y A S).set 0 (A 0, .inr (10, ([.int (gi S 0), .int (gi S 1), .ref (A 1), .ref (A 2), .ref (A 3), .ref (A 4), .ref (A 5), .int (gi S 2), .ref (A 6), .ref (A 7), .ref (A 8), .ref (A 9), .ref (A 10), .ref (A 11), .ref (A 12), .ref (A 13), .int (gi S 3), .ref (A 14), .ref (A 15), .ref (A 16), .ref (A 17), .int (gi S 4), .ref (A 18), .ref (A 19), .ref (A 20), .ref (A 21), .ref (A 22), .ref (A 23), .ref (A 24), .ref (A 25), .ref (A 26), .ref (A 27), .ref (A 28), .int (gi S 5), .int (gi S 6), .int (gi S 7), .ref (A 29), .ref (A 30), .ref (A 31), .int (gi S 8), .ref (A 32), .ref (A 33), .ref (A 34), .ref (A 35), .ref (A 36), .ref (A 37), .ref (A 38), .ref (A 39), .ref (A 40), .ref (A 41), .ref (A 42), .ref (A 43), .long (gl S 0), .long (gl S 1)] : List Value).set 35 (.int v)))) H) : va_P D vwCl (wM Y A S1) H := by subst e; exact h
theorem pM0_39 {D : va_G} {Y : Nat → ClassId} {A : Nat → Nat} {S S1 : gS} {H : Heap} {v : Int32} (e : S1 = sI S 8 v) (h : va_P D vwCl ((wM Y A S).set 0 (A 0, .inr (10, ([.int (gi S 0), .int (gi S 1), .ref (A 1), .ref (A 2), .ref (A 3), .ref (A 4), .ref (A 5), .int (gi S 2), .ref (A 6), .ref (A 7), .ref (A 8), .ref (A 9), .ref (A 10), .ref (A 11), .ref (A 12), .ref (A 13), .int (gi S 3), .ref (A 14), .ref (A 15), .ref (A 16), .ref (A 17), .int (gi S 4), .ref (A 18), .ref (A 19), .ref (A 20), .ref (A 21), .ref (A 22), .ref (A 23), .ref (A 24), .ref (A 25), .ref (A 26), .ref (A 27), .ref (A 28), .int (gi S 5), .int (gi S 6), .int (gi S 7), .ref (A 29), .ref (A 30), .ref (A 31), .int (gi S 8), .ref (A 32), .ref (A 33), .ref (A 34), .ref (A 35), .ref (A 36), .ref (A 37), .ref (A 38), .ref (A 39), .ref (A 40), .ref (A 41), .ref (A 42), .ref (A 43), .long (gl S 0), .long (gl S 1)] : List Value).set 39 (.int v)))) H) : va_P D vwCl (wM Y A S1) H := by subst e; exact h
theorem pM0_52 {D : va_G} {Y : Nat → ClassId} {A : Nat → Nat} {S S1 : gS} {H : Heap} {v : Int64} (e : S1 = sL S 0 v) (h : va_P D vwCl ((wM Y A S).set 0 (A 0, .inr (10, ([.int (gi S 0), .int (gi S 1), .ref (A 1), .ref (A 2), .ref (A 3), .ref (A 4), .ref (A 5), .int (gi S 2), .ref (A 6), .ref (A 7), .ref (A 8), .ref (A 9), .ref (A 10), .ref (A 11), .ref (A 12), .ref (A 13), .int (gi S 3), .ref (A 14), .ref (A 15), .ref (A 16), .ref (A 17), .int (gi S 4), .ref (A 18), .ref (A 19), .ref (A 20), .ref (A 21), .ref (A 22), .ref (A 23), .ref (A 24), .ref (A 25), .ref (A 26), .ref (A 27), .ref (A 28), .int (gi S 5), .int (gi S 6), .int (gi S 7), .ref (A 29), .ref (A 30), .ref (A 31), .int (gi S 8), .ref (A 32), .ref (A 33), .ref (A 34), .ref (A 35), .ref (A 36), .ref (A 37), .ref (A 38), .ref (A 39), .ref (A 40), .ref (A 41), .ref (A 42), .ref (A 43), .long (gl S 0), .long (gl S 1)] : List Value).set 52 (.long v)))) H) : va_P D vwCl (wM Y A S1) H := by subst e; exact h
theorem pM0_53 {D : va_G} {Y : Nat → ClassId} {A : Nat → Nat} {S S1 : gS} {H : Heap} {v : Int64} (e : S1 = sL S 1 v) (h : va_P D vwCl ((wM Y A S).set 0 (A 0, .inr (10, ([.int (gi S 0), .int (gi S 1), .ref (A 1), .ref (A 2), .ref (A 3), .ref (A 4), .ref (A 5), .int (gi S 2), .ref (A 6), .ref (A 7), .ref (A 8), .ref (A 9), .ref (A 10), .ref (A 11), .ref (A 12), .ref (A 13), .int (gi S 3), .ref (A 14), .ref (A 15), .ref (A 16), .ref (A 17), .int (gi S 4), .ref (A 18), .ref (A 19), .ref (A 20), .ref (A 21), .ref (A 22), .ref (A 23), .ref (A 24), .ref (A 25), .ref (A 26), .ref (A 27), .ref (A 28), .int (gi S 5), .int (gi S 6), .int (gi S 7), .ref (A 29), .ref (A 30), .ref (A 31), .int (gi S 8), .ref (A 32), .ref (A 33), .ref (A 34), .ref (A 35), .ref (A 36), .ref (A 37), .ref (A 38), .ref (A 39), .ref (A 40), .ref (A 41), .ref (A 42), .ref (A 43), .long (gl S 0), .long (gl S 1)] : List Value).set 53 (.long v)))) H) : va_P D vwCl (wM Y A S1) H := by subst e; exact h
theorem uM1 {D : va_G} {Y : Nat → ClassId} {A : Nat → Nat} {S S1 : gS} {H : Heap} {f : Nat → Int32} (e : S1 = sA S 0 f) (h : va_P D vwCl ((wM Y A S).set 1 (A 1, .inl (Y 0, 6, .inl f))) H) : va_P D vwCl (wM Y A S1) H := by subst e; exact h
theorem uM2 {D : va_G} {Y : Nat → ClassId} {A : Nat → Nat} {S S1 : gS} {H : Heap} {f : Nat → Int32} (e : S1 = sA S 1 f) (h : va_P D vwCl ((wM Y A S).set 2 (A 2, .inl (Y 0, 6, .inl f))) H) : va_P D vwCl (wM Y A S1) H := by subst e; exact h
theorem uM3 {D : va_G} {Y : Nat → ClassId} {A : Nat → Nat} {S S1 : gS} {H : Heap} {f : Nat → Int32} (e : S1 = sA S 2 f) (h : va_P D vwCl ((wM Y A S).set 3 (A 3, .inl (Y 0, 4, .inl f))) H) : va_P D vwCl (wM Y A S1) H := by subst e; exact h
theorem uM4 {D : va_G} {Y : Nat → ClassId} {A : Nat → Nat} {S S1 : gS} {H : Heap} {f : Nat → Int32} (e : S1 = sA S 3 f) (h : va_P D vwCl ((wM Y A S).set 4 (A 4, .inl (Y 0, 120, .inl f))) H) : va_P D vwCl (wM Y A S1) H := by subst e; exact h
theorem uM5 {D : va_G} {Y : Nat → ClassId} {A : Nat → Nat} {S S1 : gS} {H : Heap} {f : Nat → Int32} (e : S1 = sA S 4 f) (h : va_P D vwCl ((wM Y A S).set 5 (A 5, .inl (Y 0, 6, .inl f))) H) : va_P D vwCl (wM Y A S1) H := by subst e; exact h
theorem uM6 {D : va_G} {Y : Nat → ClassId} {A : Nat → Nat} {S S1 : gS} {H : Heap} {f : Nat → Int32} (e : S1 = sA S 5 f) (h : va_P D vwCl ((wM Y A S).set 6 (A 6, .inl (Y 0, 8, .inl f))) H) : va_P D vwCl (wM Y A S1) H := by subst e; exact h
theorem uM7 {D : va_G} {Y : Nat → ClassId} {A : Nat → Nat} {S S1 : gS} {H : Heap} {f : Nat → Int32} (e : S1 = sA S 6 f) (h : va_P D vwCl ((wM Y A S).set 7 (A 7, .inl (Y 0, 8, .inl f))) H) : va_P D vwCl (wM Y A S1) H := by subst e; exact h
theorem uM8 {D : va_G} {Y : Nat → ClassId} {A : Nat → Nat} {S S1 : gS} {H : Heap} {f : Nat → Int32} (e : S1 = sA S 7 f) (h : va_P D vwCl ((wM Y A S).set 8 (A 8, .inl (Y 0, 8, .inl f))) H) : va_P D vwCl (wM Y A S1) H := by subst e; exact h
theorem uM9 {D : va_G} {Y : Nat → ClassId} {A : Nat → Nat} {S S1 : gS} {H : Heap} {f : Nat → Int32} (e : S1 = sA S 8 f) (h : va_P D vwCl ((wM Y A S).set 9 (A 9, .inl (Y 0, 8, .inl f))) H) : va_P D vwCl (wM Y A S1) H := by subst e; exact h
theorem uM10 {D : va_G} {Y : Nat → ClassId} {A : Nat → Nat} {S S1 : gS} {H : Heap} {f : Nat → Int32} (e : S1 = sA S 9 f) (h : va_P D vwCl ((wM Y A S).set 10 (A 10, .inl (Y 0, 8, .inl f))) H) : va_P D vwCl (wM Y A S1) H := by subst e; exact h
theorem uM11 {D : va_G} {Y : Nat → ClassId} {A : Nat → Nat} {S S1 : gS} {H : Heap} {f : Nat → Int32} (e : S1 = sA S 10 f) (h : va_P D vwCl ((wM Y A S).set 11 (A 11, .inl (Y 0, 8, .inl f))) H) : va_P D vwCl (wM Y A S1) H := by subst e; exact h
theorem uM12 {D : va_G} {Y : Nat → ClassId} {A : Nat → Nat} {S S1 : gS} {H : Heap} {f : Nat → Int32} (e : S1 = sA S 11 f) (h : va_P D vwCl ((wM Y A S).set 12 (A 12, .inl (Y 0, 8, .inl f))) H) : va_P D vwCl (wM Y A S1) H := by subst e; exact h
theorem uM13 {D : va_G} {Y : Nat → ClassId} {A : Nat → Nat} {S S1 : gS} {H : Heap} {f : Nat → Int32} (e : S1 = sA S 12 f) (h : va_P D vwCl ((wM Y A S).set 13 (A 13, .inl (Y 0, 48, .inl f))) H) : va_P D vwCl (wM Y A S1) H := by subst e; exact h
theorem uM14 {D : va_G} {Y : Nat → ClassId} {A : Nat → Nat} {S S1 : gS} {H : Heap} {f : Nat → Int32} (e : S1 = sA S 13 f) (h : va_P D vwCl ((wM Y A S).set 14 (A 14, .inl (Y 0, 12, .inl f))) H) : va_P D vwCl (wM Y A S1) H := by subst e; exact h
theorem uM15 {D : va_G} {Y : Nat → ClassId} {A : Nat → Nat} {S S1 : gS} {H : Heap} {f : Nat → Int32} (e : S1 = sA S 14 f) (h : va_P D vwCl ((wM Y A S).set 15 (A 15, .inl (Y 0, 12, .inl f))) H) : va_P D vwCl (wM Y A S1) H := by subst e; exact h
theorem uM16 {D : va_G} {Y : Nat → ClassId} {A : Nat → Nat} {S S1 : gS} {H : Heap} {f : Nat → Int32} (e : S1 = sA S 15 f) (h : va_P D vwCl ((wM Y A S).set 16 (A 16, .inl (Y 0, 12, .inl f))) H) : va_P D vwCl (wM Y A S1) H := by subst e; exact h
theorem uM17 {D : va_G} {Y : Nat → ClassId} {A : Nat → Nat} {S S1 : gS} {H : Heap} {f : Nat → Int32} (e : S1 = sA S 16 f) (h : va_P D vwCl ((wM Y A S).set 17 (A 17, .inl (Y 0, 12, .inl f))) H) : va_P D vwCl (wM Y A S1) H := by subst e; exact h
theorem uM18 {D : va_G} {Y : Nat → ClassId} {A : Nat → Nat} {S S1 : gS} {H : Heap} {f : Nat → Int32} (e : S1 = sA S 17 f) (h : va_P D vwCl ((wM Y A S).set 18 (A 18, .inl (Y 0, 100, .inl f))) H) : va_P D vwCl (wM Y A S1) H := by subst e; exact h
theorem uM19 {D : va_G} {Y : Nat → ClassId} {A : Nat → Nat} {S S1 : gS} {H : Heap} {f : Nat → Int32} (e : S1 = sA S 18 f) (h : va_P D vwCl ((wM Y A S).set 19 (A 19, .inl (Y 0, 100, .inl f))) H) : va_P D vwCl (wM Y A S1) H := by subst e; exact h
theorem uM20 {D : va_G} {Y : Nat → ClassId} {A : Nat → Nat} {S S1 : gS} {H : Heap} {f : Nat → Int32} (e : S1 = sA S 19 f) (h : va_P D vwCl ((wM Y A S).set 20 (A 20, .inl (Y 0, 100, .inl f))) H) : va_P D vwCl (wM Y A S1) H := by subst e; exact h
theorem uM21 {D : va_G} {Y : Nat → ClassId} {A : Nat → Nat} {S S1 : gS} {H : Heap} {f : Nat → Int32} (e : S1 = sA S 20 f) (h : va_P D vwCl ((wM Y A S).set 21 (A 21, .inl (Y 0, 100, .inl f))) H) : va_P D vwCl (wM Y A S1) H := by subst e; exact h
theorem uM22 {D : va_G} {Y : Nat → ClassId} {A : Nat → Nat} {S S1 : gS} {H : Heap} {f : Nat → Int32} (e : S1 = sA S 21 f) (h : va_P D vwCl ((wM Y A S).set 22 (A 22, .inl (Y 0, 100, .inl f))) H) : va_P D vwCl (wM Y A S1) H := by subst e; exact h
theorem uM23 {D : va_G} {Y : Nat → ClassId} {A : Nat → Nat} {S S1 : gS} {H : Heap} {f : Nat → Int32} (e : S1 = sA S 22 f) (h : va_P D vwCl ((wM Y A S).set 23 (A 23, .inl (Y 0, 100, .inl f))) H) : va_P D vwCl (wM Y A S1) H := by subst e; exact h
theorem uM24 {D : va_G} {Y : Nat → ClassId} {A : Nat → Nat} {S S1 : gS} {H : Heap} {f : Nat → Int32} (e : S1 = sA S 23 f) (h : va_P D vwCl ((wM Y A S).set 24 (A 24, .inl (Y 0, 6, .inl f))) H) : va_P D vwCl (wM Y A S1) H := by subst e; exact h
theorem uM25 {D : va_G} {Y : Nat → ClassId} {A : Nat → Nat} {S S1 : gS} {H : Heap} {f : Nat → Int32} (e : S1 = sA S 24 f) (h : va_P D vwCl ((wM Y A S).set 25 (A 25, .inl (Y 0, 6, .inl f))) H) : va_P D vwCl (wM Y A S1) H := by subst e; exact h
theorem uM26 {D : va_G} {Y : Nat → ClassId} {A : Nat → Nat} {S S1 : gS} {H : Heap} {f : Nat → Int32} (e : S1 = sA S 25 f) (h : va_P D vwCl ((wM Y A S).set 26 (A 26, .inl (Y 1, 6, .inl f))) H) : va_P D vwCl (wM Y A S1) H := by subst e; exact h
theorem uM27 {D : va_G} {Y : Nat → ClassId} {A : Nat → Nat} {S S1 : gS} {H : Heap} {f : Nat → Int32} (e : S1 = sA S 26 f) (h : va_P D vwCl ((wM Y A S).set 27 (A 27, .inl (Y 0, 6, .inl f))) H) : va_P D vwCl (wM Y A S1) H := by subst e; exact h
theorem uM28 {D : va_G} {Y : Nat → ClassId} {A : Nat → Nat} {S S1 : gS} {H : Heap} {f : Nat → Int32} (e : S1 = sA S 27 f) (h : va_P D vwCl ((wM Y A S).set 28 (A 28, .inl (Y 1, 6, .inl f))) H) : va_P D vwCl (wM Y A S1) H := by subst e; exact h
theorem uM29 {D : va_G} {Y : Nat → ClassId} {A : Nat → Nat} {S S1 : gS} {H : Heap} {f : Nat → Int32} (e : S1 = sA S 28 f) (h : va_P D vwCl ((wM Y A S).set 29 (A 29, .inl (Y 0, 20, .inl f))) H) : va_P D vwCl (wM Y A S1) H := by subst e; exact h
theorem uM30 {D : va_G} {Y : Nat → ClassId} {A : Nat → Nat} {S S1 : gS} {H : Heap} {f : Nat → Int32} (e : S1 = sA S 29 f) (h : va_P D vwCl ((wM Y A S).set 30 (A 30, .inl (Y 0, 20, .inl f))) H) : va_P D vwCl (wM Y A S1) H := by subst e; exact h
theorem uM31 {D : va_G} {Y : Nat → ClassId} {A : Nat → Nat} {S S1 : gS} {H : Heap} {f : Nat → Int32} (e : S1 = sA S 30 f) (h : va_P D vwCl ((wM Y A S).set 31 (A 31, .inl (Y 0, 20, .inl f))) H) : va_P D vwCl (wM Y A S1) H := by subst e; exact h
theorem uM32 {D : va_G} {Y : Nat → ClassId} {A : Nat → Nat} {S S1 : gS} {H : Heap} {f : Nat → Int32} (e : S1 = sA S 31 f) (h : va_P D vwCl ((wM Y A S).set 32 (A 32, .inl (Y 0, 60, .inl f))) H) : va_P D vwCl (wM Y A S1) H := by subst e; exact h
theorem uM33 {D : va_G} {Y : Nat → ClassId} {A : Nat → Nat} {S S1 : gS} {H : Heap} {f : Nat → Int32} (e : S1 = sA S 32 f) (h : va_P D vwCl ((wM Y A S).set 33 (A 33, .inl (Y 0, 60, .inl f))) H) : va_P D vwCl (wM Y A S1) H := by subst e; exact h
theorem uM34 {D : va_G} {Y : Nat → ClassId} {A : Nat → Nat} {S S1 : gS} {H : Heap} {f : Nat → Int32} (e : S1 = sA S 33 f) (h : va_P D vwCl ((wM Y A S).set 34 (A 34, .inl (Y 0, 60, .inl f))) H) : va_P D vwCl (wM Y A S1) H := by subst e; exact h
theorem uM35 {D : va_G} {Y : Nat → ClassId} {A : Nat → Nat} {S S1 : gS} {H : Heap} {f : Nat → Int32} (e : S1 = sA S 34 f) (h : va_P D vwCl ((wM Y A S).set 35 (A 35, .inl (Y 0, 6, .inl f))) H) : va_P D vwCl (wM Y A S1) H := by subst e; exact h
theorem uM36 {D : va_G} {Y : Nat → ClassId} {A : Nat → Nat} {S S1 : gS} {H : Heap} {f : Nat → Int32} (e : S1 = sA S 35 f) (h : va_P D vwCl ((wM Y A S).set 36 (A 36, .inl (Y 0, 6, .inl f))) H) : va_P D vwCl (wM Y A S1) H := by subst e; exact h
theorem uM37 {D : va_G} {Y : Nat → ClassId} {A : Nat → Nat} {S S1 : gS} {H : Heap} {f : Nat → Int32} (e : S1 = sA S 36 f) (h : va_P D vwCl ((wM Y A S).set 37 (A 37, .inl (Y 0, 34, .inl f))) H) : va_P D vwCl (wM Y A S1) H := by subst e; exact h
theorem uM38 {D : va_G} {Y : Nat → ClassId} {A : Nat → Nat} {S S1 : gS} {H : Heap} {f : Nat → Int32} (e : S1 = sA S 37 f) (h : va_P D vwCl ((wM Y A S).set 38 (A 38, .inl (Y 0, 34, .inl f))) H) : va_P D vwCl (wM Y A S1) H := by subst e; exact h
theorem uM39 {D : va_G} {Y : Nat → ClassId} {A : Nat → Nat} {S S1 : gS} {H : Heap} {f : Nat → Int32} (e : S1 = sA S 38 f) (h : va_P D vwCl ((wM Y A S).set 39 (A 39, .inl (Y 0, 34, .inl f))) H) : va_P D vwCl (wM Y A S1) H := by subst e; exact h
theorem uM40 {D : va_G} {Y : Nat → ClassId} {A : Nat → Nat} {S S1 : gS} {H : Heap} {f : Nat → Int32} (e : S1 = sA S 39 f) (h : va_P D vwCl ((wM Y A S).set 40 (A 40, .inl (Y 0, 8, .inl f))) H) : va_P D vwCl (wM Y A S1) H := by subst e; exact h
theorem uM41 {D : va_G} {Y : Nat → ClassId} {A : Nat → Nat} {S S1 : gS} {H : Heap} {f : Nat → Int32} (e : S1 = sA S 40 f) (h : va_P D vwCl ((wM Y A S).set 41 (A 41, .inl (Y 0, 8, .inl f))) H) : va_P D vwCl (wM Y A S1) H := by subst e; exact h
theorem uM42 {D : va_G} {Y : Nat → ClassId} {A : Nat → Nat} {S S1 : gS} {H : Heap} {f : Nat → Int32} (e : S1 = sA S 41 f) (h : va_P D vwCl ((wM Y A S).set 42 (A 42, .inl (Y 0, 30, .inl f))) H) : va_P D vwCl (wM Y A S1) H := by subst e; exact h
theorem uM43 {D : va_G} {Y : Nat → ClassId} {A : Nat → Nat} {S S1 : gS} {H : Heap} {f : Nat → Int32} (e : S1 = sA S 42 f) (h : va_P D vwCl ((wM Y A S).set 43 (A 43, .inl (Y 0, 6, .inl f))) H) : va_P D vwCl (wM Y A S1) H := by subst e; exact h
def iM (A : Nat → Nat) : Prop := ∀ i j, i < 44 → j < 44 → A i = A j → i = j
theorem dM {Y : Nat → ClassId} {A : Nat → Nat} (hI : iM A) (S : gS) {A0 : Nat → Prop} (ha : ∀ k, k < 44 → A0 (A k)) : va_D A0 (wM Y A S) := gD rfl hI ha
