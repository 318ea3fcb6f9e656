/-! the law: its worlds, its calls, its cases -/
section GL
variable {p : Program} {l : Launch} {e : Env} {R : Room} {s : State} {m : MethodId} {args : Array Value} {below : List Frame} {meth : Method} {c : Code} {H : Heap} {locs : List Loc} {cells slots : Nat} {Z : State → Prop}
variable {pc : Nat} {ls : Array Slot} {rest st : List Value} {D : va_G} {cl : List vw_C} {tys : List (ClassId × FieldType)} {A0 : Nat → Prop} {H0 : Heap} {σ : Type} {wd : σ → va_W} {w0 : va_W} {F : Nat → Prop}
variable {y : MethodName} {bytes cc : ByteArray} {maxL nL n index : Nat} {ret : Option FieldType} {ws : List Cond} {rm : Room} {Ts : List Cond} {own C : String} {b q0 ci N : Nat} {As fs : List Value} {T : u_T}
theorem hVi (S : CallFix p m c cc nL s args Ts own) {Q : Int32 → σ → Prop} (hM : Met l y ws rm (gPc (.ref b :: As) H.size D cl tys w0) (va_Qi Q (fun S' t => gH D cl tys (wd S') t) F) 0 0 F) (cw : CallW R s args own C index y bytes maxL ret ws rm 0 0 n) (hK : va_K D cl tys s) (hP : va_P D cl w0 H) (hS : va_S A0 H0 H locs) (hF : ∀ q, F q → A0 q) (he : w0[q0]? = some (b, .inr (ci, fs))) (hc : cl[ci]? = some (C, T, N)) (hst : st = As.reverse ++ .ref b :: rest) (hn : As.length = n) (hsz : ls.size = nL) (hW : (rest.map fun v => v.category).sum ≤ 8) (hdg : decode cc pc = .ok (.invokevirtual index, 3)) (hf : cells ≤ R.cells ∧ slots ≤ R.slots)
    (kk : ∀ (r : Int32) (S' : σ) (H1 : Heap) (locs1 : List Loc), Q r S' → va_P D cl (wd S') H1 → va_S A0 H0 H1 locs1 → (∀ q : Nat, q < H.size → ¬ F q → H1[q]? = H[q]?) → W p l e R s m args below meth c H1 locs1 cells slots Z (F0 m (pc + 3) ls (.int r :: rest))) : W p l e R s m args below meth c H locs cells slots Z (F0 m pc ls st) := by
  subst hst
  exact va_calli (va_runV S hM cw ⟨gPc_blind, va_recv hK hP hc he, fun U hU hW => ⟨rfl, by rw [hU], by rw [hU]; exact hP, va_K.moved hW.alike hK⟩⟩ rfl hn hsz rfl (lv_room hW) hdg hf) hS (fun q _ h => hF q h) hF (fun r u t H1 locs ht _ hw hB _ hk hS => kk r u H1 locs hw (by rw [← ht]; exact hB.1) hS hk)
theorem hVl (S : CallFix p m c cc nL s args Ts own) {Q : Int64 → σ → Prop} (hM : Met l y ws rm (gPc (.ref b :: As) H.size D cl tys w0) (va_Ql Q (fun S' t => gH D cl tys (wd S') t) F) 0 0 F) (cw : CallW R s args own C index y bytes maxL ret ws rm 0 0 n) (hK : va_K D cl tys s) (hP : va_P D cl w0 H) (hS : va_S A0 H0 H locs) (hF : ∀ q, F q → A0 q) (he : w0[q0]? = some (b, .inr (ci, fs))) (hc : cl[ci]? = some (C, T, N)) (hst : st = As.reverse ++ .ref b :: rest) (hn : As.length = n) (hsz : ls.size = nL) (hW : (rest.map fun v => v.category).sum ≤ 8) (hdg : decode cc pc = .ok (.invokevirtual index, 3)) (hf : cells ≤ R.cells ∧ slots ≤ R.slots)
    (kk : ∀ (r : Int64) (S' : σ) (H1 : Heap) (locs1 : List Loc), Q r S' → va_P D cl (wd S') H1 → va_S A0 H0 H1 locs1 → (∀ q : Nat, q < H.size → ¬ F q → H1[q]? = H[q]?) → W p l e R s m args below meth c H1 locs1 cells slots Z (F0 m (pc + 3) ls (.long r :: rest))) : W p l e R s m args below meth c H locs cells slots Z (F0 m pc ls st) := by
  subst hst
  exact va_calll (va_runV S hM cw ⟨gPc_blind, va_recv hK hP hc he, fun U hU hW => ⟨rfl, by rw [hU], by rw [hU]; exact hP, va_K.moved hW.alike hK⟩⟩ rfl hn hsz rfl (lv_room hW) hdg hf) hS (fun q _ h => hF q h) hF (fun r u t H1 locs ht _ hw hB _ hk hS => kk r u H1 locs hw (by rw [← ht]; exact hB.1) hS hk)
end GL
theorem gKey {ws : va_W} {n : Nat} {ad : Nat → Nat} (hm : ws.map (fun q => q.1) = (List.range n).map ad) {k : Nat} {q : Nat × va_E} (h : ws[k]? = some q) : k < n ∧ q.1 = ad k := by
  have h1 : (ws.map (fun q => q.1))[k]? = some q.1 := by rw [List.getElem?_map, h]; rfl
  rw [hm, List.getElem?_map] at h1
  by_cases hk : k < n
  · rw [List.getElem?_range hk] at h1
    exact ⟨hk, (Option.some.inj h1).symm⟩
  · rw [List.getElem?_eq_none (by rw [List.length_range]; omega)] at h1
    cases h1
/-- the other world stays -/
theorem gStay {D : va_G} {cl : List vw_C} {ws : va_W} {n n2 : Nat} {ad ad2 : Nat → Nat} {H H1 : Heap} (hm : ws.map (fun q => q.1) = (List.range n).map ad) (hP : va_P D cl ws H) (hne : ∀ i j, i < n2 → j < n → ad2 i ≠ ad j) (hk : ∀ q : Nat, q < H.size → ¬ gF ad2 n2 H.size q → H1[q]? = H[q]?) : va_P D cl ws H1 := by
  refine hP.kept (fun k q hq => ?_)
  obtain ⟨k1, k2⟩ := gKey hm hq
  have hl := (hP k q hq).lt
  refine hk q.1 hl ?_
  rintro (⟨i, i1, i2⟩ | z)
  · exact hne i k i1 k1 (by rw [← i2, k2])
  · omega
/-- the two worlds of the law -/
def gTwo (D : va_G) (Y : Nat → ClassId) (A B : Nat → Nat) (s : State) (S M : gS) (H : Heap) (locs : List Loc) : Prop := va_P D vwCl (wC Y A S) H ∧ va_P D vwCl (wM Y B M) H ∧ va_S (fun q : Nat => s.heap.size ≤ q) s.heap H locs
def gAB (A B : Nat → Nat) (z : Nat) : Prop := iC A ∧ iM B ∧ (∀ i j, i < 65 → j < 44 → A i ≠ B j) ∧ (∀ i, i < 65 → z ≤ A i) ∧ ∀ j, j < 44 → z ≤ B j
theorem gF_to {ad : Nat → Nat} {n z : Nat} {H : Heap} {s : State} {locs : List Loc} (hS : va_S (fun q : Nat => s.heap.size ≤ q) s.heap H locs) (h : ∀ i, i < n → s.heap.size ≤ ad i) : ∀ q, gF ad n H.size q → s.heap.size ≤ q := by
  rintro q (⟨i, i1, rfl⟩ | z)
  · exact h i i1
  · exact Nat.le_trans hS.1 z

theorem cmp_self (x : Int64) : lg_cmp x x = 0 := by unfold lg_cmp; rw [if_neg (by intro h; have := Int64.lt_iff_toInt_lt.mp h; omega), if_pos rfl]
