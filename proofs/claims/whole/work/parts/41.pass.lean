/-! a night whole, and many -/
theorem cntW_cntL {I N : Nat → Int32} {i t : Int32} {n : Nat} (ht : t.toInt < 2147483647) : cntW I N i t n ≤ cntL I N i (t + 1) n := by
  induction n with
  | zero => exact Nat.le_refl _
  | succ n ih =>
    have l1 : (1 : Int32).toInt = 1 := by decide
    have hlo : -2147483648 ≤ t.toInt := Int32.le_toInt t
    have e : (t + 1).toInt = t.toInt + 1 := by rw [ti_add] <;> omega
    unfold cntW cntL
    by_cases q : I n = i ∧ N n ≤ t
    · have : N n < t + 1 := Int32.lt_iff_toInt_lt.mpr (by have := Int32.le_iff_toInt_le.mp q.2; omega)
      rw [if_pos q, if_pos ⟨q.1, this⟩]; omega
    · rw [if_neg q]; omega
theorem cntL_cntW {I N : Nat → Int32} {i t : Int32} {n : Nat} : cntL I N i t n ≤ cntW I N i t n := by
  have := cnt_split (I := I) (N := N) (i := i) (t := t) (n := n)
  omega
theorem RS_night {S M : gS} (hR : RS S M) (hn : (gi S 0).toInt < 1000) : RS (sI S 0 (gi S 0 + 1)) (sI M 1 (gi M 1 + 1)) ∧ RWs (sI S 0 (gi S 0 + 1)) := by
  have i0 := RS_i hR (i := 0) (j := 1) (by decide)
  have b0 := RS_bi hR (i := 0) (lo := 0) (hi := 1000) (by decide)
  have l1 : (1 : Int32).toInt = 1 := by decide
  have e1 : (gi S 0 + 1).toInt = (gi S 0).toInt + 1 := by rw [ti_add] <;> omega
  obtain ⟨h1, h2, h3, h4, h5, h6, h7, h8, h9, h10, h11⟩ := hR
  have hW : RWs (sI S 0 (gi S 0 + 1)) := by
    intro i hi
    have := h11 i hi
    have := cntW_cntL (I := ga S 43) (N := ga S 44) (i := nI i) (t := gi S 0) (n := (gi S 8).toNatClampNeg) (by omega)
    show 0 ≤ (ga S 46 i).toInt ∧ 0 ≤ (ga S 47 i).toInt ∧ (ga S 46 i).toInt + (ga S 47 i).toInt ≤ (cntL (ga S 43) (ga S 44) (nI i) (gi S 0 + 1) (gi S 8).toNatClampNeg : Int)
    omega
  refine ⟨⟨?_, h2, BI_up h3 (lI_at (lo := 0) (hi := 1000) (by decide) ⟨by omega, by omega⟩), h4, h5, h6, h7, h8, ⟨h9.1, fun k hk => ?_⟩, h10, fun i hi => ?_⟩, hW⟩
  · intro p hp
    have := RI_up h1 (i := 0) (j := 1) (v := gi S 0 + 1) (by decide) p hp
    rw [← i0]
    exact this
  · have := h9.2 k hk
    show (ga S 36 k).toInt ≤ (gi S 0 + 1).toInt
    omega
  · have := hW i hi
    have := cntL_cntW (I := ga S 43) (N := ga S 44) (i := nI i) (t := gi S 0 + 1) (n := (gi S 8).toNatClampNeg)
    show 0 ≤ (ga S 46 i).toInt ∧ 0 ≤ (ga S 47 i).toInt ∧ (ga S 46 i).toInt + (ga S 47 i).toInt ≤ (cntW (ga S 43) (ga S 44) (nI i) (gi S 0 + 1) (gi S 8).toNatClampNeg : Int)
    have h0 := this
    have h2 := hW i hi
    have h3 : 0 ≤ (ga S 46 i).toInt ∧ 0 ≤ (ga S 47 i).toInt ∧ (ga S 46 i).toInt + (ga S 47 i).toInt ≤ (cntL (ga S 43) (ga S 44) (nI i) (gi S 0 + 1) (gi S 8).toNatClampNeg : Int) := h2
    omega
theorem sim_boats {S M : gS} (hN : RN S M) {Q : gS → Prop} (h : ∀ S2 M2 : gS, RN S2 M2 → (gi S2 4 = gi S 4 ∧ gi S2 0 = gi S 0) → (∀ R : gS → Prop, lp (qX10_pass_L91 R) (0, M2) → lp (qX10_pass_L37 R) (0, M)) → qX0_calm S2 (fun S3 => qX9_proveWords S3 (fun S4 => Q S4))) : lp (qX9_passNight_L16 Q) (0, S) := by
  have b4 := RS_bi hN.1 (i := 4) (lo := 0) (hi := 8) (by decide)
  have t4 := tn_ti b4.1
  refine lp_up (gi S 4).toNatClampNeg (fun k a => ∃ X Y : gS, a = (nI k, X) ∧ RN X Y ∧ (gi X 4 = gi S 4 ∧ gi X 0 = gi S 0) ∧ ∀ R : gS → Prop, lp (qX10_pass_L37 R) (nI k, Y) → lp (qX10_pass_L37 R) (0, M)) ?_ _ ⟨S, M, rfl, hN, ⟨rfl, rfl⟩, fun _ z => z⟩
  rintro K k _ hk ⟨X, Y, rfl, hX, e4, tr⟩ hK
  have ek : (nI k).toInt = k := nI_ti (by omega)
  refine br_le (fun q => ?_) (fun q => ?_)
  · refine h X Y hX e4 (fun R hR => tr R ?_)
    refine lp_up 1 (fun j a => j = 0 ∧ a = (nI k, Y)) ?_ _ ⟨rfl, rfl⟩
    rintro K2 j _ hj ⟨rfl, rfl⟩ hK2
    refine br_le (fun _ => hR) (fun z => ?_)
    rw [← RS_i hX.1 (i := 4) (j := 2) (by decide)] at z
    omega
  · rw [e4.1] at q
    refine sim_send hX ⟨by omega, by omega⟩ (by rw [e4.1]; omega) (fun S2 M2 hN2 e2 it => ?_)
    rintro x rfl
    rw [nI_1]
    refine hK _ (by omega) ⟨S2, M2, rfl, hN2, ⟨by rw [e2.1, e4.1], by rw [e2.2, e4.2]⟩, fun R hR => tr R (lp_step (fun K2 z => ?_) hR)⟩
    exact it R K2 (by rw [nI_1]; exact z)
theorem rX10_came {M : gS} {Q : gS → Prop} (h : lp (qX10_pass_L37 Q) (0, sA M 27 (fun j => if j < 6 then 0 else ga M 27 j))) : lp (qX10_pass_L16 Q) (0, M) := by
  have l6 : (6 : Int32).toInt = 6 := by decide
  refine lp_up 6 (fun c a => ∃ f : Nat → Int32, ((∀ j, j < c → f j = 0) ∧ (∀ j, c ≤ j → f j = ga M 27 j)) ∧ a = (nI c, sA M 27 f)) ?_ _ ⟨ga M 27, ⟨fun j hj => by omega, fun _ _ => rfl⟩, by rw [sA_self]; rfl⟩
  rintro K c _ hc ⟨f, hf, rfl⟩ hK
  have e : (nI c).toInt = c := nI_ti (by omega)
  refine br_le (fun q => ?_) (fun q => ⟨in_of (by omega) (by omega), ?_⟩)
  · obtain rfl : c = 6 := by omega
    have ef : f = fun j => if j < 6 then 0 else ga M 27 j := by
      funext j
      by_cases z : j < 6
      · rw [if_pos z]; exact hf.1 j z
      · rw [if_neg z]; exact hf.2 j (by omega)
    subst ef
    exact h
  · rintro S2 rfl x rfl
    rw [nI_1, tN_nI (by omega), ga_at, sA_sA]
    refine hK _ (by omega) ⟨_, ⟨fun j hj => ?_, fun j hj => ?_⟩, rfl⟩
    · by_cases z : j = c
      · rw [z, upd_at]; rfl
      · rw [upd_ne z]; exact hf.1 j (by omega)
    · rw [upd_ne (by omega)]; exact hf.2 j (by omega)
theorem sim_pass {S M : gS} (hR : RS S M) (hn : (gi S 0).toInt < 1000) {Q : gS → Prop} (h : ∀ S2 M2 : gS, RS S2 M2 → gi S2 0 = gi S 0 + 1 → (∀ R : gS → Prop, R M2 → qX10_pass M R) → Q S2) : qX9_passNight S Q := by
  obtain ⟨hR1, hW1⟩ := RS_night hR hn
  have b0 := RS_bi hR (i := 0) (lo := 0) (hi := 1000) (by decide)
  have l1 : (1 : Int32).toInt = 1 := by decide
  have e1 : (gi S 0 + 1).toInt = (gi S 0).toInt + 1 := by rw [ti_add] <;> omega
  have hlot := hR.2.2.2.2.2.2.2.2.1.2
  have b6 := RS_bi hR (i := 6) (lo := 0) (hi := 100) (by decide)
  have t6 := tn_ti b6.1
  rintro S6 rfl
  have sh : ∀ k, k < 6 → 0 ≤ (ga S 11 k).toInt ∧ (ga S 11 k).toInt ≤ 99 := fun k hk => RS_ba hR (i := 11) (n := 6) (lo := 0) (hi := 99) (by decide) hk
  have b2 := RS_bi hR (i := 2) (lo := 0) (hi := 9) (by decide)
  have e11 := RS_a hR (i := 11) (j := 24) (by decide)
  have e10 := RS_a hR (i := 10) (j := 23) (by decide)
  have e13 := RS_a hR (i := 13) (j := 26) (by decide)
  have i1 := RS_i hR (i := 1) (j := 0) (by decide)
  have i2 := RS_i hR (i := 2) (j := 5) (by decide)
  refine rX9_placeWatchers sh b2 ?_
  have hwt : wtr (gi M 0) (gi M 5) (ga M 23) (ga M 24) (ga M 26) = wtr (gi S 1) (gi S 2) (ga S 10) (ga S 11) (ga S 13) := by rw [i1, i2, e10, e11, e13]
  have hR2 : RS (sA (sI (sI S 0 (gi S 0 + 1)) 1 (wtr (gi S 1) (gi S 2) (ga S 10) (ga S 11) (ga S 13)).1) 13 (wtr (gi S 1) (gi S 2) (ga S 10) (ga S 11) (ga S 13)).2) (sA (sI (sI M 1 (gi M 1 + 1)) 0 (wtr (gi M 0) (gi M 5) (ga M 23) (ga M 24) (ga M 26)).1) 26 (wtr (gi M 0) (gi M 5) (ga M 23) (ga M 24) (ga M 26)).2) :=
    RS_arr (RS_int2 hR1 (by rw [hwt]) (by decide) (by decide) (lI_no (by decide))) (by decide) (by decide) (by decide) (lA_no (by decide)) (by rw [hwt])
  have start : ∀ f : Nat → Int32, (∀ c, c < 6 → f c = 0) → RN (sA (sI (sI S 0 (gi S 0 + 1)) 1 (wtr (gi S 1) (gi S 2) (ga S 10) (ga S 11) (ga S 13)).1) 13 (wtr (gi S 1) (gi S 2) (ga S 10) (ga S 11) (ga S 13)).2) (sA (sA (sI (sI M 1 (gi M 1 + 1)) 0 (wtr (gi M 0) (gi M 5) (ga M 23) (ga M 24) (ga M 26)).1) 26 (wtr (gi M 0) (gi M 5) (ga M 23) (ga M 24) (ga M 26)).2) 27 f) := by
    intro f hf
    refine ⟨RS_ar hR2 (by decide) (by decide), fun c hc => ?_, hW1⟩
    show f c = if cmB (ga S 37) (ga S 36) (nI c) (gi S 0 + 1) (gi S 6).toNatClampNeg then 1 else 0
    have : ¬ cmB (ga S 37) (ga S 36) (nI c) (gi S 0 + 1) (gi S 6).toNatClampNeg = true := by
      intro z
      obtain ⟨k, k1, -, k3⟩ := cmB_iff.mp z
      have := hlot k (by omega)
      rw [k3] at this
      omega
    rw [if_neg this]
    exact hf c hc
  -- the reference's own way to its loop
  have mway : ∀ (R : gS → Prop), lp (qX10_pass_L37 R) (0, sA (sA (sI (sI M 1 (gi M 1 + 1)) 0 (wtr (gi M 0) (gi M 5) (ga M 23) (ga M 24) (ga M 26)).1) 26 (wtr (gi M 0) (gi M 5) (ga M 23) (ga M 24) (ga M 26)).2) 27 (fun j => if j < 6 then 0 else ga M 27 j)) → qX10_pass M R := by
    intro R hh
    rintro S23 rfl
    refine rX10_watch (by show ∀ k, k < 6 → 0 ≤ (ga M 24 k).toInt ∧ (ga M 24 k).toInt ≤ 99; rw [← e11]; exact sh) (by show 0 ≤ (gi M 5).toInt ∧ (gi M 5).toInt ≤ 9; rw [← i2]; exact b2) ?_
    exact rX10_came hh
  refine sim_boats (start (fun j => if j < 6 then 0 else ga M 27 j) (fun c (hc : c < 6) => if_pos hc)) (fun S2 M2 hN2 e2 tr => ?_)
  refine rX0_calm (RS_bi hN2.1 (i := 4) (lo := 0) (hi := 8) (by decide)) (fun X hX h1 h2 => ?_)
  refine sim_prove (RN_calm hN2 hX h1 h2) (fun S3 M3 hR3 e3 tp => ?_)
  refine h S3 M3 hR3 ?_ (fun R hR => mway R (tr R (rX10_calm (tp R hR))))
  rw [e3, hX.2 0, e2.2]
  rfl
theorem s_nights {S M : gS} (hR : RS S M) (a1 : Int32) : qX9_nights S a1 (fun r S' => qX10_nights M a1 (fun r' M' => r = r' ∧ RS S' M')) := by
  have b0 := RS_bi hR (i := 0) (lo := 0) (hi := 1000) (by decide)
  have i0 := RS_i hR (i := 0) (j := 1) (by decide)
  have i6 := RS_i hR (i := 6) (j := 4) (by decide)
  have l1 : (1 : Int32).toInt = 1 := by decide
  have l1000 : (1000 : Int32).toInt = 1000 := by decide
  have es : ((1000 : Int32) - gi S 0).toInt = 1000 - (gi S 0).toInt := by rw [ti_sub] <;> omega
  refine br_le (fun q1 => ?_) (fun q1 => ?_)
  · refine br_le (fun q2 => ?_) (fun q2 => ?_)
    · rintro v rfl
      have tn := tn_ti (show 0 ≤ a1.toInt by omega)
      refine lp_up a1.toNatClampNeg (fun k a => ∃ X Y : gS, a = (gi S 6, nI k, X) ∧ RS X Y ∧ gi X 0 = gi S 0 + nI k ∧ ∀ R : Int32 → gS → Prop, lp (qX10_nights_L38 a1 R) (gi M 4, nI k, Y) → lp (qX10_nights_L38 a1 R) (gi M 4, 0, M)) ?_ _ ⟨S, M, rfl, hR, by show gi S 0 = gi S 0 + 0; rw [Int32.add_zero], fun _ z => z⟩
      rintro K k _ hk ⟨X, Y, rfl, hX, e0, tr⟩ hK
      have ek : (nI k).toInt = k := nI_ti (by omega)
      have e0i : (gi X 0).toInt = (gi S 0).toInt + k := by rw [e0, ti_add] <;> omega
      have x6 := RS_i hX (i := 6) (j := 4) (by decide)
      refine br_le (fun q => ?_) (fun q => ?_)
      · have esM : ((1000 : Int32) - gi M 1).toInt = 1000 - (gi S 0).toInt := by rw [← i0]; exact es
        refine br_le (x := 1) (y := a1) (fun _ => br_le (x := a1) (y := 1000 - gi M 1) (fun _ => ?_) (fun z => ?_)) (fun z => ?_)
        · rintro v rfl
          refine tr _ ?_
          refine lp_up 1 (fun j a => j = 0 ∧ a = (gi M 4, nI k, Y)) ?_ _ ⟨rfl, rfl⟩
          rintro K2 j _ hj ⟨rfl, rfl⟩ hK2
          refine br_le (fun _ => ?_) (fun z => ?_)
          · exact ⟨by rw [x6, i6], hX⟩
          · omega
        · omega
        · omega
      · refine sim_pass hX (by omega) (fun S2 M2 hR2 e2 tp => ?_)
        rintro x rfl
        rw [nI_1]
        refine hK _ (by omega) ⟨S2, M2, rfl, hR2, ?_, fun R hRR => tr R (lp_step (fun K2 z => ?_) hRR)⟩
        · rw [e2, e0, Int32.add_assoc, nI_1]
        · refine br_le (x := a1) (y := nI k) (fun z2 => ?_) (fun _ => tp _ ?_)
          · omega
          · rintro x rfl
            rw [nI_1]; exact z
    · refine rX9_refuse 6 (by decide) (by decide) ?_
      have esM : ((1000 : Int32) - gi M 1).toInt = 1000 - (gi S 0).toInt := by rw [← i0]; exact es
      refine br_le (x := 1) (y := a1) (fun _ => br_le (x := a1) (y := 1000 - gi M 1) (fun z => ?_) (fun z => ?_)) (fun z => ?_)
      · omega
      · exact rX10_refuse 6 (by decide) (by decide) ⟨rfl, RS_rf hR _⟩
      · omega
  · refine rX9_refuse 4 (by decide) (by decide) ?_
    refine br_le (x := 1) (y := a1) (fun z => ?_) (fun z => ?_)
    · omega
    · exact rX10_refuse 4 (by decide) (by decide) ⟨rfl, RS_rf hR _⟩
