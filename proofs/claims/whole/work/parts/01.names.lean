-- ===== PART A: goes FIRST, ahead of the names: the tables' words, and 'selects' of the private methods out of them =====
/-- a private method of a class that the tables say can be made, by its rows of tables_1 -/
def lw_okq (q : MethodName × Nat) : Prop := (q.1.cls ≠ "java/lang/invoke/MethodHandle" ∧ q.1.cls ≠ "java/lang/invoke/VarHandle") ∧ Cond.instantiable q.1.cls q.2 ∈ tables_1 ∧ Cond.privateMethod q.1 ∈ tables_1 ∧ Cond.instanceMethod q.1 ∈ tables_1
theorem lw_p0 : lw_okq (⟨"CoastWatch", "refuse", "(I)I"⟩, 15) := ⟨⟨by decide +kernel, by decide +kernel⟩, List.mem_of_getElem? (i := 15) (by decide +kernel), List.mem_of_getElem? (i := 334) (by decide +kernel), List.mem_of_getElem? (i := 335) (by decide +kernel)⟩
theorem lw_p1 : lw_okq (⟨"CoastWatch", "tideAt", "(II)I"⟩, 15) := ⟨⟨by decide +kernel, by decide +kernel⟩, List.mem_of_getElem? (i := 15) (by decide +kernel), List.mem_of_getElem? (i := 385) (by decide +kernel), List.mem_of_getElem? (i := 386) (by decide +kernel)⟩
theorem lw_p2 : lw_okq (⟨"CoastWatch", "isBoat", "(I)Z"⟩, 15) := ⟨⟨by decide +kernel, by decide +kernel⟩, List.mem_of_getElem? (i := 15) (by decide +kernel), List.mem_of_getElem? (i := 401) (by decide +kernel), List.mem_of_getElem? (i := 402) (by decide +kernel)⟩
theorem lw_p3 : lw_okq (⟨"CoastWatch", "passNight", "()V"⟩, 15) := ⟨⟨by decide +kernel, by decide +kernel⟩, List.mem_of_getElem? (i := 15) (by decide +kernel), List.mem_of_getElem? (i := 464) (by decide +kernel), List.mem_of_getElem? (i := 465) (by decide +kernel)⟩
theorem lw_p4 : lw_okq (⟨"CoastWatch", "placeWatchers", "()V"⟩, 15) := ⟨⟨by decide +kernel, by decide +kernel⟩, List.mem_of_getElem? (i := 15) (by decide +kernel), List.mem_of_getElem? (i := 468) (by decide +kernel), List.mem_of_getElem? (i := 469) (by decide +kernel)⟩
theorem lw_p5 : lw_okq (⟨"CoastWatch", "drawBelow", "(I)I"⟩, 15) := ⟨⟨by decide +kernel, by decide +kernel⟩, List.mem_of_getElem? (i := 15) (by decide +kernel), List.mem_of_getElem? (i := 476) (by decide +kernel), List.mem_of_getElem? (i := 477) (by decide +kernel)⟩
theorem lw_p6 : lw_okq (⟨"CoastWatch", "sendOut", "(I)V"⟩, 15) := ⟨⟨by decide +kernel, by decide +kernel⟩, List.mem_of_getElem? (i := 15) (by decide +kernel), List.mem_of_getElem? (i := 485) (by decide +kernel), List.mem_of_getElem? (i := 486) (by decide +kernel)⟩
theorem lw_p7 : lw_okq (⟨"CoastWatch", "light", "()I"⟩, 15) := ⟨⟨by decide +kernel, by decide +kernel⟩, List.mem_of_getElem? (i := 15) (by decide +kernel), List.mem_of_getElem? (i := 489) (by decide +kernel), List.mem_of_getElem? (i := 490) (by decide +kernel)⟩
theorem lw_p8 : lw_okq (⟨"CoastWatch", "chosenCove", "(I)I"⟩, 15) := ⟨⟨by decide +kernel, by decide +kernel⟩, List.mem_of_getElem? (i := 15) (by decide +kernel), List.mem_of_getElem? (i := 493) (by decide +kernel), List.mem_of_getElem? (i := 494) (by decide +kernel)⟩
theorem lw_p9 : lw_okq (⟨"CoastWatch", "isOpen", "(II)Z"⟩, 15) := ⟨⟨by decide +kernel, by decide +kernel⟩, List.mem_of_getElem? (i := 15) (by decide +kernel), List.mem_of_getElem? (i := 497) (by decide +kernel), List.mem_of_getElem? (i := 498) (by decide +kernel)⟩
theorem lw_p10 : lw_okq (⟨"CoastWatch", "isDearer", "(III)Z"⟩, 15) := ⟨⟨by decide +kernel, by decide +kernel⟩, List.mem_of_getElem? (i := 15) (by decide +kernel), List.mem_of_getElem? (i := 501) (by decide +kernel), List.mem_of_getElem? (i := 502) (by decide +kernel)⟩
theorem lw_p11 : lw_okq (⟨"CoastWatch", "meetWatchers", "(III)V"⟩, 15) := ⟨⟨by decide +kernel, by decide +kernel⟩, List.mem_of_getElem? (i := 15) (by decide +kernel), List.mem_of_getElem? (i := 509) (by decide +kernel), List.mem_of_getElem? (i := 510) (by decide +kernel)⟩
theorem lw_p12 : lw_okq (⟨"CoastWatch", "partSeized", "(II)V"⟩, 15) := ⟨⟨by decide +kernel, by decide +kernel⟩, List.mem_of_getElem? (i := 15) (by decide +kernel), List.mem_of_getElem? (i := 521) (by decide +kernel), List.mem_of_getElem? (i := 522) (by decide +kernel)⟩
theorem lw_p13 : lw_okq (⟨"CoastWatch", "bringAshore", "(II)V"⟩, 15) := ⟨⟨by decide +kernel, by decide +kernel⟩, List.mem_of_getElem? (i := 15) (by decide +kernel), List.mem_of_getElem? (i := 536) (by decide +kernel), List.mem_of_getElem? (i := 537) (by decide +kernel)⟩
theorem lw_p14 : lw_okq (⟨"CoastWatch", "lookAt", "(II)V"⟩, 15) := ⟨⟨by decide +kernel, by decide +kernel⟩, List.mem_of_getElem? (i := 15) (by decide +kernel), List.mem_of_getElem? (i := 544) (by decide +kernel), List.mem_of_getElem? (i := 545) (by decide +kernel)⟩
theorem lw_p15 : lw_okq (⟨"CoastWatch", "proveWords", "()V"⟩, 15) := ⟨⟨by decide +kernel, by decide +kernel⟩, List.mem_of_getElem? (i := 15) (by decide +kernel), List.mem_of_getElem? (i := 552) (by decide +kernel), List.mem_of_getElem? (i := 553) (by decide +kernel)⟩
def lw_privs_1 : List (MethodName × Nat) := [(⟨"CoastWatch", "refuse", "(I)I"⟩, 15), (⟨"CoastWatch", "tideAt", "(II)I"⟩, 15), (⟨"CoastWatch", "isBoat", "(I)Z"⟩, 15), (⟨"CoastWatch", "passNight", "()V"⟩, 15), (⟨"CoastWatch", "placeWatchers", "()V"⟩, 15), (⟨"CoastWatch", "drawBelow", "(I)I"⟩, 15), (⟨"CoastWatch", "sendOut", "(I)V"⟩, 15), (⟨"CoastWatch", "light", "()I"⟩, 15), (⟨"CoastWatch", "chosenCove", "(I)I"⟩, 15), (⟨"CoastWatch", "isOpen", "(II)Z"⟩, 15), (⟨"CoastWatch", "isDearer", "(III)Z"⟩, 15), (⟨"CoastWatch", "meetWatchers", "(III)V"⟩, 15), (⟨"CoastWatch", "partSeized", "(II)V"⟩, 15), (⟨"CoastWatch", "bringAshore", "(II)V"⟩, 15), (⟨"CoastWatch", "lookAt", "(II)V"⟩, 15), (⟨"CoastWatch", "proveWords", "()V"⟩, 15)]
theorem lw_r1 : ∀ q ∈ lw_privs_1, lw_okq q := List.forall_mem_cons.mpr ⟨lw_p0, List.forall_mem_cons.mpr ⟨lw_p1, List.forall_mem_cons.mpr ⟨lw_p2, List.forall_mem_cons.mpr ⟨lw_p3, List.forall_mem_cons.mpr ⟨lw_p4, List.forall_mem_cons.mpr ⟨lw_p5, List.forall_mem_cons.mpr ⟨lw_p6, List.forall_mem_cons.mpr ⟨lw_p7, List.forall_mem_cons.mpr ⟨lw_p8, List.forall_mem_cons.mpr ⟨lw_p9, List.forall_mem_cons.mpr ⟨lw_p10, List.forall_mem_cons.mpr ⟨lw_p11, List.forall_mem_cons.mpr ⟨lw_p12, List.forall_mem_cons.mpr ⟨lw_p13, List.forall_mem_cons.mpr ⟨lw_p14, List.forall_mem_cons.mpr ⟨lw_p15, fun _ h => absurd h List.not_mem_nil⟩⟩⟩⟩⟩⟩⟩⟩⟩⟩⟩⟩⟩⟩⟩⟩
theorem lw_p16 : lw_okq (⟨"CoastWatch", "isHide", "(I)Z"⟩, 15) := ⟨⟨by decide +kernel, by decide +kernel⟩, List.mem_of_getElem? (i := 15) (by decide +kernel), List.mem_of_getElem? (i := 573) (by decide +kernel), List.mem_of_getElem? (i := 574) (by decide +kernel)⟩
theorem lw_p17 : lw_okq (⟨"CoastWatch$Game", "sortDown", "([I)V"⟩, 3) := ⟨⟨by decide +kernel, by decide +kernel⟩, List.mem_of_getElem? (i := 259) (by decide +kernel), List.mem_of_getElem? (i := 636) (by decide +kernel), List.mem_of_getElem? (i := 637) (by decide +kernel)⟩
theorem lw_p18 : lw_okq (⟨"CoastWatchModel", "refuse", "(I)I"⟩, 54) := ⟨⟨by decide +kernel, by decide +kernel⟩, List.mem_of_getElem? (i := 704) (by decide +kernel), List.mem_of_getElem? (i := 887) (by decide +kernel), List.mem_of_getElem? (i := 888) (by decide +kernel)⟩
theorem lw_p19 : lw_okq (⟨"CoastWatchModel", "tideAt", "(II)I"⟩, 54) := ⟨⟨by decide +kernel, by decide +kernel⟩, List.mem_of_getElem? (i := 704) (by decide +kernel), List.mem_of_getElem? (i := 916) (by decide +kernel), List.mem_of_getElem? (i := 917) (by decide +kernel)⟩
theorem lw_p20 : lw_okq (⟨"CoastWatchModel", "pass", "()V"⟩, 54) := ⟨⟨by decide +kernel, by decide +kernel⟩, List.mem_of_getElem? (i := 704) (by decide +kernel), List.mem_of_getElem? (i := 964) (by decide +kernel), List.mem_of_getElem? (i := 965) (by decide +kernel)⟩
theorem lw_p21 : lw_okq (⟨"CoastWatchModel", "watch", "()V"⟩, 54) := ⟨⟨by decide +kernel, by decide +kernel⟩, List.mem_of_getElem? (i := 704) (by decide +kernel), List.mem_of_getElem? (i := 968) (by decide +kernel), List.mem_of_getElem? (i := 969) (by decide +kernel)⟩
theorem lw_p22 : lw_okq (⟨"CoastWatchModel", "drawBelow", "(I)I"⟩, 54) := ⟨⟨by decide +kernel, by decide +kernel⟩, List.mem_of_getElem? (i := 704) (by decide +kernel), List.mem_of_getElem? (i := 972) (by decide +kernel), List.mem_of_getElem? (i := 973) (by decide +kernel)⟩
theorem lw_p23 : lw_okq (⟨"CoastWatchModel", "choice", "(I)I"⟩, 54) := ⟨⟨by decide +kernel, by decide +kernel⟩, List.mem_of_getElem? (i := 704) (by decide +kernel), List.mem_of_getElem? (i := 977) (by decide +kernel), List.mem_of_getElem? (i := 978) (by decide +kernel)⟩
theorem lw_p24 : lw_okq (⟨"CoastWatchModel", "goes", "(II)V"⟩, 54) := ⟨⟨by decide +kernel, by decide +kernel⟩, List.mem_of_getElem? (i := 704) (by decide +kernel), List.mem_of_getElem? (i := 984) (by decide +kernel), List.mem_of_getElem? (i := 985) (by decide +kernel)⟩
theorem lw_p25 : lw_okq (⟨"CoastWatchModel", "counting", "(I)I"⟩, 54) := ⟨⟨by decide +kernel, by decide +kernel⟩, List.mem_of_getElem? (i := 704) (by decide +kernel), List.mem_of_getElem? (i := 988) (by decide +kernel), List.mem_of_getElem? (i := 989) (by decide +kernel)⟩
theorem lw_p26 : lw_okq (⟨"CoastWatchModel", "teller", "(I)I"⟩, 54) := ⟨⟨by decide +kernel, by decide +kernel⟩, List.mem_of_getElem? (i := 704) (by decide +kernel), List.mem_of_getElem? (i := 992) (by decide +kernel), List.mem_of_getElem? (i := 993) (by decide +kernel)⟩
theorem lw_p27 : lw_okq (⟨"CoastWatchModel", "partCasks", "(II)V"⟩, 54) := ⟨⟨by decide +kernel, by decide +kernel⟩, List.mem_of_getElem? (i := 704) (by decide +kernel), List.mem_of_getElem? (i := 996) (by decide +kernel), List.mem_of_getElem? (i := 997) (by decide +kernel)⟩
theorem lw_p28 : lw_okq (⟨"CoastWatchModel", "lot", "(IIII)V"⟩, 54) := ⟨⟨by decide +kernel, by decide +kernel⟩, List.mem_of_getElem? (i := 704) (by decide +kernel), List.mem_of_getElem? (i := 1000) (by decide +kernel), List.mem_of_getElem? (i := 1001) (by decide +kernel)⟩
theorem lw_p29 : lw_okq (⟨"CoastWatchModel", "moreFear", "(III)V"⟩, 54) := ⟨⟨by decide +kernel, by decide +kernel⟩, List.mem_of_getElem? (i := 704) (by decide +kernel), List.mem_of_getElem? (i := 1004) (by decide +kernel), List.mem_of_getElem? (i := 1005) (by decide +kernel)⟩
theorem lw_p30 : lw_okq (⟨"CoastWatchModel", "hideFor", "(II)I"⟩, 54) := ⟨⟨by decide +kernel, by decide +kernel⟩, List.mem_of_getElem? (i := 704) (by decide +kernel), List.mem_of_getElem? (i := 1008) (by decide +kernel), List.mem_of_getElem? (i := 1009) (by decide +kernel)⟩
theorem lw_p31 : lw_okq (⟨"CoastWatchModel", "liesIn", "(I)I"⟩, 54) := ⟨⟨by decide +kernel, by decide +kernel⟩, List.mem_of_getElem? (i := 704) (by decide +kernel), List.mem_of_getElem? (i := 1012) (by decide +kernel), List.mem_of_getElem? (i := 1013) (by decide +kernel)⟩
def lw_privs_2 : List (MethodName × Nat) := [(⟨"CoastWatch", "isHide", "(I)Z"⟩, 15), (⟨"CoastWatch$Game", "sortDown", "([I)V"⟩, 3), (⟨"CoastWatchModel", "refuse", "(I)I"⟩, 54), (⟨"CoastWatchModel", "tideAt", "(II)I"⟩, 54), (⟨"CoastWatchModel", "pass", "()V"⟩, 54), (⟨"CoastWatchModel", "watch", "()V"⟩, 54), (⟨"CoastWatchModel", "drawBelow", "(I)I"⟩, 54), (⟨"CoastWatchModel", "choice", "(I)I"⟩, 54), (⟨"CoastWatchModel", "goes", "(II)V"⟩, 54), (⟨"CoastWatchModel", "counting", "(I)I"⟩, 54), (⟨"CoastWatchModel", "teller", "(I)I"⟩, 54), (⟨"CoastWatchModel", "partCasks", "(II)V"⟩, 54), (⟨"CoastWatchModel", "lot", "(IIII)V"⟩, 54), (⟨"CoastWatchModel", "moreFear", "(III)V"⟩, 54), (⟨"CoastWatchModel", "hideFor", "(II)I"⟩, 54), (⟨"CoastWatchModel", "liesIn", "(I)I"⟩, 54)]
theorem lw_r2 : ∀ q ∈ lw_privs_2, lw_okq q := List.forall_mem_cons.mpr ⟨lw_p16, List.forall_mem_cons.mpr ⟨lw_p17, List.forall_mem_cons.mpr ⟨lw_p18, List.forall_mem_cons.mpr ⟨lw_p19, List.forall_mem_cons.mpr ⟨lw_p20, List.forall_mem_cons.mpr ⟨lw_p21, List.forall_mem_cons.mpr ⟨lw_p22, List.forall_mem_cons.mpr ⟨lw_p23, List.forall_mem_cons.mpr ⟨lw_p24, List.forall_mem_cons.mpr ⟨lw_p25, List.forall_mem_cons.mpr ⟨lw_p26, List.forall_mem_cons.mpr ⟨lw_p27, List.forall_mem_cons.mpr ⟨lw_p28, List.forall_mem_cons.mpr ⟨lw_p29, List.forall_mem_cons.mpr ⟨lw_p30, List.forall_mem_cons.mpr ⟨lw_p31, fun _ h => absurd h List.not_mem_nil⟩⟩⟩⟩⟩⟩⟩⟩⟩⟩⟩⟩⟩⟩⟩⟩
theorem lw_p32 : lw_okq (⟨"CoastWatchModel", "prove", "()V"⟩, 54) := ⟨⟨by decide +kernel, by decide +kernel⟩, List.mem_of_getElem? (i := 704) (by decide +kernel), List.mem_of_getElem? (i := 1016) (by decide +kernel), List.mem_of_getElem? (i := 1017) (by decide +kernel)⟩
theorem lw_p33 : lw_okq (⟨"CoastWatchModel", "refuseBig", "(I)J"⟩, 54) := ⟨⟨by decide +kernel, by decide +kernel⟩, List.mem_of_getElem? (i := 704) (by decide +kernel), List.mem_of_getElem? (i := 1049) (by decide +kernel), List.mem_of_getElem? (i := 1050) (by decide +kernel)⟩
theorem lw_p34 : lw_okq (⟨"CoastWatchModel", "play", "(II)V"⟩, 54) := ⟨⟨by decide +kernel, by decide +kernel⟩, List.mem_of_getElem? (i := 704) (by decide +kernel), List.mem_of_getElem? (i := 1054) (by decide +kernel), List.mem_of_getElem? (i := 1055) (by decide +kernel)⟩
theorem lw_p35 : lw_okq (⟨"CoastWatchModel", "casksOf", "(IZ)I"⟩, 54) := ⟨⟨by decide +kernel, by decide +kernel⟩, List.mem_of_getElem? (i := 704) (by decide +kernel), List.mem_of_getElem? (i := 1071) (by decide +kernel), List.mem_of_getElem? (i := 1072) (by decide +kernel)⟩
def lw_privs_3 : List (MethodName × Nat) := [(⟨"CoastWatchModel", "prove", "()V"⟩, 54), (⟨"CoastWatchModel", "refuseBig", "(I)J"⟩, 54), (⟨"CoastWatchModel", "play", "(II)V"⟩, 54), (⟨"CoastWatchModel", "casksOf", "(IZ)I"⟩, 54)]
theorem lw_r3 : ∀ q ∈ lw_privs_3, lw_okq q := List.forall_mem_cons.mpr ⟨lw_p32, List.forall_mem_cons.mpr ⟨lw_p33, List.forall_mem_cons.mpr ⟨lw_p34, List.forall_mem_cons.mpr ⟨lw_p35, fun _ h => absurd h List.not_mem_nil⟩⟩⟩⟩
def lw_privs : List (MethodName × Nat) := lw_privs_1 ++ (lw_privs_2 ++ (lw_privs_3))
def lw_tbl : List Cond := k2_sels lw_privs ++ tables_1
theorem lw_privs_ok : ∀ q ∈ lw_privs, lw_okq q := by
  show ∀ q ∈ lw_privs_1 ++ (lw_privs_2 ++ (lw_privs_3)), lw_okq q
  exact List.forall_mem_append.mpr ⟨lw_r1, List.forall_mem_append.mpr ⟨lw_r2, lw_r3⟩⟩
/-! ===== BEGIN words of one list among another's, by their places ===== -/
theorem goodIn_r {big : List Cond} (ws : List Cond) (ps : List Nat) (hp : ws = ps.filterMap (fun i => big[i]?)) (h : ws.all goodWord = true) : GoodIn big ws := by
  intro w hw
  have h1 := List.all_eq_true.mp h w hw
  rw [hp] at hw
  obtain ⟨i, -, hi⟩ := List.mem_filterMap.mp hw
  have hm : w ∈ big := by first | exact List.mem_of_getElem? hi | exact List.getElem?_mem hi
  exact ⟨hm, good_of_word h1⟩
theorem goodIn_app {big a b : List Cond} (ha : GoodIn big a) (hb : GoodIn big b) : GoodIn big (a ++ b) := fun w h => (List.mem_append.mp h).elim (ha w) (hb w)
theorem goodIn_ca {big a b : List Cond} {c : Cond} (ha : GoodIn big (c :: a)) (hb : GoodIn big b) : GoodIn big (c :: (a ++ b)) := fun w h => (List.mem_cons.mp h).elim (fun e => ha w (List.mem_cons.mpr (Or.inl e))) (fun h => (List.mem_append.mp h).elim (fun h => ha w (List.mem_cons.mpr (Or.inr h))) (hb w))
theorem goodIn_sub {big ws : List Cond} (hm : ∀ w ∈ ws, w ∈ big) (h : ws.all goodWord = true) : GoodIn big ws := fun w hw => ⟨hm w hw, good_of_word (List.all_eq_true.mp h w hw)⟩
/-! ===== END ===== -/

/-! ===== BEGIN new T[n][m]: the outer array a place, the inner ones among the pooled ===== -/
/-- f, but v at every address of l -/
def vr_up {α : Type} (f : Nat → α) (l : List Nat) (v : α) : Nat → α := fun a => if a ∈ l then v else f a
theorem vr_up_in {α : Type} {f : Nat → α} {l : List Nat} {v : α} {a : Nat} (h : a ∈ l) : vr_up f l v a = v := if_pos h
theorem vr_up_ne {α : Type} {f : Nat → α} {l : List Nat} {v : α} {a : Nat} (h : a ∉ l) : vr_up f l v a = f a := if_neg h
theorem vr_rows {L l : List Nat} {f : Nat → va_E} {e : va_E} (h : ∀ a, a ∈ l → a ∉ L) : va_pl L f ++ l.map (fun a => (a, e)) = va_pl (L ++ l) (vr_up f l e) := by
  unfold va_pl
  rw [List.map_append]
  congr 1
  · apply List.map_congr_left
    intro a ha
    rw [vr_up_ne (fun q => h a q ha)]
  · apply List.map_congr_left
    intro a ha
    rw [vr_up_in ha]
theorem vr_lay {X rows : va_W} {x : Nat × va_E} {pl : va_W} {D : va_G} {cl : List vw_C} {H : Heap} (hP : va_P D cl (((X ++ pl) ++ [x]) ++ rows) H) : va_P D cl ((X ++ [x]) ++ (pl ++ rows)) H := by
  rw [List.append_assoc (X ++ pl)] at hP
  have h := va_P.swap hP
  rw [← List.append_assoc X] at h
  have h2 := va_P.swap h
  rw [List.append_assoc (X ++ [x])] at h2
  exact h2
theorem vr_layD {X rows : va_W} {x : Nat × va_E} {pl : va_W} {A : Nat → Prop} (hD : va_D A (((X ++ pl) ++ [x]) ++ rows)) : va_D A ((X ++ [x]) ++ (pl ++ rows)) := by
  rw [List.append_assoc (X ++ pl)] at hD
  have h := va_D.swap hD
  rw [← List.append_assoc X] at h
  have h2 := va_D.swap h
  rw [List.append_assoc (X ++ [x])] at h2
  exact h2
theorem vr_outer (c : ClassId) (N h0 : Nat) : ∀ i : Nat, Jvm.Free.Multi.outerC c N h0 i = arrV c N (fun j => va_rf (if j < i then some (h0 + 1 + j) else none))
  | 0 => by
    show ({ cls := c, slots := Array.replicate N .null, vm := .none } : Cell) = _
    rw [arrV_new]
    refine congrArg (arrV c N) (funext fun j => ?_)
    simp [va_rf]
  | i + 1 => by
    show (Jvm.Free.Multi.outerC c N h0 i).setSlot i (.ref (h0 + 1 + i)) = _
    rw [vr_outer c N h0 i, arrV_store]
    refine congrArg (arrV c N) (funext fun j => ?_)
    by_cases e : j = i
    · subst e
      simp [updV, va_rf]
    · by_cases h : j < i
      · simp [updV, e, h, Nat.lt_succ_of_lt h]
      · simp [updV, e, h, show ¬ j < i + 1 by omega]
section VGM
variable {p : Program} {l : Launch} {e : Env} {R : Room} {s : State} {m : MethodId} {args : Array Value} {below : List Frame} {meth : Method} {c : Code} {H : Heap} {locs : List Loc} {cells slots : Nat} {Q : State → Prop}
variable {cc : ByteArray} {pc : Nat} {ls : Array Slot} {rest : List Value} {D : va_G} {cl : List vw_C} {A : Nat → Prop} {a : Nat} {tys : List (ClassId × FieldType)} {ws : va_W} {H0 : Heap}
theorem va_mna {X : va_W} {L : List Nat} {f : Nat → va_E} {cc : ByteArray} (hexec : p.tables.exec = Jvm.exec) (hb : c.code = cc) {own : String} {index : Nat} {ty : FieldType} {cy : ClassId} (hown : s.vm.findClass own = some m.cls) (hclink : (Cond.classLink own index ("[" ++ (FieldType.array ty).toString)).before args s = true) (hover : va_AOA ty s) (harr : (Cond.arrayClass ty).before args s = true) (hcy : s.vm.findClass (FieldType.array ty).toString = some cy)
    (hK : va_K D cl tys s) (hP : va_P D cl (X ++ va_pl L f) H) (hD : va_D A (X ++ va_pl L f)) (hS : va_S A H0 H locs) (hA : ∀ q, H0.size ≤ q → A q) {n k : Int32} {N' K' : Nat} {z : vp_A} (hn : ¬ n < 0) (hk : ¬ k < 0) (hN : n.toNatClampNeg = N') (hM : k.toNatClampNeg = K')
    (hb1 : N' * 4 ≤ 536870912) (hb2 : K' * componentBytes ty ≤ 536870912) (hb3 : K' ≤ 536870912) (hdf : fits ty (defaultValue ty) = true) (hdd : (defaultValue ty).isDefault = true) (hcells : cells + (1 + N') ≤ R.cells) (hslots : slots + (N' + N' * K') ≤ R.slots) (hz : ∀ c : ClassId, Jvm.Free.Multi.innerC c K' (defaultValue ty) = vp_cell c z) (hdg : decode cc pc = .ok (.multianewarray index 2, 4))
    (kk : ∀ (q : Nat) (r : Nat → Nat) (cA : ClassId) (H1 : Heap), (∀ i j : Nat, i < N' → j < N' → r i = r j → i = j) → (∀ i : Nat, i < N' → r i ∉ L) → va_K D cl (tys ++ [(cA, .array ty)]) s →
      va_P D cl ((X ++ [(q, .inl (cA, N', .inr (.inr (.inr (.inr (fun i => if i < N' then some (r i) else none))))))]) ++ va_pl (L ++ (List.range N').map r) (vr_up f ((List.range N').map r) (.inl (cy, z)))) H1 → va_D A ((X ++ [(q, .inl (cA, N', .inr (.inr (.inr (.inr (fun i => if i < N' then some (r i) else none))))))]) ++ va_pl (L ++ (List.range N').map r) (vr_up f ((List.range N').map r) (.inl (cy, z)))) → va_S A H0 H1 locs →
      W p l e R s m args below meth c H1 locs (cells + 1 + N') (slots + N' + N' * K') Q (F0 m (pc + 4) ls (.ref q :: rest))) : W p l e R s m args below meth c H locs cells slots Q (F0 m pc ls (.int k :: .int n :: rest)) := by
  subst hN
  subst hM
  intro T hT Xs
  obtain ⟨vm₁, cA, comp, -, fA, fC, hO, -, X', step⟩ := Xs.multianewarray2F hexec hown hclink (va_AOA.use hover) harr (g := F0 m pc ls (.int k :: .int n :: rest)) rfl (by rw [hb]; exact hdg) rfl hn hk hb1 hb2 hb3 hdf hdd hcells hslots
  have ec : some cy = some comp := hcy.symm.trans fC
  cases ec
  generalize hF : Jvm.Free.Multi.fill (T.setVm vm₁) cA cy n.toNatClampNeg k.toNatClampNeg (defaultValue ty) n.toNatClampNeg = F at X' step
  have hTh : (T.setVm vm₁).heap = H := hT
  obtain ⟨f1, f2, -, -⟩ := Jvm.Free.Multi.fill_facts (T.setVm vm₁) cA cy n.toNatClampNeg k.toNatClampNeg (defaultValue ty) n.toNatClampNeg
  rw [hF, hTh] at f1 f2
  have hold : ∀ x : Nat, x < H.size → F.heap[x]? = H[x]? := fun x hx => by
    have := Jvm.Free.Multi.fill_old (T.setVm vm₁) cA cy n.toNatClampNeg k.toNatClampNeg (defaultValue ty) (a := x) (by rw [hTh]; exact hx) n.toNatClampNeg
    rw [hF, hTh] at this
    exact this
  have hrow : ∀ j : Nat, j < n.toNatClampNeg → F.heap[H.size + 1 + j]? = some (vp_cell cy z) := fun j hj => by
    have := Jvm.Free.Multi.fill_inner (T.setVm vm₁) cA cy n.toNatClampNeg k.toNatClampNeg (defaultValue ty) n.toNatClampNeg j hj
    rw [hF, hTh, hz] at this
    exact this
  have hout : Jvm.Free.Multi.outerC cA n.toNatClampNeg H.size n.toNatClampNeg = vp_cell cA (n.toNatClampNeg, .inr (.inr (.inr (.inr (fun i => if i < n.toNatClampNeg then some (H.size + 1 + i) else none))))) := by
    rw [vp_cell_q]
    exact vr_outer cA n.toNatClampNeg H.size n.toNatClampNeg
  rw [hout] at f2
  have hlt : ∀ a, a ∈ L → a < H.size := fun a ha => by
    obtain ⟨k9, hk9⟩ := va_pl_get (X := X) (f := f) ha
    exact (hP k9 _ hk9).lt
  have hnl : ∀ i : Nat, i < n.toNatClampNeg → H.size + 1 + i ∉ L := fun i _ h => by
    have := hlt _ h
    omega
  have hnm : ∀ a, a ∈ (List.range n.toNatClampNeg).map (fun i => H.size + 1 + i) → a ∉ L := fun a ha h => by
    obtain ⟨i, -, rfl⟩ := List.mem_map.mp ha
    have := hlt _ h
    omega
  have hP0 : va_P D cl (X ++ va_pl L f) F.heap := hP.kept (fun k9 x hx => hold x.1 ((hP k9 x hx).lt))
  have hP1 : va_P D cl ((X ++ va_pl L f) ++ [(H.size, .inl (cA, n.toNatClampNeg, .inr (.inr (.inr (.inr (fun i => if i < n.toNatClampNeg then some (H.size + 1 + i) else none))))))]) F.heap := hP0.app (fun k9 x hx => by
    have h0 : k9 < 1 := (List.getElem?_eq_some_iff.mp hx).1
    rw [show k9 = 0 by omega] at hx
    cases hx
    exact f2)
  have hP2 : va_P D cl (((X ++ va_pl L f) ++ [(H.size, .inl (cA, n.toNatClampNeg, .inr (.inr (.inr (.inr (fun i => if i < n.toNatClampNeg then some (H.size + 1 + i) else none))))))]) ++ ((List.range n.toNatClampNeg).map (fun i => H.size + 1 + i)).map (fun a => (a, .inl (cy, z)))) F.heap := hP1.app (fun k9 x hx => by
    obtain ⟨a, ha, rfl⟩ := List.mem_map.mp (List.mem_of_getElem? hx)
    obtain ⟨i, hi, rfl⟩ := List.mem_map.mp ha
    exact hrow i (List.mem_range.mp hi))
  have hD2 : va_D A (((X ++ va_pl L f) ++ [(H.size, .inl (cA, n.toNatClampNeg, .inr (.inr (.inr (.inr (fun i => if i < n.toNatClampNeg then some (H.size + 1 + i) else none))))))]) ++ ((List.range n.toNatClampNeg).map (fun i => H.size + 1 + i)).map (fun a => (a, .inl (cy, z)))) := by
    have hD1 := hD.push (e := .inl (cA, n.toNatClampNeg, .inr (.inr (.inr (.inr (fun i => if i < n.toNatClampNeg then some (H.size + 1 + i) else none)))))) hP rfl (hA _ hS.1)
    generalize hW1 : (X ++ va_pl L f) ++ [(H.size, .inl (cA, n.toNatClampNeg, .inr (.inr (.inr (.inr (fun i => if i < n.toNatClampNeg then some (H.size + 1 + i) else none))))))] = W1 at hD1 hP1 ⊢
    have hle : ∀ (k9 : Nat) (x : Nat × va_E), W1[k9]? = some x → x.1 ≤ H.size := fun k9 x hx => by
      rw [← hW1] at hx
      by_cases hl : k9 < (X ++ va_pl L f).length
      · rw [List.getElem?_append_left hl] at hx
        exact Nat.le_of_lt ((hP k9 x hx).lt)
      · rw [List.getElem?_append_right (by omega)] at hx
        have h0 : k9 - (X ++ va_pl L f).length < 1 := (List.getElem?_eq_some_iff.mp hx).1
        rw [show k9 - (X ++ va_pl L f).length = 0 by omega] at hx
        cases hx
        exact Nat.le_refl _
    have hr : ∀ (k9 : Nat) (x : Nat × va_E), (((List.range n.toNatClampNeg).map (fun i => H.size + 1 + i)).map (fun a => ((a, .inl (cy, z)) : Nat × va_E)))[k9]? = some x → x.1 = H.size + 1 + k9 := fun k9 x hx => by
      rw [List.getElem?_map, List.getElem?_map] at hx
      by_cases h9 : k9 < n.toNatClampNeg
      · rw [List.getElem?_range h9] at hx
        cases hx
        rfl
      · have hn0 : (List.range n.toNatClampNeg)[k9]? = none := List.getElem?_eq_none (by rw [List.length_range]; omega)
        rw [hn0] at hx
        cases hx
    refine ⟨fun i j x y hi hj hxy => ?_, fun k9 x hx => ?_⟩
    · by_cases h1 : i < W1.length <;> by_cases h2 : j < W1.length
      · rw [List.getElem?_append_left h1] at hi
        rw [List.getElem?_append_left h2] at hj
        exact hD1.1 i j x y hi hj hxy
      · rw [List.getElem?_append_left h1] at hi
        rw [List.getElem?_append_right (by omega)] at hj
        have := hle _ _ hi
        have := hr _ _ hj
        omega
      · rw [List.getElem?_append_right (by omega)] at hi
        rw [List.getElem?_append_left h2] at hj
        have := hle _ _ hj
        have := hr _ _ hi
        omega
      · rw [List.getElem?_append_right (by omega)] at hi hj
        have := hr _ _ hi
        have := hr _ _ hj
        omega
    · by_cases h1 : k9 < W1.length
      · rw [List.getElem?_append_left h1] at hx
        exact hD1.2 k9 x hx
      · rw [List.getElem?_append_right (by omega)] at hx
        have := hr _ _ hx
        exact hA _ (by have := hS.1; omega)
  have hAr : ArrOfT s cA (.array ty) := fun N9 z9 => by
    obtain ⟨-, k9, hk9, cm9, hkk9⟩ := (hO 0 0 0).1
    exact ⟨(fun q hq => by cases hq), k9, hk9, cm9, hkk9⟩
  have hK2 : va_K D cl (tys ++ [(cA, .array ty)]) s := ⟨hK.1, fun k9 x hx => by
    by_cases hl : k9 < tys.length
    · rw [List.getElem?_append_left hl] at hx
      exact hK.2 k9 x hx
    · rw [List.getElem?_append_right (by omega)] at hx
      have h0 : k9 - tys.length < 1 := (List.getElem?_eq_some_iff.mp hx).1
      rw [show k9 - tys.length = 0 by omega] at hx
      cases hx
      exact ⟨hAr, fA⟩⟩
  obtain ⟨t, a1, b1⟩ := kk H.size (fun i => H.size + 1 + i) cA F.heap (fun i j _ _ h => by have h9 : H.size + 1 + i = H.size + 1 + j := h; omega) hnl hK2 (by rw [← vr_rows hnm]; exact vr_lay hP2) (by rw [← vr_rows hnm]; exact vr_layD hD2) ⟨by rw [f1]; have := hS.1; omega, fun x h1 h2 => (hold x (Nat.lt_of_lt_of_le h1 hS.1)).trans (hS.2.1 x h1 h2), hS.2.2⟩ F rfl X'
  refine ⟨t, step t ?_, b1⟩
  have e : T.heap.size = H.size := by rw [hT]
  rw [e]
  exact a1
end VGM
/-! ===== END ===== -/

/-! ===== BEGIN printed: names, fields, word lists, decode rows ===== -/
def RX0 : String := "CoastWatch$Boats"
def TX0 : u_T := fun k => match k with
  | 0 => ("CoastWatch$Boats", "size", "I", false)
  | 1 => ("CoastWatch$Boats", "draught", "[I", true)
  | 2 => ("CoastWatch$Boats", "hold", "[I", true)
  | 3 => ("CoastWatch$Boats", "strength", "[I", true)
  | 4 => ("CoastWatch$Boats", "bold", "[I", true)
  | 5 => ("CoastWatch$Boats", "casks", "[I", true)
  | 6 => ("CoastWatch$Boats", "escapes", "[I", true)
  | 7 => ("CoastWatch$Boats", "returns", "[I", true)
  | _ => ("CoastWatch$Boats", "fear", "[[I", true)
def tyX0 : Nat → FieldType := fun k => match k with
  | 0 => .int
  | 1 => .array .int
  | 2 => .array .int
  | 3 => .array .int
  | 4 => .array .int
  | 5 => .array .int
  | 6 => .array .int
  | 7 => .array .int
  | _ => .array (.array .int)
abbrev wsX00 : List Cond := u_ws RX0 TX0 9
theorem nmX0 : ∀ a, a < 9 → ∀ b, b < 9 → a ≠ b → (TX0 a).2.1 ≠ (TX0 b).2.1 := by decide +kernel
theorem tyX0_ok : ∀ k, k < 9 → parseFieldDescriptor (TX0 k).2.2.1 = some (tyX0 k) := by decide +kernel
abbrev cX0_init : ByteArray := prog_2_method_1_code
def yX0_init : MethodName := ⟨RX0, "<init>", "()V"⟩
abbrev cX0_add : ByteArray := prog_2_method_2_code
def yX0_add : MethodName := ⟨RX0, "add", "(IIII)I"⟩
abbrev cX0_frighten : ByteArray := prog_2_method_3_code
def yX0_frighten : MethodName := ⟨RX0, "frighten", "(III)V"⟩
abbrev cX0_calm : ByteArray := prog_2_method_4_code
def yX0_calm : MethodName := ⟨RX0, "calm", "()V"⟩
def RX1 : String := "CoastWatch$Coves"
def TX1 : u_T := fun k => match k with
  | 0 => ("CoastWatch$Coves", "depth", "[I", true)
  | 1 => ("CoastWatch$Coves", "worth", "[I", true)
  | 2 => ("CoastWatch$Coves", "ledBy", "[I", true)
  | 3 => ("CoastWatch$Coves", "standing", "[I", true)
  | 4 => ("CoastWatch$Coves", "shares", "[I", true)
  | 5 => ("CoastWatch$Coves", "bribed", "[Z", true)
  | _ => ("CoastWatch$Coves", "watchers", "[I", true)
def tyX1 : Nat → FieldType := fun k => match k with
  | 0 => .array .int
  | 1 => .array .int
  | 2 => .array .int
  | 3 => .array .int
  | 4 => .array .int
  | 5 => .array .boolean
  | _ => .array .int
abbrev wsX10 : List Cond := u_ws RX1 TX1 7
theorem nmX1 : ∀ a, a < 7 → ∀ b, b < 7 → a ≠ b → (TX1 a).2.1 ≠ (TX1 b).2.1 := by decide +kernel
theorem tyX1_ok : ∀ k, k < 7 → parseFieldDescriptor (TX1 k).2.2.1 = some (tyX1 k) := by decide +kernel
abbrev cX1_init : ByteArray := prog_3_method_1_code
def yX1_init : MethodName := ⟨RX1, "<init>", "()V"⟩
abbrev cX1_sumOfShares : ByteArray := prog_3_method_2_code
def yX1_sumOfShares : MethodName := ⟨RX1, "sumOfShares", "()I"⟩
abbrev cX1_coveOfShare : ByteArray := prog_3_method_3_code
def yX1_coveOfShare : MethodName := ⟨RX1, "coveOfShare", "(I)I"⟩
abbrev cX1_countingAt : ByteArray := prog_3_method_4_code
def yX1_countingAt : MethodName := ⟨RX1, "countingAt", "(I)I"⟩
def RX2 : String := "CoastWatch$Game"
def TX2 : u_T := fun k => match k with
  | 0 => ("CoastWatch$Game", "worths", "[I", true)
  | 1 => ("CoastWatch$Game", "above", "J", false)
  | _ => ("CoastWatch$Game", "below", "J", false)
def tyX2 : Nat → FieldType := fun k => match k with
  | 0 => .array .int
  | 1 => .long
  | _ => .long
abbrev wsX20 : List Cond := u_ws RX2 TX2 3
theorem nmX2 : ∀ a, a < 3 → ∀ b, b < 3 → a ≠ b → (TX2 a).2.1 ≠ (TX2 b).2.1 := by decide +kernel
theorem tyX2_ok : ∀ k, k < 3 → parseFieldDescriptor (TX2 k).2.2.1 = some (tyX2 k) := by decide +kernel
abbrev cX2_init : ByteArray := prog_4_method_1_code
def yX2_init : MethodName := ⟨RX2, "<init>", "()V"⟩
abbrev cX2_solve : ByteArray := prog_4_method_2_code
def yX2_solve : MethodName := ⟨RX2, "solve", "([III)V"⟩
abbrev cX2_sortDown : ByteArray := prog_4_method_3_code
def yX2_sortDown : MethodName := ⟨RX2, "sortDown", "([I)V"⟩
def RX3 : String := "CoastWatch$Hides"
def TX3 : u_T := fun k => match k with
  | 0 => ("CoastWatch$Hides", "size", "I", false)
  | 1 => ("CoastWatch$Hides", "cove", "[I", true)
  | 2 => ("CoastWatch$Hides", "room", "[I", true)
  | 3 => ("CoastWatch$Hides", "cost", "[I", true)
  | 4 => ("CoastWatch$Hides", "guess", "[I", true)
  | 5 => ("CoastWatch$Hides", "lying", "[I", true)
  | _ => ("CoastWatch$Hides", "scores", "[J", true)
def tyX3 : Nat → FieldType := fun k => match k with
  | 0 => .int
  | 1 => .array .int
  | 2 => .array .int
  | 3 => .array .int
  | 4 => .array .int
  | 5 => .array .int
  | _ => .array .long
abbrev wsX30 : List Cond := u_ws RX3 TX3 7
theorem nmX3 : ∀ a, a < 7 → ∀ b, b < 7 → a ≠ b → (TX3 a).2.1 ≠ (TX3 b).2.1 := by decide +kernel
theorem tyX3_ok : ∀ k, k < 7 → parseFieldDescriptor (TX3 k).2.2.1 = some (tyX3 k) := by decide +kernel
abbrev cX3_init : ByteArray := prog_5_method_1_code
def yX3_init : MethodName := ⟨RX3, "<init>", "()V"⟩
abbrev cX3_add : ByteArray := prog_5_method_2_code
def yX3_add : MethodName := ⟨RX3, "add", "(III)I"⟩
abbrev cX3_firstWithRoom : ByteArray := prog_5_method_3_code
def yX3_firstWithRoom : MethodName := ⟨RX3, "firstWithRoom", "(II)I"⟩
abbrev cX3_suspect : ByteArray := prog_5_method_4_code
def yX3_suspect : MethodName := ⟨RX3, "suspect", "(I)V"⟩
abbrev cX3_bestSet : ByteArray := prog_5_method_5_code
def yX3_bestSet : MethodName := ⟨RX3, "bestSet", "(I)I"⟩
def RX4 : String := "CoastWatch$Laws"
def TX4 : u_T := fun k => match k with
  | 0 => ("CoastWatch$Laws", "size", "I", false)
  | 1 => ("CoastWatch$Laws", "crew", "[I", true)
  | 2 => ("CoastWatch$Laws", "informer", "[I", true)
  | _ => ("CoastWatch$Laws", "from", "[I", true)
def tyX4 : Nat → FieldType := fun k => match k with
  | 0 => .int
  | 1 => .array .int
  | 2 => .array .int
  | _ => .array .int
abbrev wsX40 : List Cond := u_ws RX4 TX4 4
theorem nmX4 : ∀ a, a < 4 → ∀ b, b < 4 → a ≠ b → (TX4 a).2.1 ≠ (TX4 b).2.1 := by decide +kernel
theorem tyX4_ok : ∀ k, k < 4 → parseFieldDescriptor (TX4 k).2.2.1 = some (tyX4 k) := by decide +kernel
abbrev cX4_init : ByteArray := prog_6_method_1_code
def yX4_init : MethodName := ⟨RX4, "<init>", "()V"⟩
abbrev cX4_add : ByteArray := prog_6_method_2_code
def yX4_add : MethodName := ⟨RX4, "add", "(III)I"⟩
abbrev cX4_inForceOn : ByteArray := prog_6_method_3_code
def yX4_inForceOn : MethodName := ⟨RX4, "inForceOn", "(I)I"⟩
def RX5 : String := "CoastWatch$Lots"
def TX5 : u_T := fun k => match k with
  | 0 => ("CoastWatch$Lots", "size", "I", false)
  | 1 => ("CoastWatch$Lots", "boat", "[I", true)
  | 2 => ("CoastWatch$Lots", "casks", "[I", true)
  | 3 => ("CoastWatch$Lots", "night", "[I", true)
  | 4 => ("CoastWatch$Lots", "cove", "[I", true)
  | 5 => ("CoastWatch$Lots", "place", "[I", true)
  | _ => ("CoastWatch$Lots", "hide", "[I", true)
def tyX5 : Nat → FieldType := fun k => match k with
  | 0 => .int
  | 1 => .array .int
  | 2 => .array .int
  | 3 => .array .int
  | 4 => .array .int
  | 5 => .array .int
  | _ => .array .int
abbrev wsX50 : List Cond := u_ws RX5 TX5 7
theorem nmX5 : ∀ a, a < 7 → ∀ b, b < 7 → a ≠ b → (TX5 a).2.1 ≠ (TX5 b).2.1 := by decide +kernel
theorem tyX5_ok : ∀ k, k < 7 → parseFieldDescriptor (TX5 k).2.2.1 = some (tyX5 k) := by decide +kernel
abbrev cX5_init : ByteArray := prog_7_method_1_code
def yX5_init : MethodName := ⟨RX5, "<init>", "()V"⟩
abbrev cX5_add : ByteArray := prog_7_method_2_code
def yX5_add : MethodName := ⟨RX5, "add", "(IIIIII)V"⟩
abbrev cX5_liesIn : ByteArray := prog_7_method_3_code
def yX5_liesIn : MethodName := ⟨RX5, "liesIn", "(II)Z"⟩
abbrev cX5_cameTo : ByteArray := prog_7_method_4_code
def yX5_cameTo : MethodName := ⟨RX5, "cameTo", "(II)Z"⟩
abbrev cX5_heldIn : ByteArray := prog_7_method_5_code
def yX5_heldIn : MethodName := ⟨RX5, "heldIn", "(I)I"⟩
abbrev cX5_seizedIn : ByteArray := prog_7_method_6_code
def yX5_seizedIn : MethodName := ⟨RX5, "seizedIn", "(I)I"⟩
def RX6 : String := "CoastWatch$Seasons"
def TX6 : u_T := fun k => match k with
  | 0 => ("CoastWatch$Seasons", "least", "[I", true)
  | 1 => ("CoastWatch$Seasons", "most", "[I", true)
  | _ => ("CoastWatch$Seasons", "byLaw", "[I", true)
def tyX6 : Nat → FieldType := fun k => match k with
  | 0 => .array .int
  | 1 => .array .int
  | _ => .array .int
abbrev wsX60 : List Cond := u_ws RX6 TX6 3
theorem nmX6 : ∀ a, a < 3 → ∀ b, b < 3 → a ≠ b → (TX6 a).2.1 ≠ (TX6 b).2.1 := by decide +kernel
theorem tyX6_ok : ∀ k, k < 3 → parseFieldDescriptor (TX6 k).2.2.1 = some (tyX6 k) := by decide +kernel
abbrev cX6_init : ByteArray := prog_8_method_1_code
def yX6_init : MethodName := ⟨RX6, "<init>", "()V"⟩
abbrev cX6_landedOf : ByteArray := prog_8_method_2_code
def yX6_landedOf : MethodName := ⟨RX6, "landedOf", "(III)I"⟩
def RX7 : String := "CoastWatch$Tables"
def TX7 : u_T := fun k => match k with
  | 0 => ("CoastWatch$Tables", "numbers", "[[I", true)
  | _ => ("CoastWatch$Tables", "length", "[I", true)
def tyX7 : Nat → FieldType := fun k => match k with
  | 0 => .array (.array .int)
  | _ => .array .int
abbrev wsX70 : List Cond := u_ws RX7 TX7 2
theorem nmX7 : ∀ a, a < 2 → ∀ b, b < 2 → a ≠ b → (TX7 a).2.1 ≠ (TX7 b).2.1 := by decide +kernel
theorem tyX7_ok : ∀ k, k < 2 → parseFieldDescriptor (TX7 k).2.2.1 = some (tyX7 k) := by decide +kernel
abbrev cX7_init : ByteArray := prog_9_method_1_code
def yX7_init : MethodName := ⟨RX7, "<init>", "()V"⟩
abbrev cX7_isMissing : ByteArray := prog_9_method_2_code
def yX7_isMissing : MethodName := ⟨RX7, "isMissing", "(I)Z"⟩
abbrev cX7_begin : ByteArray := prog_9_method_3_code
def yX7_begin : MethodName := ⟨RX7, "begin", "(II)V"⟩
abbrev cX7_forget : ByteArray := prog_9_method_4_code
def yX7_forget : MethodName := ⟨RX7, "forget", "(I)V"⟩
abbrev cX7_hasPlaces : ByteArray := prog_9_method_5_code
def yX7_hasPlaces : MethodName := ⟨RX7, "hasPlaces", "(III)Z"⟩
def RX8 : String := "CoastWatch$Words"
def TX8 : u_T := fun k => match k with
  | 0 => ("CoastWatch$Words", "size", "I", false)
  | 1 => ("CoastWatch$Words", "informer", "[I", true)
  | 2 => ("CoastWatch$Words", "night", "[I", true)
  | 3 => ("CoastWatch$Words", "cove", "[I", true)
  | 4 => ("CoastWatch$Words", "right", "[I", true)
  | _ => ("CoastWatch$Words", "wrong", "[I", true)
def tyX8 : Nat → FieldType := fun k => match k with
  | 0 => .int
  | 1 => .array .int
  | 2 => .array .int
  | 3 => .array .int
  | 4 => .array .int
  | _ => .array .int
abbrev wsX80 : List Cond := u_ws RX8 TX8 6
theorem nmX8 : ∀ a, a < 6 → ∀ b, b < 6 → a ≠ b → (TX8 a).2.1 ≠ (TX8 b).2.1 := by decide +kernel
theorem tyX8_ok : ∀ k, k < 6 → parseFieldDescriptor (TX8 k).2.2.1 = some (tyX8 k) := by decide +kernel
abbrev cX8_init : ByteArray := prog_10_method_1_code
def yX8_init : MethodName := ⟨RX8, "<init>", "()V"⟩
abbrev cX8_add : ByteArray := prog_10_method_2_code
def yX8_add : MethodName := ⟨RX8, "add", "(III)I"⟩
abbrev cX8_names : ByteArray := prog_10_method_3_code
def yX8_names : MethodName := ⟨RX8, "names", "(III)Z"⟩
abbrev cX8_isToldBy : ByteArray := prog_10_method_4_code
def yX8_isToldBy : MethodName := ⟨RX8, "isToldBy", "(III)Z"⟩
abbrev cX8_firstInformer : ByteArray := prog_10_method_5_code
def yX8_firstInformer : MethodName := ⟨RX8, "firstInformer", "(II)I"⟩
abbrev cX8_prove : ByteArray := prog_10_method_6_code
def yX8_prove : MethodName := ⟨RX8, "prove", "(IZ)V"⟩
abbrev cX8_provedOf : ByteArray := prog_10_method_7_code
def yX8_provedOf : MethodName := ⟨RX8, "provedOf", "(I)I"⟩
abbrev cX8_rightOnes : ByteArray := prog_10_method_8_code
def yX8_rightOnes : MethodName := ⟨RX8, "rightOnes", "()I"⟩
abbrev cX8_wrongOnes : ByteArray := prog_10_method_9_code
def yX8_wrongOnes : MethodName := ⟨RX8, "wrongOnes", "()I"⟩
abbrev cX8_doubtAbove : ByteArray := prog_10_method_10_code
def yX8_doubtAbove : MethodName := ⟨RX8, "doubtAbove", "(II)J"⟩
abbrev cX8_doubtBelow : ByteArray := prog_10_method_11_code
def yX8_doubtBelow : MethodName := ⟨RX8, "doubtBelow", "(II)J"⟩
def RX9 : String := "CoastWatch"
def TX9 : u_T := fun k => match k with
  | 0 => ("CoastWatch", "night", "I", false)
  | 1 => ("CoastWatch", "seed", "I", false)
  | 2 => ("CoastWatch", "drawCount", "I", false)
  | 3 => ("CoastWatch", "casksPrice", "I", false)
  | 4 => ("CoastWatch", "refusals", "[I", true)
  | 5 => ("CoastWatch", "purses", "[I", true)
  | 6 => ("CoastWatch", "tables", "LCoastWatch$Tables;", true)
  | 7 => ("CoastWatch", "coves", "LCoastWatch$Coves;", true)
  | 8 => ("CoastWatch", "boats", "LCoastWatch$Boats;", true)
  | 9 => ("CoastWatch", "hides", "LCoastWatch$Hides;", true)
  | 10 => ("CoastWatch", "lots", "LCoastWatch$Lots;", true)
  | 11 => ("CoastWatch", "laws", "LCoastWatch$Laws;", true)
  | 12 => ("CoastWatch", "words", "LCoastWatch$Words;", true)
  | 13 => ("CoastWatch", "seasons", "LCoastWatch$Seasons;", true)
  | _ => ("CoastWatch", "game", "LCoastWatch$Game;", true)
def tyX9 : Nat → FieldType := fun k => match k with
  | 0 => .int
  | 1 => .int
  | 2 => .int
  | 3 => .int
  | 4 => .array .int
  | 5 => .array .int
  | 6 => .object "CoastWatch$Tables"
  | 7 => .object "CoastWatch$Coves"
  | 8 => .object "CoastWatch$Boats"
  | 9 => .object "CoastWatch$Hides"
  | 10 => .object "CoastWatch$Lots"
  | 11 => .object "CoastWatch$Laws"
  | 12 => .object "CoastWatch$Words"
  | 13 => .object "CoastWatch$Seasons"
  | _ => .object "CoastWatch$Game"
abbrev wsX90 : List Cond := u_ws RX9 TX9 15
theorem nmX9 : ∀ a, a < 15 → ∀ b, b < 15 → a ≠ b → (TX9 a).2.1 ≠ (TX9 b).2.1 := by decide +kernel
theorem tyX9_ok : ∀ k, k < 15 → parseFieldDescriptor (TX9 k).2.2.1 = some (tyX9 k) := by decide +kernel
abbrev cX9_init : ByteArray := prog_1_method_1_code
def yX9_init : MethodName := ⟨RX9, "<init>", "()V"⟩
abbrev cX9_seed : ByteArray := prog_1_method_2_code
def yX9_seed : MethodName := ⟨RX9, "seed", "(I)I"⟩
abbrev cX9_cove : ByteArray := prog_1_method_3_code
def yX9_cove : MethodName := ⟨RX9, "cove", "(III)I"⟩
abbrev cX9_row : ByteArray := prog_1_method_4_code
def yX9_row : MethodName := ⟨RX9, "row", "(II)I"⟩
abbrev cX9_lose : ByteArray := prog_1_method_5_code
def yX9_lose : MethodName := ⟨RX9, "lose", "(I)I"⟩
abbrev cX9_put : ByteArray := prog_1_method_6_code
def yX9_put : MethodName := ⟨RX9, "put", "(III)I"⟩
abbrev cX9_copy : ByteArray := prog_1_method_7_code
def yX9_copy : MethodName := ⟨RX9, "copy", "(IIIII)I"⟩
abbrev cX9_lead : ByteArray := prog_1_method_8_code
def yX9_lead : MethodName := ⟨RX9, "lead", "(II)I"⟩
abbrev cX9_tide : ByteArray := prog_1_method_9_code
def yX9_tide : MethodName := ⟨RX9, "tide", "(II)I"⟩
abbrev cX9_boat : ByteArray := prog_1_method_10_code
def yX9_boat : MethodName := ⟨RX9, "boat", "(IIII)I"⟩
abbrev cX9_load : ByteArray := prog_1_method_11_code
def yX9_load : MethodName := ⟨RX9, "load", "(II)I"⟩
abbrev cX9_hide : ByteArray := prog_1_method_12_code
def yX9_hide : MethodName := ⟨RX9, "hide", "(III)I"⟩
abbrev cX9_stand : ByteArray := prog_1_method_13_code
def yX9_stand : MethodName := ⟨RX9, "stand", "(II)I"⟩
abbrev cX9_bribe : ByteArray := prog_1_method_14_code
def yX9_bribe : MethodName := ⟨RX9, "bribe", "(IZ)I"⟩
abbrev cX9_share : ByteArray := prog_1_method_15_code
def yX9_share : MethodName := ⟨RX9, "share", "(II)I"⟩
abbrev cX9_draws : ByteArray := prog_1_method_16_code
def yX9_draws : MethodName := ⟨RX9, "draws", "(I)I"⟩
abbrev cX9_price : ByteArray := prog_1_method_17_code
def yX9_price : MethodName := ⟨RX9, "price", "(I)I"⟩
abbrev cX9_law : ByteArray := prog_1_method_18_code
def yX9_law : MethodName := ⟨RX9, "law", "(III)I"⟩
abbrev cX9_word : ByteArray := prog_1_method_19_code
def yX9_word : MethodName := ⟨RX9, "word", "(III)I"⟩
abbrev cX9_nights : ByteArray := prog_1_method_20_code
def yX9_nights : MethodName := ⟨RX9, "nights", "(I)I"⟩
abbrev cX9_search : ByteArray := prog_1_method_21_code
def yX9_search : MethodName := ⟨RX9, "search", "(I)I"⟩
abbrev cX9_best : ByteArray := prog_1_method_22_code
def yX9_best : MethodName := ⟨RX9, "best", "(I)I"⟩
abbrev cX9_belief : ByteArray := prog_1_method_23_code
def yX9_belief : MethodName := ⟨RX9, "belief", "(III)J"⟩
abbrev cX9_weight : ByteArray := prog_1_method_24_code
def yX9_weight : MethodName := ⟨RX9, "weight", "(II)I"⟩
abbrev cX9_value : ByteArray := prog_1_method_25_code
def yX9_value : MethodName := ⟨RX9, "value", "(III)J"⟩
abbrev cX9_chance : ByteArray := prog_1_method_26_code
def yX9_chance : MethodName := ⟨RX9, "chance", "(IIII)J"⟩
abbrev cX9_used : ByteArray := prog_1_method_27_code
def yX9_used : MethodName := ⟨RX9, "used", "(IIII)I"⟩
abbrev cX9_landed : ByteArray := prog_1_method_28_code
def yX9_landed : MethodName := ⟨RX9, "landed", "(II)I"⟩
abbrev cX9_lotOf : ByteArray := prog_1_method_29_code
def yX9_lotOf : MethodName := ⟨RX9, "lotOf", "(II)I"⟩
abbrev cX9_boatOf : ByteArray := prog_1_method_30_code
def yX9_boatOf : MethodName := ⟨RX9, "boatOf", "(II)I"⟩
abbrev cX9_hideOf : ByteArray := prog_1_method_31_code
def yX9_hideOf : MethodName := ⟨RX9, "hideOf", "(II)I"⟩
abbrev cX9_watched : ByteArray := prog_1_method_32_code
def yX9_watched : MethodName := ⟨RX9, "watched", "(I)I"⟩
abbrev cX9_coins : ByteArray := prog_1_method_33_code
def yX9_coins : MethodName := ⟨RX9, "coins", "(I)I"⟩
abbrev cX9_count : ByteArray := prog_1_method_34_code
def yX9_count : MethodName := ⟨RX9, "count", "(I)I"⟩
abbrev cX9_refuse : ByteArray := prog_1_method_35_code
def yX9_refuse : MethodName := ⟨RX9, "refuse", "(I)I"⟩
abbrev cX9_isCove : ByteArray := prog_1_method_36_code
def yX9_isCove : MethodName := ⟨RX9, "isCove", "(I)Z"⟩
abbrev cX9_isTable : ByteArray := prog_1_method_37_code
def yX9_isTable : MethodName := ⟨RX9, "isTable", "(I)Z"⟩
abbrev cX9_isInformer : ByteArray := prog_1_method_38_code
def yX9_isInformer : MethodName := ⟨RX9, "isInformer", "(I)Z"⟩
abbrev cX9_isSeason : ByteArray := prog_1_method_39_code
def yX9_isSeason : MethodName := ⟨RX9, "isSeason", "(I)Z"⟩
abbrev cX9_isPart : ByteArray := prog_1_method_40_code
def yX9_isPart : MethodName := ⟨RX9, "isPart", "(I)Z"⟩
abbrev cX9_isBoat : ByteArray := prog_1_method_41_code
def yX9_isBoat : MethodName := ⟨RX9, "isBoat", "(I)Z"⟩
abbrev cX9_isHide : ByteArray := prog_1_method_42_code
def yX9_isHide : MethodName := ⟨RX9, "isHide", "(I)Z"⟩
abbrev cX9_gameRefusal : ByteArray := prog_1_method_43_code
def yX9_gameRefusal : MethodName := ⟨RX9, "gameRefusal", "(III)I"⟩
abbrev cX9_lowest : ByteArray := prog_1_method_44_code
def yX9_lowest : MethodName := ⟨RX9, "lowest", "(JJI)J"⟩
abbrev cX9_commonDivisor : ByteArray := prog_1_method_45_code
def yX9_commonDivisor : MethodName := ⟨RX9, "commonDivisor", "(JJ)J"⟩
abbrev cX9_passNight : ByteArray := prog_1_method_46_code
def yX9_passNight : MethodName := ⟨RX9, "passNight", "()V"⟩
abbrev cX9_placeWatchers : ByteArray := prog_1_method_47_code
def yX9_placeWatchers : MethodName := ⟨RX9, "placeWatchers", "()V"⟩
abbrev cX9_drawBelow : ByteArray := prog_1_method_48_code
def yX9_drawBelow : MethodName := ⟨RX9, "drawBelow", "(I)I"⟩
abbrev cX9_light : ByteArray := prog_1_method_49_code
def yX9_light : MethodName := ⟨RX9, "light", "()I"⟩
abbrev cX9_tideAt : ByteArray := prog_1_method_50_code
def yX9_tideAt : MethodName := ⟨RX9, "tideAt", "(II)I"⟩
abbrev cX9_sendOut : ByteArray := prog_1_method_51_code
def yX9_sendOut : MethodName := ⟨RX9, "sendOut", "(I)V"⟩
abbrev cX9_chosenCove : ByteArray := prog_1_method_52_code
def yX9_chosenCove : MethodName := ⟨RX9, "chosenCove", "(I)I"⟩
abbrev cX9_isOpen : ByteArray := prog_1_method_53_code
def yX9_isOpen : MethodName := ⟨RX9, "isOpen", "(II)Z"⟩
abbrev cX9_isDearer : ByteArray := prog_1_method_54_code
def yX9_isDearer : MethodName := ⟨RX9, "isDearer", "(III)Z"⟩
abbrev cX9_meetWatchers : ByteArray := prog_1_method_55_code
def yX9_meetWatchers : MethodName := ⟨RX9, "meetWatchers", "(III)V"⟩
abbrev cX9_bringAshore : ByteArray := prog_1_method_56_code
def yX9_bringAshore : MethodName := ⟨RX9, "bringAshore", "(II)V"⟩
abbrev cX9_lookAt : ByteArray := prog_1_method_57_code
def yX9_lookAt : MethodName := ⟨RX9, "lookAt", "(II)V"⟩
abbrev cX9_partSeized : ByteArray := prog_1_method_58_code
def yX9_partSeized : MethodName := ⟨RX9, "partSeized", "(II)V"⟩
abbrev cX9_proveWords : ByteArray := prog_1_method_59_code
def yX9_proveWords : MethodName := ⟨RX9, "proveWords", "()V"⟩
def RX10 : String := "CoastWatchModel"
def TX10 : u_T := fun k => match k with
  | 0 => ("CoastWatchModel", "seed", "I", false)
  | 1 => ("CoastWatchModel", "night", "I", false)
  | 2 => ("CoastWatchModel", "depth", "[I", true)
  | 3 => ("CoastWatchModel", "worth", "[I", true)
  | 4 => ("CoastWatchModel", "rowSize", "[I", true)
  | 5 => ("CoastWatchModel", "row", "[I", true)
  | 6 => ("CoastWatchModel", "led", "[I", true)
  | 7 => ("CoastWatchModel", "boats", "I", false)
  | 8 => ("CoastWatchModel", "draught", "[I", true)
  | 9 => ("CoastWatchModel", "hold", "[I", true)
  | 10 => ("CoastWatchModel", "strength", "[I", true)
  | 11 => ("CoastWatchModel", "bold", "[I", true)
  | 12 => ("CoastWatchModel", "aboard", "[I", true)
  | 13 => ("CoastWatchModel", "away", "[I", true)
  | 14 => ("CoastWatchModel", "home", "[I", true)
  | 15 => ("CoastWatchModel", "fear", "[I", true)
  | 16 => ("CoastWatchModel", "hides", "I", false)
  | 17 => ("CoastWatchModel", "hideCove", "[I", true)
  | 18 => ("CoastWatchModel", "hideRoom", "[I", true)
  | 19 => ("CoastWatchModel", "hideCost", "[I", true)
  | 20 => ("CoastWatchModel", "guess", "[I", true)
  | 21 => ("CoastWatchModel", "lots", "I", false)
  | 22 => ("CoastWatchModel", "lotBoat", "[I", true)
  | 23 => ("CoastWatchModel", "lotCasks", "[I", true)
  | 24 => ("CoastWatchModel", "lotNight", "[I", true)
  | 25 => ("CoastWatchModel", "lotCove", "[I", true)
  | 26 => ("CoastWatchModel", "lotLies", "[I", true)
  | 27 => ("CoastWatchModel", "lotHide", "[I", true)
  | 28 => ("CoastWatchModel", "standing", "[I", true)
  | 29 => ("CoastWatchModel", "shares", "[I", true)
  | 30 => ("CoastWatchModel", "bribed", "[Z", true)
  | 31 => ("CoastWatchModel", "there", "[I", true)
  | 32 => ("CoastWatchModel", "came", "[Z", true)
  | 33 => ("CoastWatchModel", "drawMany", "I", false)
  | 34 => ("CoastWatchModel", "price", "I", false)
  | 35 => ("CoastWatchModel", "laws", "I", false)
  | 36 => ("CoastWatchModel", "lawCrew", "[I", true)
  | 37 => ("CoastWatchModel", "lawInformer", "[I", true)
  | 38 => ("CoastWatchModel", "lawNight", "[I", true)
  | 39 => ("CoastWatchModel", "words", "I", false)
  | 40 => ("CoastWatchModel", "wordOf", "[I", true)
  | 41 => ("CoastWatchModel", "wordNight", "[I", true)
  | 42 => ("CoastWatchModel", "wordCove", "[I", true)
  | 43 => ("CoastWatchModel", "right", "[I", true)
  | 44 => ("CoastWatchModel", "wrong", "[I", true)
  | 45 => ("CoastWatchModel", "usedLeast", "[I", true)
  | 46 => ("CoastWatchModel", "usedMost", "[I", true)
  | 47 => ("CoastWatchModel", "usedLaw", "[I", true)
  | 48 => ("CoastWatchModel", "coins", "[I", true)
  | 49 => ("CoastWatchModel", "refused", "[I", true)
  | 50 => ("CoastWatchModel", "between", "[I", true)
  | 51 => ("CoastWatchModel", "sorted", "[I", true)
  | 52 => ("CoastWatchModel", "gameAbove", "J", false)
  | _ => ("CoastWatchModel", "gameBelow", "J", false)
def tyX10 : Nat → FieldType := fun k => match k with
  | 0 => .int
  | 1 => .int
  | 2 => .array .int
  | 3 => .array .int
  | 4 => .array .int
  | 5 => .array .int
  | 6 => .array .int
  | 7 => .int
  | 8 => .array .int
  | 9 => .array .int
  | 10 => .array .int
  | 11 => .array .int
  | 12 => .array .int
  | 13 => .array .int
  | 14 => .array .int
  | 15 => .array .int
  | 16 => .int
  | 17 => .array .int
  | 18 => .array .int
  | 19 => .array .int
  | 20 => .array .int
  | 21 => .int
  | 22 => .array .int
  | 23 => .array .int
  | 24 => .array .int
  | 25 => .array .int
  | 26 => .array .int
  | 27 => .array .int
  | 28 => .array .int
  | 29 => .array .int
  | 30 => .array .boolean
  | 31 => .array .int
  | 32 => .array .boolean
  | 33 => .int
  | 34 => .int
  | 35 => .int
  | 36 => .array .int
  | 37 => .array .int
  | 38 => .array .int
  | 39 => .int
  | 40 => .array .int
  | 41 => .array .int
  | 42 => .array .int
  | 43 => .array .int
  | 44 => .array .int
  | 45 => .array .int
  | 46 => .array .int
  | 47 => .array .int
  | 48 => .array .int
  | 49 => .array .int
  | 50 => .array .int
  | 51 => .array .int
  | 52 => .long
  | _ => .long
abbrev wsX100 : List Cond := u_ws RX10 TX10 54
theorem nmX10 : ∀ a, a < 54 → ∀ b, b < 54 → a ≠ b → (TX10 a).2.1 ≠ (TX10 b).2.1 := by decide +kernel
theorem tyX10_ok : ∀ k, k < 54 → parseFieldDescriptor (TX10 k).2.2.1 = some (tyX10 k) := by decide +kernel
abbrev cX10_init : ByteArray := prog_12_method_1_code
def yX10_init : MethodName := ⟨RX10, "<init>", "()V"⟩
abbrev cX10_in : ByteArray := prog_12_method_3_code
def yX10_in : MethodName := ⟨RX10, "in", "(III)Z"⟩
abbrev cX10_refuse : ByteArray := prog_12_method_4_code
def yX10_refuse : MethodName := ⟨RX10, "refuse", "(I)I"⟩
abbrev cX10_isCove : ByteArray := prog_12_method_5_code
def yX10_isCove : MethodName := ⟨RX10, "isCove", "(I)Z"⟩
abbrev cX10_seed : ByteArray := prog_12_method_6_code
def yX10_seed : MethodName := ⟨RX10, "seed", "(I)I"⟩
abbrev cX10_cove : ByteArray := prog_12_method_7_code
def yX10_cove : MethodName := ⟨RX10, "cove", "(III)I"⟩
abbrev cX10_row : ByteArray := prog_12_method_8_code
def yX10_row : MethodName := ⟨RX10, "row", "(II)I"⟩
abbrev cX10_lose : ByteArray := prog_12_method_9_code
def yX10_lose : MethodName := ⟨RX10, "lose", "(I)I"⟩
abbrev cX10_put : ByteArray := prog_12_method_10_code
def yX10_put : MethodName := ⟨RX10, "put", "(III)I"⟩
abbrev cX10_copy : ByteArray := prog_12_method_11_code
def yX10_copy : MethodName := ⟨RX10, "copy", "(IIIII)I"⟩
abbrev cX10_lead : ByteArray := prog_12_method_12_code
def yX10_lead : MethodName := ⟨RX10, "lead", "(II)I"⟩
abbrev cX10_tideAt : ByteArray := prog_12_method_13_code
def yX10_tideAt : MethodName := ⟨RX10, "tideAt", "(II)I"⟩
abbrev cX10_tide : ByteArray := prog_12_method_14_code
def yX10_tide : MethodName := ⟨RX10, "tide", "(II)I"⟩
abbrev cX10_lightAt : ByteArray := prog_12_method_15_code
def yX10_lightAt : MethodName := ⟨RX10, "lightAt", "(I)I"⟩
abbrev cX10_boat : ByteArray := prog_12_method_16_code
def yX10_boat : MethodName := ⟨RX10, "boat", "(IIII)I"⟩
abbrev cX10_load : ByteArray := prog_12_method_17_code
def yX10_load : MethodName := ⟨RX10, "load", "(II)I"⟩
abbrev cX10_hide : ByteArray := prog_12_method_18_code
def yX10_hide : MethodName := ⟨RX10, "hide", "(III)I"⟩
abbrev cX10_stand : ByteArray := prog_12_method_19_code
def yX10_stand : MethodName := ⟨RX10, "stand", "(II)I"⟩
abbrev cX10_bribe : ByteArray := prog_12_method_20_code
def yX10_bribe : MethodName := ⟨RX10, "bribe", "(IZ)I"⟩
abbrev cX10_share : ByteArray := prog_12_method_21_code
def yX10_share : MethodName := ⟨RX10, "share", "(II)I"⟩
abbrev cX10_draws : ByteArray := prog_12_method_22_code
def yX10_draws : MethodName := ⟨RX10, "draws", "(I)I"⟩
abbrev cX10_price : ByteArray := prog_12_method_23_code
def yX10_price : MethodName := ⟨RX10, "price", "(I)I"⟩
abbrev cX10_law : ByteArray := prog_12_method_24_code
def yX10_law : MethodName := ⟨RX10, "law", "(III)I"⟩
abbrev cX10_word : ByteArray := prog_12_method_25_code
def yX10_word : MethodName := ⟨RX10, "word", "(III)I"⟩
abbrev cX10_drawBelow : ByteArray := prog_12_method_26_code
def yX10_drawBelow : MethodName := ⟨RX10, "drawBelow", "(I)I"⟩
abbrev cX10_watch : ByteArray := prog_12_method_27_code
def yX10_watch : MethodName := ⟨RX10, "watch", "()V"⟩
abbrev cX10_counting : ByteArray := prog_12_method_28_code
def yX10_counting : MethodName := ⟨RX10, "counting", "(I)I"⟩
abbrev cX10_choice : ByteArray := prog_12_method_29_code
def yX10_choice : MethodName := ⟨RX10, "choice", "(I)I"⟩
abbrev cX10_partCasks : ByteArray := prog_12_method_30_code
def yX10_partCasks : MethodName := ⟨RX10, "partCasks", "(II)V"⟩
abbrev cX10_teller : ByteArray := prog_12_method_31_code
def yX10_teller : MethodName := ⟨RX10, "teller", "(I)I"⟩
abbrev cX10_liesIn : ByteArray := prog_12_method_32_code
def yX10_liesIn : MethodName := ⟨RX10, "liesIn", "(I)I"⟩
abbrev cX10_hideFor : ByteArray := prog_12_method_33_code
def yX10_hideFor : MethodName := ⟨RX10, "hideFor", "(II)I"⟩
abbrev cX10_lot : ByteArray := prog_12_method_34_code
def yX10_lot : MethodName := ⟨RX10, "lot", "(IIII)V"⟩
abbrev cX10_moreFear : ByteArray := prog_12_method_35_code
def yX10_moreFear : MethodName := ⟨RX10, "moreFear", "(III)V"⟩
abbrev cX10_goes : ByteArray := prog_12_method_36_code
def yX10_goes : MethodName := ⟨RX10, "goes", "(II)V"⟩
abbrev cX10_prove : ByteArray := prog_12_method_37_code
def yX10_prove : MethodName := ⟨RX10, "prove", "()V"⟩
abbrev cX10_pass : ByteArray := prog_12_method_38_code
def yX10_pass : MethodName := ⟨RX10, "pass", "()V"⟩
abbrev cX10_nights : ByteArray := prog_12_method_39_code
def yX10_nights : MethodName := ⟨RX10, "nights", "(I)I"⟩
abbrev cX10_search : ByteArray := prog_12_method_40_code
def yX10_search : MethodName := ⟨RX10, "search", "(I)I"⟩
abbrev cX10_ones : ByteArray := prog_12_method_41_code
def yX10_ones : MethodName := ⟨RX10, "ones", "(I)I"⟩
abbrev cX10_best : ByteArray := prog_12_method_42_code
def yX10_best : MethodName := ⟨RX10, "best", "(I)I"⟩
abbrev cX10_divisor : ByteArray := prog_12_method_43_code
def yX10_divisor : MethodName := ⟨RX10, "divisor", "(JJ)J"⟩
abbrev cX10_side : ByteArray := prog_12_method_44_code
def yX10_side : MethodName := ⟨RX10, "side", "(JJI)J"⟩
abbrev cX10_belief : ByteArray := prog_12_method_45_code
def yX10_belief : MethodName := ⟨RX10, "belief", "(III)J"⟩
abbrev cX10_weight : ByteArray := prog_12_method_46_code
def yX10_weight : MethodName := ⟨RX10, "weight", "(II)I"⟩
abbrev cX10_play : ByteArray := prog_12_method_47_code
def yX10_play : MethodName := ⟨RX10, "play", "(II)V"⟩
abbrev cX10_refuseBig : ByteArray := prog_12_method_48_code
def yX10_refuseBig : MethodName := ⟨RX10, "refuseBig", "(I)J"⟩
abbrev cX10_value : ByteArray := prog_12_method_49_code
def yX10_value : MethodName := ⟨RX10, "value", "(III)J"⟩
abbrev cX10_chance : ByteArray := prog_12_method_50_code
def yX10_chance : MethodName := ⟨RX10, "chance", "(IIII)J"⟩
abbrev cX10_used : ByteArray := prog_12_method_51_code
def yX10_used : MethodName := ⟨RX10, "used", "(IIII)I"⟩
abbrev cX10_casksOf : ByteArray := prog_12_method_52_code
def yX10_casksOf : MethodName := ⟨RX10, "casksOf", "(IZ)I"⟩
abbrev cX10_landed : ByteArray := prog_12_method_53_code
def yX10_landed : MethodName := ⟨RX10, "landed", "(II)I"⟩
abbrev cX10_lotOf : ByteArray := prog_12_method_54_code
def yX10_lotOf : MethodName := ⟨RX10, "lotOf", "(II)I"⟩
abbrev cX10_boatOf : ByteArray := prog_12_method_55_code
def yX10_boatOf : MethodName := ⟨RX10, "boatOf", "(II)I"⟩
abbrev cX10_hideOf : ByteArray := prog_12_method_56_code
def yX10_hideOf : MethodName := ⟨RX10, "hideOf", "(II)I"⟩
abbrev cX10_watched : ByteArray := prog_12_method_57_code
def yX10_watched : MethodName := ⟨RX10, "watched", "(I)I"⟩
abbrev cX10_coins : ByteArray := prog_12_method_58_code
def yX10_coins : MethodName := ⟨RX10, "coins", "(I)I"⟩
abbrev cX10_count : ByteArray := prog_12_method_59_code
def yX10_count : MethodName := ⟨RX10, "count", "(I)I"⟩
def RJ9 : String := "java/lang/Math"
def TJ9 : u_T := fun k => match k with
  | _ => ("", "", "", false)
def tyJ9 : Nat → FieldType := fun k => match k with
  | _ => .int
abbrev wsJ90 : List Cond := u_ws RJ9 TJ9 0
theorem nmJ9 : ∀ a, a < 0 → ∀ b, b < 0 → a ≠ b → (TJ9 a).2.1 ≠ (TJ9 b).2.1 := by decide +kernel
theorem tyJ9_ok : ∀ k, k < 0 → parseFieldDescriptor (TJ9 k).2.2.1 = some (tyJ9 k) := by decide +kernel
abbrev cJ9_max_7cf53 : ByteArray := prog_13_method_65_code
def yJ9_max_7cf53 : MethodName := ⟨RJ9, "max", "(II)I"⟩
abbrev cJ9_max_f86c9 : ByteArray := prog_13_method_66_code
def yJ9_max_f86c9 : MethodName := ⟨RJ9, "max", "(JJ)J"⟩
abbrev cJ9_min_7cf53 : ByteArray := prog_13_method_69_code
def yJ9_min_7cf53 : MethodName := ⟨RJ9, "min", "(II)I"⟩
def RJ10 : String := "java/lang/System"
def TJ10 : u_T := fun k => match k with
  | _ => ("", "", "", false)
def tyJ10 : Nat → FieldType := fun k => match k with
  | _ => .int
abbrev wsJ100 : List Cond := u_ws RJ10 TJ10 0
theorem nmJ10 : ∀ a, a < 0 → ∀ b, b < 0 → a ≠ b → (TJ10 a).2.1 ≠ (TJ10 b).2.1 := by decide +kernel
theorem tyJ10_ok : ∀ k, k < 0 → parseFieldDescriptor (TJ10 k).2.2.1 = some (tyJ10 k) := by decide +kernel
def RL : String := "CoastWatchLaw"
abbrev cL_law : ByteArray := code
def yL_law : MethodName := ⟨RL, "law", "([I)Z"⟩
def wsX0_init : List Cond := .code yX0_init cX0_init 1 none :: ([.methodLink RX0 3 objectInit, .instanceMethod objectInit, .code objectInit ⟨#[0xb1]⟩ 1 none, .fieldLink RX0 9 "CoastWatch$Boats" "size" "I", .arrayClass .int, .fieldLink RX0 15 "CoastWatch$Boats" "draught" "[I", .fieldLink RX0 19 "CoastWatch$Boats" "hold" "[I", .fieldLink RX0 22 "CoastWatch$Boats" "strength" "[I", .fieldLink RX0 25 "CoastWatch$Boats" "bold" "[I", .fieldLink RX0 28 "CoastWatch$Boats" "casks" "[I", .fieldLink RX0 31 "CoastWatch$Boats" "escapes" "[I", .fieldLink RX0 34 "CoastWatch$Boats" "returns" "[I", .classLink RX0 37 "[[I", .fieldLink RX0 39 "CoastWatch$Boats" "fear" "[[I"] ++ wsX00)
def wsX0_add : List Cond := .code yX0_add cX0_add 6 (some .int) :: ([.fieldLink RX0 9 "CoastWatch$Boats" "size" "I", .fieldLink RX0 15 "CoastWatch$Boats" "draught" "[I", .fieldLink RX0 19 "CoastWatch$Boats" "hold" "[I", .fieldLink RX0 22 "CoastWatch$Boats" "strength" "[I", .fieldLink RX0 25 "CoastWatch$Boats" "bold" "[I"] ++ wsX00)
def wsX0_frighten : List Cond := .code yX0_frighten cX0_frighten 4 none :: ([.fieldLink RX0 39 "CoastWatch$Boats" "fear" "[[I", .methodLink RX0 42 Lib.Math.min.name, .static Lib.Math.min.name, .initialized "java/lang/Math", .code Lib.Math.min.name Lib.Math.min.code 2 (some .int)] ++ wsX00)
def wsX0_calm : List Cond := .code yX0_calm cX0_calm 3 none :: ([.fieldLink RX0 9 "CoastWatch$Boats" "size" "I", .fieldLink RX0 39 "CoastWatch$Boats" "fear" "[[I"] ++ wsX00)
def wsX1_init : List Cond := .code yX1_init cX1_init 2 none :: ([.methodLink RX1 3 objectInit, .instanceMethod objectInit, .code objectInit ⟨#[0xb1]⟩ 1 none, .arrayClass .int, .fieldLink RX1 9 "CoastWatch$Coves" "depth" "[I", .fieldLink RX1 15 "CoastWatch$Coves" "worth" "[I", .fieldLink RX1 18 "CoastWatch$Coves" "ledBy" "[I", .fieldLink RX1 21 "CoastWatch$Coves" "standing" "[I", .fieldLink RX1 24 "CoastWatch$Coves" "shares" "[I", .arrayClass .boolean, .fieldLink RX1 27 "CoastWatch$Coves" "bribed" "[Z", .fieldLink RX1 31 "CoastWatch$Coves" "watchers" "[I"] ++ wsX10)
def wsX1_sumOfShares : List Cond := .code yX1_sumOfShares cX1_sumOfShares 3 (some .int) :: ([.fieldLink RX1 24 "CoastWatch$Coves" "shares" "[I"] ++ wsX10)
def wsX1_coveOfShare : List Cond := .code yX1_coveOfShare cX1_coveOfShare 4 (some .int) :: ([.fieldLink RX1 24 "CoastWatch$Coves" "shares" "[I"] ++ wsX10)
def wsX1_countingAt : List Cond := .code yX1_countingAt cX1_countingAt 2 (some .int) :: ([.fieldLink RX1 27 "CoastWatch$Coves" "bribed" "[Z", .fieldLink RX1 31 "CoastWatch$Coves" "watchers" "[I"] ++ wsX10)
def wsX2_init : List Cond := .code yX2_init cX2_init 1 none :: ([.methodLink RX2 3 objectInit, .instanceMethod objectInit, .code objectInit ⟨#[0xb1]⟩ 1 none, .arrayClass .int, .fieldLink RX2 9 "CoastWatch$Game" "worths" "[I", .fieldLink RX2 15 "CoastWatch$Game" "above" "J", .fieldLink RX2 19 "CoastWatch$Game" "below" "J"] ++ wsX20)
def wsX2_sortDown : List Cond := .code yX2_sortDown cX2_sortDown 5 none :: ([.fieldLink RX2 9 "CoastWatch$Game" "worths" "[I"] ++ wsX20)
def wsX2_solve : List Cond := .code yX2_solve cX2_solve 13 none :: ([.fieldLink RX2 9 "CoastWatch$Game" "worths" "[I", .fieldLink RX2 15 "CoastWatch$Game" "above" "J", .fieldLink RX2 19 "CoastWatch$Game" "below" "J", .methodLink RX2 22 yX2_sortDown, .instanceMethod yX2_sortDown, .selects RX2 yX2_sortDown yX2_sortDown, .initialized RX2, .code yX2_sortDown cX2_sortDown 5 none] ++ wsX20)
def wsX3_init : List Cond := .code yX3_init cX3_init 1 none :: ([.methodLink RX3 5 objectInit, .instanceMethod objectInit, .code objectInit ⟨#[0xb1]⟩ 1 none, .fieldLink RX3 11 "CoastWatch$Hides" "size" "I", .arrayClass .int, .fieldLink RX3 15 "CoastWatch$Hides" "cove" "[I", .fieldLink RX3 19 "CoastWatch$Hides" "room" "[I", .fieldLink RX3 22 "CoastWatch$Hides" "cost" "[I", .fieldLink RX3 25 "CoastWatch$Hides" "guess" "[I", .fieldLink RX3 28 "CoastWatch$Hides" "lying" "[I", .arrayClass .long, .fieldLink RX3 31 "CoastWatch$Hides" "scores" "[J"] ++ wsX30)
def wsX3_add : List Cond := .code yX3_add cX3_add 5 (some .int) :: ([.fieldLink RX3 11 "CoastWatch$Hides" "size" "I", .fieldLink RX3 15 "CoastWatch$Hides" "cove" "[I", .fieldLink RX3 19 "CoastWatch$Hides" "room" "[I", .fieldLink RX3 22 "CoastWatch$Hides" "cost" "[I"] ++ wsX30)
def wsX3_firstWithRoom : List Cond := .code yX3_firstWithRoom cX3_firstWithRoom 4 (some .int) :: ([.fieldLink RX3 11 "CoastWatch$Hides" "size" "I", .fieldLink RX3 15 "CoastWatch$Hides" "cove" "[I", .fieldLink RX3 19 "CoastWatch$Hides" "room" "[I", .fieldLink RX3 28 "CoastWatch$Hides" "lying" "[I"] ++ wsX30)
def wsX3_suspect : List Cond := .code yX3_suspect cX3_suspect 3 none :: ([.fieldLink RX3 11 "CoastWatch$Hides" "size" "I", .fieldLink RX3 15 "CoastWatch$Hides" "cove" "[I", .fieldLink RX3 25 "CoastWatch$Hides" "guess" "[I", .methodLink RX3 35 Lib.Math.min.name, .static Lib.Math.min.name, .initialized "java/lang/Math", .code Lib.Math.min.name Lib.Math.min.code 2 (some .int)] ++ wsX30)
def wsX3_bestSet : List Cond := .code yX3_bestSet cX3_bestSet 7 (some .int) :: ([.methodLink RX3 35 Lib.Math.min.name, .static Lib.Math.min.name, .initialized "java/lang/Math", .code Lib.Math.min.name Lib.Math.min.code 2 (some .int), .fieldLink RX3 31 "CoastWatch$Hides" "scores" "[J", .fieldLink RX3 11 "CoastWatch$Hides" "size" "I", .fieldLink RX3 25 "CoastWatch$Hides" "guess" "[I", .constantLong RX3 41 (8192), .fieldLink RX3 22 "CoastWatch$Hides" "cost" "[I", .methodLink RX3 43 Lib.MathLoose.max_long.x, .static Lib.MathLoose.max_long.x, .code Lib.MathLoose.max_long.x Lib.MathLoose.max_long.code 4 (some .long), .constantLong RX3 47 (8191)] ++ wsX30)
def wsX4_init : List Cond := .code yX4_init cX4_init 1 none :: ([.methodLink RX4 3 objectInit, .instanceMethod objectInit, .code objectInit ⟨#[0xb1]⟩ 1 none, .fieldLink RX4 9 "CoastWatch$Laws" "size" "I", .arrayClass .int, .fieldLink RX4 15 "CoastWatch$Laws" "crew" "[I", .fieldLink RX4 19 "CoastWatch$Laws" "informer" "[I", .fieldLink RX4 22 "CoastWatch$Laws" "from" "[I"] ++ wsX40)
def wsX4_add : List Cond := .code yX4_add cX4_add 5 (some .int) :: ([.fieldLink RX4 9 "CoastWatch$Laws" "size" "I", .fieldLink RX4 15 "CoastWatch$Laws" "crew" "[I", .fieldLink RX4 19 "CoastWatch$Laws" "informer" "[I", .fieldLink RX4 22 "CoastWatch$Laws" "from" "[I"] ++ wsX40)
def wsX4_inForceOn : List Cond := .code yX4_inForceOn cX4_inForceOn 4 (some .int) :: ([.fieldLink RX4 9 "CoastWatch$Laws" "size" "I", .fieldLink RX4 22 "CoastWatch$Laws" "from" "[I"] ++ wsX40)
def wsX5_init : List Cond := .code yX5_init cX5_init 1 none :: ([.methodLink RX5 3 objectInit, .instanceMethod objectInit, .code objectInit ⟨#[0xb1]⟩ 1 none, .fieldLink RX5 9 "CoastWatch$Lots" "size" "I", .arrayClass .int, .fieldLink RX5 15 "CoastWatch$Lots" "boat" "[I", .fieldLink RX5 19 "CoastWatch$Lots" "casks" "[I", .fieldLink RX5 22 "CoastWatch$Lots" "night" "[I", .fieldLink RX5 25 "CoastWatch$Lots" "cove" "[I", .fieldLink RX5 28 "CoastWatch$Lots" "place" "[I", .fieldLink RX5 31 "CoastWatch$Lots" "hide" "[I"] ++ wsX50)
def wsX5_add : List Cond := .code yX5_add cX5_add 7 none :: ([.fieldLink RX5 9 "CoastWatch$Lots" "size" "I", .fieldLink RX5 15 "CoastWatch$Lots" "boat" "[I", .fieldLink RX5 19 "CoastWatch$Lots" "casks" "[I", .fieldLink RX5 22 "CoastWatch$Lots" "night" "[I", .fieldLink RX5 25 "CoastWatch$Lots" "cove" "[I", .fieldLink RX5 28 "CoastWatch$Lots" "place" "[I", .fieldLink RX5 31 "CoastWatch$Lots" "hide" "[I"] ++ wsX50)
def wsX5_liesIn : List Cond := .code yX5_liesIn cX5_liesIn 3 (some .boolean) :: ([.fieldLink RX5 28 "CoastWatch$Lots" "place" "[I", .fieldLink RX5 31 "CoastWatch$Lots" "hide" "[I"] ++ wsX50)
def wsX5_cameTo : List Cond := .code yX5_cameTo cX5_cameTo 4 (some .boolean) :: ([.fieldLink RX5 9 "CoastWatch$Lots" "size" "I", .fieldLink RX5 25 "CoastWatch$Lots" "cove" "[I", .fieldLink RX5 22 "CoastWatch$Lots" "night" "[I"] ++ wsX50)
def wsX5_heldIn : List Cond := .code yX5_heldIn cX5_heldIn 4 (some .int) :: ([.fieldLink RX5 9 "CoastWatch$Lots" "size" "I", .fieldLink RX5 22 "CoastWatch$Lots" "night" "[I", .fieldLink RX5 28 "CoastWatch$Lots" "place" "[I", .fieldLink RX5 19 "CoastWatch$Lots" "casks" "[I"] ++ wsX50)
def wsX5_seizedIn : List Cond := .code yX5_seizedIn cX5_seizedIn 4 (some .int) :: ([.fieldLink RX5 9 "CoastWatch$Lots" "size" "I", .fieldLink RX5 22 "CoastWatch$Lots" "night" "[I", .fieldLink RX5 28 "CoastWatch$Lots" "place" "[I", .fieldLink RX5 19 "CoastWatch$Lots" "casks" "[I"] ++ wsX50)
def wsX6_init : List Cond := .code yX6_init cX6_init 1 none :: ([.methodLink RX6 3 objectInit, .instanceMethod objectInit, .code objectInit ⟨#[0xb1]⟩ 1 none, .arrayClass .int, .fieldLink RX6 9 "CoastWatch$Seasons" "least" "[I", .fieldLink RX6 15 "CoastWatch$Seasons" "most" "[I", .fieldLink RX6 18 "CoastWatch$Seasons" "byLaw" "[I"] ++ wsX60)
def wsX6_landedOf : List Cond := .code yX6_landedOf cX6_landedOf 4 (some .int) :: ([.fieldLink RX6 18 "CoastWatch$Seasons" "byLaw" "[I", .methodLink RX6 21 Lib.Math.max.name, .static Lib.Math.max.name, .initialized "java/lang/Math", .code Lib.Math.max.name Lib.Math.max.code 2 (some .int)] ++ wsX60)
def wsX7_init : List Cond := .code yX7_init cX7_init 2 none :: ([.methodLink RX7 3 objectInit, .instanceMethod objectInit, .code objectInit ⟨#[0xb1]⟩ 1 none, .classLink RX7 9 "[[I", .arrayClass .int, .fieldLink RX7 11 "CoastWatch$Tables" "numbers" "[[I", .fieldLink RX7 16 "CoastWatch$Tables" "length" "[I"] ++ wsX70)
def wsX7_isMissing : List Cond := .code yX7_isMissing cX7_isMissing 2 (some .boolean) :: ([.fieldLink RX7 16 "CoastWatch$Tables" "length" "[I"] ++ wsX70)
def wsX7_begin : List Cond := .code yX7_begin cX7_begin 4 none :: ([.fieldLink RX7 16 "CoastWatch$Tables" "length" "[I", .fieldLink RX7 11 "CoastWatch$Tables" "numbers" "[[I"] ++ wsX70)
def wsX7_forget : List Cond := .code yX7_forget cX7_forget 2 none :: ([.fieldLink RX7 16 "CoastWatch$Tables" "length" "[I"] ++ wsX70)
def wsX7_hasPlaces : List Cond := .code yX7_hasPlaces cX7_hasPlaces 4 (some .boolean) :: ([.fieldLink RX7 16 "CoastWatch$Tables" "length" "[I"] ++ wsX70)
def wsX8_init : List Cond := .code yX8_init cX8_init 1 none :: ([.methodLink RX8 3 objectInit, .instanceMethod objectInit, .code objectInit ⟨#[0xb1]⟩ 1 none, .fieldLink RX8 9 "CoastWatch$Words" "size" "I", .arrayClass .int, .fieldLink RX8 15 "CoastWatch$Words" "informer" "[I", .fieldLink RX8 19 "CoastWatch$Words" "night" "[I", .fieldLink RX8 22 "CoastWatch$Words" "cove" "[I", .fieldLink RX8 25 "CoastWatch$Words" "right" "[I", .fieldLink RX8 28 "CoastWatch$Words" "wrong" "[I"] ++ wsX80)
def wsX8_add : List Cond := .code yX8_add cX8_add 5 (some .int) :: ([.fieldLink RX8 9 "CoastWatch$Words" "size" "I", .fieldLink RX8 15 "CoastWatch$Words" "informer" "[I", .fieldLink RX8 19 "CoastWatch$Words" "night" "[I", .fieldLink RX8 22 "CoastWatch$Words" "cove" "[I"] ++ wsX80)
def wsX8_names : List Cond := .code yX8_names cX8_names 4 (some .boolean) :: ([.fieldLink RX8 19 "CoastWatch$Words" "night" "[I", .fieldLink RX8 22 "CoastWatch$Words" "cove" "[I"] ++ wsX80)
def wsX8_isToldBy : List Cond := .code yX8_isToldBy cX8_isToldBy 5 (some .boolean) :: ([.fieldLink RX8 9 "CoastWatch$Words" "size" "I", .fieldLink RX8 15 "CoastWatch$Words" "informer" "[I", .methodLink RX8 31 yX8_names, .instanceMethod yX8_names, .selects RX8 yX8_names yX8_names, .initialized RX8, .code yX8_names cX8_names 4 (some .boolean), .fieldLink RX8 19 "CoastWatch$Words" "night" "[I", .fieldLink RX8 22 "CoastWatch$Words" "cove" "[I"] ++ wsX80)
def wsX8_firstInformer : List Cond := .code yX8_firstInformer cX8_firstInformer 4 (some .int) :: ([.fieldLink RX8 9 "CoastWatch$Words" "size" "I", .fieldLink RX8 15 "CoastWatch$Words" "informer" "[I", .methodLink RX8 31 yX8_names, .instanceMethod yX8_names, .selects RX8 yX8_names yX8_names, .initialized RX8, .code yX8_names cX8_names 4 (some .boolean), .fieldLink RX8 19 "CoastWatch$Words" "night" "[I", .fieldLink RX8 22 "CoastWatch$Words" "cove" "[I"] ++ wsX80)
def wsX8_prove : List Cond := .code yX8_prove cX8_prove 3 none :: ([.fieldLink RX8 25 "CoastWatch$Words" "right" "[I", .fieldLink RX8 15 "CoastWatch$Words" "informer" "[I", .fieldLink RX8 28 "CoastWatch$Words" "wrong" "[I"] ++ wsX80)
def wsX8_provedOf : List Cond := .code yX8_provedOf cX8_provedOf 2 (some .int) :: ([.fieldLink RX8 25 "CoastWatch$Words" "right" "[I", .fieldLink RX8 28 "CoastWatch$Words" "wrong" "[I"] ++ wsX80)
def wsX8_rightOnes : List Cond := .code yX8_rightOnes cX8_rightOnes 3 (some .int) :: ([.fieldLink RX8 25 "CoastWatch$Words" "right" "[I"] ++ wsX80)
def wsX8_wrongOnes : List Cond := .code yX8_wrongOnes cX8_wrongOnes 3 (some .int) :: ([.fieldLink RX8 28 "CoastWatch$Words" "wrong" "[I"] ++ wsX80)
def wsX8_doubtAbove : List Cond := .code yX8_doubtAbove cX8_doubtAbove 6 (some .long) :: ([.fieldLink RX8 9 "CoastWatch$Words" "size" "I", .fieldLink RX8 28 "CoastWatch$Words" "wrong" "[I", .fieldLink RX8 15 "CoastWatch$Words" "informer" "[I", .methodLink RX8 31 yX8_names, .instanceMethod yX8_names, .selects RX8 yX8_names yX8_names, .initialized RX8, .code yX8_names cX8_names 4 (some .boolean), .fieldLink RX8 19 "CoastWatch$Words" "night" "[I", .fieldLink RX8 22 "CoastWatch$Words" "cove" "[I"] ++ wsX80)
def wsX8_doubtBelow : List Cond := .code yX8_doubtBelow cX8_doubtBelow 6 (some .long) :: ([.fieldLink RX8 9 "CoastWatch$Words" "size" "I", .fieldLink RX8 15 "CoastWatch$Words" "informer" "[I", .methodLink RX8 31 yX8_names, .instanceMethod yX8_names, .selects RX8 yX8_names yX8_names, .initialized RX8, .code yX8_names cX8_names 4 (some .boolean), .fieldLink RX8 19 "CoastWatch$Words" "night" "[I", .fieldLink RX8 22 "CoastWatch$Words" "cove" "[I", .methodLink RX8 35 yX8_provedOf, .instanceMethod yX8_provedOf, .selects RX8 yX8_provedOf yX8_provedOf, .code yX8_provedOf cX8_provedOf 2 (some .int), .fieldLink RX8 25 "CoastWatch$Words" "right" "[I", .fieldLink RX8 28 "CoastWatch$Words" "wrong" "[I"] ++ wsX80)
def wsX9_init_r1 : List Cond := [Cond.methodLink RX9 1 objectInit, Cond.instanceMethod objectInit, Cond.code objectInit ⟨#[0xb1]⟩ 1 none, Cond.fieldLink RX9 7 "CoastWatch" "night" "I", Cond.fieldLink RX9 13 "CoastWatch" "seed" "I", Cond.fieldLink RX9 16 "CoastWatch" "drawCount" "I", Cond.fieldLink RX9 19 "CoastWatch" "casksPrice" "I", Cond.arrayClass .int, Cond.fieldLink RX9 22 "CoastWatch" "refusals" "[I", Cond.fieldLink RX9 26 "CoastWatch" "purses" "[I", Cond.classLink RX9 29 RX7, Cond.instantiable RX7 2, Cond.initialized RX7, Cond.fieldLink RX9 32 "CoastWatch" "tables" "LCoastWatch$Tables;", Cond.classLink RX9 36 RX1, Cond.instantiable RX1 7, Cond.initialized RX1, Cond.fieldLink RX9 39 "CoastWatch" "coves" "LCoastWatch$Coves;", Cond.classLink RX9 43 RX0, Cond.instantiable RX0 9, Cond.initialized RX0, Cond.fieldLink RX9 46 "CoastWatch" "boats" "LCoastWatch$Boats;", Cond.classLink RX9 50 RX3, Cond.instantiable RX3 7]
def wsX9_init_r2 : List Cond := [Cond.initialized RX3, Cond.fieldLink RX9 53 "CoastWatch" "hides" "LCoastWatch$Hides;", Cond.classLink RX9 57 RX5, Cond.instantiable RX5 7, Cond.initialized RX5, Cond.fieldLink RX9 60 "CoastWatch" "lots" "LCoastWatch$Lots;", Cond.classLink RX9 64 RX4, Cond.instantiable RX4 4, Cond.initialized RX4, Cond.fieldLink RX9 67 "CoastWatch" "laws" "LCoastWatch$Laws;", Cond.classLink RX9 71 RX8, Cond.instantiable RX8 6, Cond.initialized RX8, Cond.fieldLink RX9 74 "CoastWatch" "words" "LCoastWatch$Words;", Cond.classLink RX9 78 RX6, Cond.instantiable RX6 3, Cond.initialized RX6, Cond.fieldLink RX9 81 "CoastWatch" "seasons" "LCoastWatch$Seasons;", Cond.classLink RX9 85 RX2, Cond.instantiable RX2 3, Cond.initialized RX2, Cond.fieldLink RX9 88 "CoastWatch" "game" "LCoastWatch$Game;", Cond.methodLink RX9 31 yX7_init, Cond.instanceMethod yX7_init]
def wsX9_init_r3 : List Cond := [Cond.code yX7_init cX7_init 2 none, Cond.methodLink RX7 3 objectInit, Cond.classLink RX7 9 "[[I", Cond.fieldLink RX7 11 "CoastWatch$Tables" "numbers" "[[I", Cond.fieldLink RX7 16 "CoastWatch$Tables" "length" "[I", Cond.methodLink RX9 38 yX1_init, Cond.instanceMethod yX1_init, Cond.code yX1_init cX1_init 2 none, Cond.methodLink RX1 3 objectInit, Cond.fieldLink RX1 9 "CoastWatch$Coves" "depth" "[I", Cond.fieldLink RX1 15 "CoastWatch$Coves" "worth" "[I", Cond.fieldLink RX1 18 "CoastWatch$Coves" "ledBy" "[I", Cond.fieldLink RX1 21 "CoastWatch$Coves" "standing" "[I", Cond.fieldLink RX1 24 "CoastWatch$Coves" "shares" "[I", Cond.arrayClass .boolean, Cond.fieldLink RX1 27 "CoastWatch$Coves" "bribed" "[Z", Cond.fieldLink RX1 31 "CoastWatch$Coves" "watchers" "[I", Cond.instanceMethod yX0_init, Cond.code yX0_init cX0_init 1 none, Cond.methodLink RX0 3 objectInit, Cond.fieldLink RX0 9 "CoastWatch$Boats" "size" "I", Cond.fieldLink RX0 15 "CoastWatch$Boats" "draught" "[I", Cond.fieldLink RX0 19 "CoastWatch$Boats" "hold" "[I", Cond.fieldLink RX0 22 "CoastWatch$Boats" "strength" "[I"]
def wsX9_init_r4 : List Cond := [Cond.fieldLink RX0 25 "CoastWatch$Boats" "bold" "[I", Cond.fieldLink RX0 28 "CoastWatch$Boats" "casks" "[I", Cond.fieldLink RX0 31 "CoastWatch$Boats" "escapes" "[I", Cond.fieldLink RX0 34 "CoastWatch$Boats" "returns" "[I", Cond.classLink RX0 37 "[[I", Cond.fieldLink RX0 39 "CoastWatch$Boats" "fear" "[[I", Cond.instanceMethod yX3_init, Cond.code yX3_init cX3_init 1 none, Cond.methodLink RX3 5 objectInit, Cond.fieldLink RX3 11 "CoastWatch$Hides" "size" "I", Cond.fieldLink RX3 15 "CoastWatch$Hides" "cove" "[I", Cond.fieldLink RX3 19 "CoastWatch$Hides" "room" "[I", Cond.fieldLink RX3 22 "CoastWatch$Hides" "cost" "[I", Cond.fieldLink RX3 25 "CoastWatch$Hides" "guess" "[I", Cond.fieldLink RX3 28 "CoastWatch$Hides" "lying" "[I", Cond.arrayClass .long, Cond.fieldLink RX3 31 "CoastWatch$Hides" "scores" "[J", Cond.instanceMethod yX5_init, Cond.code yX5_init cX5_init 1 none, Cond.methodLink RX5 3 objectInit, Cond.fieldLink RX5 9 "CoastWatch$Lots" "size" "I", Cond.fieldLink RX5 15 "CoastWatch$Lots" "boat" "[I", Cond.fieldLink RX5 19 "CoastWatch$Lots" "casks" "[I", Cond.fieldLink RX5 22 "CoastWatch$Lots" "night" "[I"]
def wsX9_init_r5 : List Cond := [Cond.fieldLink RX5 25 "CoastWatch$Lots" "cove" "[I", Cond.fieldLink RX5 28 "CoastWatch$Lots" "place" "[I", Cond.fieldLink RX5 31 "CoastWatch$Lots" "hide" "[I", Cond.instanceMethod yX4_init, Cond.code yX4_init cX4_init 1 none, Cond.methodLink RX4 3 objectInit, Cond.fieldLink RX4 9 "CoastWatch$Laws" "size" "I", Cond.fieldLink RX4 15 "CoastWatch$Laws" "crew" "[I", Cond.fieldLink RX4 19 "CoastWatch$Laws" "informer" "[I", Cond.fieldLink RX4 22 "CoastWatch$Laws" "from" "[I", Cond.instanceMethod yX8_init, Cond.code yX8_init cX8_init 1 none, Cond.methodLink RX8 3 objectInit, Cond.fieldLink RX8 9 "CoastWatch$Words" "size" "I", Cond.fieldLink RX8 15 "CoastWatch$Words" "informer" "[I", Cond.fieldLink RX8 19 "CoastWatch$Words" "night" "[I", Cond.fieldLink RX8 22 "CoastWatch$Words" "cove" "[I", Cond.fieldLink RX8 25 "CoastWatch$Words" "right" "[I", Cond.fieldLink RX8 28 "CoastWatch$Words" "wrong" "[I", Cond.instanceMethod yX6_init, Cond.code yX6_init cX6_init 1 none, Cond.methodLink RX6 3 objectInit, Cond.fieldLink RX6 9 "CoastWatch$Seasons" "least" "[I", Cond.fieldLink RX6 15 "CoastWatch$Seasons" "most" "[I"]
def wsX9_init_r6 : List Cond := [Cond.fieldLink RX6 18 "CoastWatch$Seasons" "byLaw" "[I", Cond.instanceMethod yX2_init, Cond.code yX2_init cX2_init 1 none, Cond.methodLink RX2 3 objectInit, Cond.fieldLink RX2 9 "CoastWatch$Game" "worths" "[I", Cond.fieldLink RX2 15 "CoastWatch$Game" "above" "J", Cond.fieldLink RX2 19 "CoastWatch$Game" "below" "J"]
def wsX9_init : List Cond := .code yX9_init cX9_init 1 none :: ((wsX9_init_r1 ++ (wsX9_init_r2 ++ (wsX9_init_r3 ++ (wsX9_init_r4 ++ (wsX9_init_r5 ++ wsX9_init_r6))))) ++ wsX90 ++ wsX70 ++ wsX10 ++ wsX00 ++ wsX30 ++ wsX50 ++ wsX40 ++ wsX80 ++ wsX60 ++ wsX20)
def wsX9_seed : List Cond := .code yX9_seed cX9_seed 3 (some .int) :: ([.fieldLink RX9 13 "CoastWatch" "seed" "I"] ++ wsX90)
def wsX9_isCove : List Cond := .code yX9_isCove cX9_isCove 1 (some .boolean) :: ([])
def wsX9_refuse : List Cond := .code yX9_refuse cX9_refuse 3 (some .int) :: ([.fieldLink RX9 22 "CoastWatch" "refusals" "[I"] ++ wsX90)
def wsX9_cove : List Cond := .code yX9_cove cX9_cove 4 (some .int) :: ([.fieldLink RX9 39 "CoastWatch" "coves" "LCoastWatch$Coves;", .fieldLink RX9 100 "CoastWatch$Coves" "depth" "[I", .fieldLink RX9 103 "CoastWatch$Coves" "worth" "[I", .methodLink RX9 92 yX9_isCove, .static yX9_isCove, .initialized RX9, .code yX9_isCove cX9_isCove 1 (some .boolean), .methodLink RX9 96 yX9_refuse, .instanceMethod yX9_refuse, .selects RX9 yX9_refuse yX9_refuse, .code yX9_refuse cX9_refuse 3 (some .int), .fieldLink RX9 22 "CoastWatch" "refusals" "[I"] ++ wsX90 ++ wsX10)
def wsX9_isTable : List Cond := .code yX9_isTable cX9_isTable 1 (some .boolean) :: ([])
def wsX9_row : List Cond := .code yX9_row cX9_row 3 (some .int) :: ([.fieldLink RX9 32 "CoastWatch" "tables" "LCoastWatch$Tables;", .methodLink RX9 106 yX9_isTable, .static yX9_isTable, .initialized RX9, .code yX9_isTable cX9_isTable 1 (some .boolean), .methodLink RX9 96 yX9_refuse, .instanceMethod yX9_refuse, .selects RX9 yX9_refuse yX9_refuse, .code yX9_refuse cX9_refuse 3 (some .int), .fieldLink RX9 22 "CoastWatch" "refusals" "[I", .methodLink RX9 109 yX7_begin, .instanceMethod yX7_begin, .selects RX7 yX7_begin yX7_begin, .initialized RX7, .code yX7_begin cX7_begin 4 none, .fieldLink RX7 16 "CoastWatch$Tables" "length" "[I", .fieldLink RX7 11 "CoastWatch$Tables" "numbers" "[[I"] ++ wsX90 ++ wsX70)
def wsX9_lose : List Cond := .code yX9_lose cX9_lose 2 (some .int) :: ([.fieldLink RX9 32 "CoastWatch" "tables" "LCoastWatch$Tables;", .methodLink RX9 106 yX9_isTable, .static yX9_isTable, .initialized RX9, .code yX9_isTable cX9_isTable 1 (some .boolean), .methodLink RX9 96 yX9_refuse, .instanceMethod yX9_refuse, .selects RX9 yX9_refuse yX9_refuse, .code yX9_refuse cX9_refuse 3 (some .int), .fieldLink RX9 22 "CoastWatch" "refusals" "[I", .methodLink RX9 113 yX7_isMissing, .instanceMethod yX7_isMissing, .selects RX7 yX7_isMissing yX7_isMissing, .initialized RX7, .code yX7_isMissing cX7_isMissing 2 (some .boolean), .fieldLink RX7 16 "CoastWatch$Tables" "length" "[I", .methodLink RX9 116 yX7_forget, .instanceMethod yX7_forget, .selects RX7 yX7_forget yX7_forget, .code yX7_forget cX7_forget 2 none] ++ wsX90 ++ wsX70)
def wsX9_put : List Cond := .code yX9_put cX9_put 5 (some .int) :: ([.fieldLink RX9 32 "CoastWatch" "tables" "LCoastWatch$Tables;", .fieldLink RX9 120 "CoastWatch$Tables" "length" "[I", .fieldLink RX9 123 "CoastWatch$Tables" "numbers" "[[I", .methodLink RX9 106 yX9_isTable, .static yX9_isTable, .initialized RX9, .code yX9_isTable cX9_isTable 1 (some .boolean), .methodLink RX9 96 yX9_refuse, .instanceMethod yX9_refuse, .selects RX9 yX9_refuse yX9_refuse, .code yX9_refuse cX9_refuse 3 (some .int), .fieldLink RX9 22 "CoastWatch" "refusals" "[I", .methodLink RX9 113 yX7_isMissing, .instanceMethod yX7_isMissing, .selects RX7 yX7_isMissing yX7_isMissing, .initialized RX7, .code yX7_isMissing cX7_isMissing 2 (some .boolean), .fieldLink RX7 16 "CoastWatch$Tables" "length" "[I"] ++ wsX90 ++ wsX70)
def wsX9_copy_r1 : List Cond := [Cond.fieldLink RX9 32 "CoastWatch" "tables" "LCoastWatch$Tables;", Cond.fieldLink RX9 123 "CoastWatch$Tables" "numbers" "[[I", Cond.methodLink RX9 131 arraycopyName, Cond.native arraycopyName, Cond.static arraycopyName, Cond.initialized "java/lang/System", Cond.methodLink RX9 106 yX9_isTable, Cond.static yX9_isTable, Cond.initialized RX9, Cond.code yX9_isTable cX9_isTable 1 (some .boolean), Cond.methodLink RX9 96 yX9_refuse, Cond.instanceMethod yX9_refuse, Cond.selects RX9 yX9_refuse yX9_refuse, Cond.code yX9_refuse cX9_refuse 3 (some .int), Cond.fieldLink RX9 22 "CoastWatch" "refusals" "[I", Cond.methodLink RX9 113 yX7_isMissing, Cond.instanceMethod yX7_isMissing, Cond.selects RX7 yX7_isMissing yX7_isMissing, Cond.initialized RX7, Cond.code yX7_isMissing cX7_isMissing 2 (some .boolean), Cond.fieldLink RX7 16 "CoastWatch$Tables" "length" "[I", Cond.methodLink RX9 127 yX7_hasPlaces, Cond.instanceMethod yX7_hasPlaces, Cond.selects RX7 yX7_hasPlaces yX7_hasPlaces]
def wsX9_copy_r2 : List Cond := [Cond.code yX7_hasPlaces cX7_hasPlaces 4 (some .boolean)]
def wsX9_copy : List Cond := .code yX9_copy cX9_copy 6 (some .int) :: ((wsX9_copy_r1 ++ wsX9_copy_r2) ++ wsX90 ++ wsX70)
def wsX9_lead : List Cond := .code yX9_lead cX9_lead 4 (some .int) :: ([.constant RX9 137 (2000000000), .fieldLink RX9 39 "CoastWatch" "coves" "LCoastWatch$Coves;", .fieldLink RX9 138 "CoastWatch$Coves" "ledBy" "[I", .methodLink RX9 92 yX9_isCove, .static yX9_isCove, .initialized RX9, .code yX9_isCove cX9_isCove 1 (some .boolean), .methodLink RX9 106 yX9_isTable, .static yX9_isTable, .code yX9_isTable cX9_isTable 1 (some .boolean), .methodLink RX9 96 yX9_refuse, .instanceMethod yX9_refuse, .selects RX9 yX9_refuse yX9_refuse, .code yX9_refuse cX9_refuse 3 (some .int), .fieldLink RX9 22 "CoastWatch" "refusals" "[I"] ++ wsX90 ++ wsX10)
def wsX9_tideAt : List Cond := .code yX9_tideAt cX9_tideAt 5 (some .int) :: ([.fieldLink RX9 39 "CoastWatch" "coves" "LCoastWatch$Coves;", .fieldLink RX9 138 "CoastWatch$Coves" "ledBy" "[I", .fieldLink RX9 32 "CoastWatch" "tables" "LCoastWatch$Tables;", .fieldLink RX9 120 "CoastWatch$Tables" "length" "[I", .fieldLink RX9 123 "CoastWatch$Tables" "numbers" "[[I", .methodLink RX9 106 yX9_isTable, .static yX9_isTable, .initialized RX9, .code yX9_isTable cX9_isTable 1 (some .boolean)] ++ wsX90 ++ wsX10 ++ wsX70)
def wsX9_tide : List Cond := .code yX9_tide cX9_tide 3 (some .int) :: ([.methodLink RX9 92 yX9_isCove, .static yX9_isCove, .initialized RX9, .code yX9_isCove cX9_isCove 1 (some .boolean), .methodLink RX9 96 yX9_refuse, .instanceMethod yX9_refuse, .selects RX9 yX9_refuse yX9_refuse, .code yX9_refuse cX9_refuse 3 (some .int), .fieldLink RX9 22 "CoastWatch" "refusals" "[I", .methodLink RX9 141 yX9_tideAt, .instanceMethod yX9_tideAt, .selects RX9 yX9_tideAt yX9_tideAt, .code yX9_tideAt cX9_tideAt 5 (some .int), .fieldLink RX9 39 "CoastWatch" "coves" "LCoastWatch$Coves;", .fieldLink RX9 138 "CoastWatch$Coves" "ledBy" "[I", .fieldLink RX9 32 "CoastWatch" "tables" "LCoastWatch$Tables;", .fieldLink RX9 120 "CoastWatch$Tables" "length" "[I", .fieldLink RX9 123 "CoastWatch$Tables" "numbers" "[[I", .methodLink RX9 106 yX9_isTable, .static yX9_isTable, .code yX9_isTable cX9_isTable 1 (some .boolean)] ++ wsX90 ++ wsX10 ++ wsX70)
def wsX9_boat : List Cond := .code yX9_boat cX9_boat 5 (some .int) :: ([.fieldLink RX9 46 "CoastWatch" "boats" "LCoastWatch$Boats;", .fieldLink RX9 145 "CoastWatch$Boats" "size" "I", .methodLink RX9 96 yX9_refuse, .instanceMethod yX9_refuse, .selects RX9 yX9_refuse yX9_refuse, .initialized RX9, .code yX9_refuse cX9_refuse 3 (some .int), .fieldLink RX9 22 "CoastWatch" "refusals" "[I", .methodLink RX9 148 yX0_add, .instanceMethod yX0_add, .selects RX0 yX0_add yX0_add, .initialized RX0, .code yX0_add cX0_add 6 (some .int), .fieldLink RX0 9 "CoastWatch$Boats" "size" "I", .fieldLink RX0 15 "CoastWatch$Boats" "draught" "[I", .fieldLink RX0 19 "CoastWatch$Boats" "hold" "[I", .fieldLink RX0 22 "CoastWatch$Boats" "strength" "[I", .fieldLink RX0 25 "CoastWatch$Boats" "bold" "[I"] ++ wsX90 ++ wsX00)
def wsX9_isBoat : List Cond := .code yX9_isBoat cX9_isBoat 2 (some .boolean) :: ([.fieldLink RX9 46 "CoastWatch" "boats" "LCoastWatch$Boats;", .fieldLink RX9 145 "CoastWatch$Boats" "size" "I"] ++ wsX90 ++ wsX00)
def wsX9_load : List Cond := .code yX9_load cX9_load 3 (some .int) :: ([.fieldLink RX9 46 "CoastWatch" "boats" "LCoastWatch$Boats;", .fieldLink RX9 155 "CoastWatch$Boats" "hold" "[I", .fieldLink RX9 158 "CoastWatch$Boats" "casks" "[I", .methodLink RX9 152 yX9_isBoat, .instanceMethod yX9_isBoat, .selects RX9 yX9_isBoat yX9_isBoat, .initialized RX9, .code yX9_isBoat cX9_isBoat 2 (some .boolean), .fieldLink RX9 145 "CoastWatch$Boats" "size" "I", .methodLink RX9 96 yX9_refuse, .instanceMethod yX9_refuse, .selects RX9 yX9_refuse yX9_refuse, .code yX9_refuse cX9_refuse 3 (some .int), .fieldLink RX9 22 "CoastWatch" "refusals" "[I"] ++ wsX90 ++ wsX00)
def wsX9_hide : List Cond := .code yX9_hide cX9_hide 4 (some .int) :: ([.fieldLink RX9 53 "CoastWatch" "hides" "LCoastWatch$Hides;", .fieldLink RX9 161 "CoastWatch$Hides" "size" "I", .methodLink RX9 92 yX9_isCove, .static yX9_isCove, .initialized RX9, .code yX9_isCove cX9_isCove 1 (some .boolean), .methodLink RX9 96 yX9_refuse, .instanceMethod yX9_refuse, .selects RX9 yX9_refuse yX9_refuse, .code yX9_refuse cX9_refuse 3 (some .int), .fieldLink RX9 22 "CoastWatch" "refusals" "[I", .methodLink RX9 162 yX3_add, .instanceMethod yX3_add, .selects RX3 yX3_add yX3_add, .initialized RX3, .code yX3_add cX3_add 5 (some .int), .fieldLink RX3 11 "CoastWatch$Hides" "size" "I", .fieldLink RX3 15 "CoastWatch$Hides" "cove" "[I", .fieldLink RX3 19 "CoastWatch$Hides" "room" "[I", .fieldLink RX3 22 "CoastWatch$Hides" "cost" "[I"] ++ wsX90 ++ wsX30)
def wsX9_stand : List Cond := .code yX9_stand cX9_stand 4 (some .int) :: ([.fieldLink RX9 39 "CoastWatch" "coves" "LCoastWatch$Coves;", .fieldLink RX9 165 "CoastWatch$Coves" "standing" "[I", .methodLink RX9 92 yX9_isCove, .static yX9_isCove, .initialized RX9, .code yX9_isCove cX9_isCove 1 (some .boolean), .methodLink RX9 96 yX9_refuse, .instanceMethod yX9_refuse, .selects RX9 yX9_refuse yX9_refuse, .code yX9_refuse cX9_refuse 3 (some .int), .fieldLink RX9 22 "CoastWatch" "refusals" "[I"] ++ wsX90 ++ wsX10)
def wsX9_bribe : List Cond := .code yX9_bribe cX9_bribe 3 (some .int) :: ([.fieldLink RX9 39 "CoastWatch" "coves" "LCoastWatch$Coves;", .fieldLink RX9 168 "CoastWatch$Coves" "bribed" "[Z", .methodLink RX9 92 yX9_isCove, .static yX9_isCove, .initialized RX9, .code yX9_isCove cX9_isCove 1 (some .boolean), .methodLink RX9 96 yX9_refuse, .instanceMethod yX9_refuse, .selects RX9 yX9_refuse yX9_refuse, .code yX9_refuse cX9_refuse 3 (some .int), .fieldLink RX9 22 "CoastWatch" "refusals" "[I"] ++ wsX90 ++ wsX10)
def wsX9_share : List Cond := .code yX9_share cX9_share 4 (some .int) :: ([.fieldLink RX9 39 "CoastWatch" "coves" "LCoastWatch$Coves;", .fieldLink RX9 172 "CoastWatch$Coves" "shares" "[I", .methodLink RX9 92 yX9_isCove, .static yX9_isCove, .initialized RX9, .code yX9_isCove cX9_isCove 1 (some .boolean), .methodLink RX9 96 yX9_refuse, .instanceMethod yX9_refuse, .selects RX9 yX9_refuse yX9_refuse, .code yX9_refuse cX9_refuse 3 (some .int), .fieldLink RX9 22 "CoastWatch" "refusals" "[I"] ++ wsX90 ++ wsX10)
def wsX9_draws : List Cond := .code yX9_draws cX9_draws 3 (some .int) :: ([.fieldLink RX9 16 "CoastWatch" "drawCount" "I", .methodLink RX9 96 yX9_refuse, .instanceMethod yX9_refuse, .selects RX9 yX9_refuse yX9_refuse, .initialized RX9, .code yX9_refuse cX9_refuse 3 (some .int), .fieldLink RX9 22 "CoastWatch" "refusals" "[I"] ++ wsX90)
def wsX9_price : List Cond := .code yX9_price cX9_price 3 (some .int) :: ([.fieldLink RX9 19 "CoastWatch" "casksPrice" "I", .methodLink RX9 96 yX9_refuse, .instanceMethod yX9_refuse, .selects RX9 yX9_refuse yX9_refuse, .initialized RX9, .code yX9_refuse cX9_refuse 3 (some .int), .fieldLink RX9 22 "CoastWatch" "refusals" "[I"] ++ wsX90)
def wsX9_law : List Cond := .code yX9_law cX9_law 4 (some .int) :: ([.fieldLink RX9 7 "CoastWatch" "night" "I", .fieldLink RX9 67 "CoastWatch" "laws" "LCoastWatch$Laws;", .fieldLink RX9 175 "CoastWatch$Laws" "size" "I", .methodLink RX9 96 yX9_refuse, .instanceMethod yX9_refuse, .selects RX9 yX9_refuse yX9_refuse, .initialized RX9, .code yX9_refuse cX9_refuse 3 (some .int), .fieldLink RX9 22 "CoastWatch" "refusals" "[I", .methodLink RX9 176 yX4_add, .instanceMethod yX4_add, .selects RX4 yX4_add yX4_add, .initialized RX4, .code yX4_add cX4_add 5 (some .int), .fieldLink RX4 9 "CoastWatch$Laws" "size" "I", .fieldLink RX4 15 "CoastWatch$Laws" "crew" "[I", .fieldLink RX4 19 "CoastWatch$Laws" "informer" "[I", .fieldLink RX4 22 "CoastWatch$Laws" "from" "[I"] ++ wsX90 ++ wsX40)
def wsX9_isInformer : List Cond := .code yX9_isInformer cX9_isInformer 1 (some .boolean) :: ([])
def wsX9_word_r1 : List Cond := [Cond.fieldLink RX9 7 "CoastWatch" "night" "I", Cond.fieldLink RX9 74 "CoastWatch" "words" "LCoastWatch$Words;", Cond.fieldLink RX9 180 "CoastWatch$Words" "size" "I", Cond.methodLink RX9 177 yX9_isInformer, Cond.static yX9_isInformer, Cond.initialized RX9, Cond.code yX9_isInformer cX9_isInformer 1 (some .boolean), Cond.methodLink RX9 92 yX9_isCove, Cond.static yX9_isCove, Cond.code yX9_isCove cX9_isCove 1 (some .boolean), Cond.methodLink RX9 96 yX9_refuse, Cond.instanceMethod yX9_refuse, Cond.selects RX9 yX9_refuse yX9_refuse, Cond.code yX9_refuse cX9_refuse 3 (some .int), Cond.fieldLink RX9 22 "CoastWatch" "refusals" "[I", Cond.methodLink RX9 181 yX8_isToldBy, Cond.instanceMethod yX8_isToldBy, Cond.selects RX8 yX8_isToldBy yX8_isToldBy, Cond.initialized RX8, Cond.code yX8_isToldBy cX8_isToldBy 5 (some .boolean), Cond.fieldLink RX8 9 "CoastWatch$Words" "size" "I", Cond.fieldLink RX8 15 "CoastWatch$Words" "informer" "[I", Cond.methodLink RX8 31 yX8_names, Cond.instanceMethod yX8_names]
def wsX9_word_r2 : List Cond := [Cond.selects RX8 yX8_names yX8_names, Cond.code yX8_names cX8_names 4 (some .boolean), Cond.fieldLink RX8 19 "CoastWatch$Words" "night" "[I", Cond.fieldLink RX8 22 "CoastWatch$Words" "cove" "[I", Cond.methodLink RX9 184 yX8_add, Cond.instanceMethod yX8_add, Cond.selects RX8 yX8_add yX8_add, Cond.code yX8_add cX8_add 5 (some .int)]
def wsX9_word : List Cond := .code yX9_word cX9_word 4 (some .int) :: ((wsX9_word_r1 ++ wsX9_word_r2) ++ wsX90 ++ wsX80)
def wsX9_drawBelow : List Cond := .code yX9_drawBelow cX9_drawBelow 2 (some .int) :: ([.fieldLink RX9 13 "CoastWatch" "seed" "I", .constant RX9 330 (1103515245)] ++ wsX90)
def wsX9_placeWatchers : List Cond := .code yX9_placeWatchers cX9_placeWatchers 3 none :: ([.fieldLink RX9 39 "CoastWatch" "coves" "LCoastWatch$Coves;", .fieldLink RX9 291 "CoastWatch$Coves" "watchers" "[I", .fieldLink RX9 165 "CoastWatch$Coves" "standing" "[I", .fieldLink RX9 16 "CoastWatch" "drawCount" "I", .methodLink RX9 321 yX1_sumOfShares, .instanceMethod yX1_sumOfShares, .selects RX1 yX1_sumOfShares yX1_sumOfShares, .initialized RX1, .code yX1_sumOfShares cX1_sumOfShares 3 (some .int), .fieldLink RX1 24 "CoastWatch$Coves" "shares" "[I", .methodLink RX9 324 yX9_drawBelow, .instanceMethod yX9_drawBelow, .selects RX9 yX9_drawBelow yX9_drawBelow, .initialized RX9, .code yX9_drawBelow cX9_drawBelow 2 (some .int), .fieldLink RX9 13 "CoastWatch" "seed" "I", .constant RX9 330 (1103515245), .methodLink RX9 327 yX1_coveOfShare, .instanceMethod yX1_coveOfShare, .selects RX1 yX1_coveOfShare yX1_coveOfShare, .code yX1_coveOfShare cX1_coveOfShare 4 (some .int)] ++ wsX90 ++ wsX10)
def wsX9_light : List Cond := .code yX9_light cX9_light 2 (some .int) :: ([.fieldLink RX9 7 "CoastWatch" "night" "I"] ++ wsX90)
def wsX9_isOpen : List Cond := .code yX9_isOpen cX9_isOpen 3 (some .boolean) :: ([.fieldLink RX9 7 "CoastWatch" "night" "I", .fieldLink RX9 39 "CoastWatch" "coves" "LCoastWatch$Coves;", .fieldLink RX9 100 "CoastWatch$Coves" "depth" "[I", .fieldLink RX9 46 "CoastWatch" "boats" "LCoastWatch$Boats;", .fieldLink RX9 356 "CoastWatch$Boats" "draught" "[I", .methodLink RX9 141 yX9_tideAt, .instanceMethod yX9_tideAt, .selects RX9 yX9_tideAt yX9_tideAt, .initialized RX9, .code yX9_tideAt cX9_tideAt 5 (some .int), .fieldLink RX9 138 "CoastWatch$Coves" "ledBy" "[I", .fieldLink RX9 32 "CoastWatch" "tables" "LCoastWatch$Tables;", .fieldLink RX9 120 "CoastWatch$Tables" "length" "[I", .fieldLink RX9 123 "CoastWatch$Tables" "numbers" "[[I", .methodLink RX9 106 yX9_isTable, .static yX9_isTable, .code yX9_isTable cX9_isTable 1 (some .boolean)] ++ wsX90 ++ wsX10 ++ wsX00 ++ wsX70)
def wsX9_isDearer : List Cond := .code yX9_isDearer cX9_isDearer 6 (some .boolean) :: ([.fieldLink RX9 46 "CoastWatch" "boats" "LCoastWatch$Boats;", .fieldLink RX9 281 "CoastWatch$Boats" "fear" "[[I", .fieldLink RX9 39 "CoastWatch" "coves" "LCoastWatch$Coves;", .fieldLink RX9 103 "CoastWatch$Coves" "worth" "[I"] ++ wsX90 ++ wsX00 ++ wsX10)
def wsX9_chosenCove_r1 : List Cond := [Cond.methodLink RX9 350 yX9_isOpen, Cond.instanceMethod yX9_isOpen, Cond.selects RX9 yX9_isOpen yX9_isOpen, Cond.initialized RX9, Cond.code yX9_isOpen cX9_isOpen 3 (some .boolean), Cond.fieldLink RX9 7 "CoastWatch" "night" "I", Cond.fieldLink RX9 39 "CoastWatch" "coves" "LCoastWatch$Coves;", Cond.fieldLink RX9 100 "CoastWatch$Coves" "depth" "[I", Cond.fieldLink RX9 46 "CoastWatch" "boats" "LCoastWatch$Boats;", Cond.fieldLink RX9 356 "CoastWatch$Boats" "draught" "[I", Cond.methodLink RX9 141 yX9_tideAt, Cond.instanceMethod yX9_tideAt, Cond.selects RX9 yX9_tideAt yX9_tideAt, Cond.code yX9_tideAt cX9_tideAt 5 (some .int), Cond.fieldLink RX9 138 "CoastWatch$Coves" "ledBy" "[I", Cond.fieldLink RX9 32 "CoastWatch" "tables" "LCoastWatch$Tables;", Cond.fieldLink RX9 120 "CoastWatch$Tables" "length" "[I", Cond.fieldLink RX9 123 "CoastWatch$Tables" "numbers" "[[I", Cond.methodLink RX9 106 yX9_isTable, Cond.static yX9_isTable, Cond.code yX9_isTable cX9_isTable 1 (some .boolean), Cond.methodLink RX9 353 yX9_isDearer, Cond.instanceMethod yX9_isDearer, Cond.selects RX9 yX9_isDearer yX9_isDearer]
def wsX9_chosenCove_r2 : List Cond := [Cond.code yX9_isDearer cX9_isDearer 6 (some .boolean), Cond.fieldLink RX9 281 "CoastWatch$Boats" "fear" "[[I", Cond.fieldLink RX9 103 "CoastWatch$Coves" "worth" "[I"]
def wsX9_chosenCove : List Cond := .code yX9_chosenCove cX9_chosenCove 4 (some .int) :: ((wsX9_chosenCove_r1 ++ wsX9_chosenCove_r2) ++ wsX90 ++ wsX10 ++ wsX00 ++ wsX70)
def wsX9_partSeized : List Cond := .code yX9_partSeized cX9_partSeized 7 none :: ([.fieldLink RX9 19 "CoastWatch" "casksPrice" "I", .fieldLink RX9 67 "CoastWatch" "laws" "LCoastWatch$Laws;", .fieldLink RX9 7 "CoastWatch" "night" "I", .fieldLink RX9 377 "CoastWatch$Laws" "crew" "[I", .fieldLink RX9 380 "CoastWatch$Laws" "informer" "[I", .fieldLink RX9 26 "CoastWatch" "purses" "[I", .methodLink RX9 374 yX4_inForceOn, .instanceMethod yX4_inForceOn, .selects RX4 yX4_inForceOn yX4_inForceOn, .initialized RX4, .code yX4_inForceOn cX4_inForceOn 4 (some .int), .fieldLink RX4 9 "CoastWatch$Laws" "size" "I", .fieldLink RX4 22 "CoastWatch$Laws" "from" "[I", .methodLink RX9 177 yX9_isInformer, .static yX9_isInformer, .initialized RX9, .code yX9_isInformer cX9_isInformer 1 (some .boolean)] ++ wsX90 ++ wsX40)
def wsX9_meetWatchers_r1 : List Cond := [Cond.fieldLink RX9 46 "CoastWatch" "boats" "LCoastWatch$Boats;", Cond.fieldLink RX9 359 "CoastWatch$Boats" "strength" "[I", Cond.fieldLink RX9 158 "CoastWatch$Boats" "casks" "[I", Cond.fieldLink RX9 60 "CoastWatch" "lots" "LCoastWatch$Lots;", Cond.fieldLink RX9 7 "CoastWatch" "night" "I", Cond.fieldLink RX9 74 "CoastWatch" "words" "LCoastWatch$Words;", Cond.fieldLink RX9 284 "CoastWatch$Boats" "escapes" "[I", Cond.methodLink RX9 362 yX5_add, Cond.instanceMethod yX5_add, Cond.selects RX5 yX5_add yX5_add, Cond.initialized RX5, Cond.code yX5_add cX5_add 7 none, Cond.fieldLink RX5 9 "CoastWatch$Lots" "size" "I", Cond.fieldLink RX5 15 "CoastWatch$Lots" "boat" "[I", Cond.fieldLink RX5 19 "CoastWatch$Lots" "casks" "[I", Cond.fieldLink RX5 22 "CoastWatch$Lots" "night" "[I", Cond.fieldLink RX5 25 "CoastWatch$Lots" "cove" "[I", Cond.fieldLink RX5 28 "CoastWatch$Lots" "place" "[I", Cond.fieldLink RX5 31 "CoastWatch$Lots" "hide" "[I", Cond.methodLink RX9 365 yX8_firstInformer, Cond.instanceMethod yX8_firstInformer, Cond.selects RX8 yX8_firstInformer yX8_firstInformer, Cond.initialized RX8, Cond.code yX8_firstInformer cX8_firstInformer 4 (some .int)]
def wsX9_meetWatchers_r2 : List Cond := [Cond.fieldLink RX8 9 "CoastWatch$Words" "size" "I", Cond.fieldLink RX8 15 "CoastWatch$Words" "informer" "[I", Cond.methodLink RX8 31 yX8_names, Cond.instanceMethod yX8_names, Cond.selects RX8 yX8_names yX8_names, Cond.code yX8_names cX8_names 4 (some .boolean), Cond.fieldLink RX8 19 "CoastWatch$Words" "night" "[I", Cond.fieldLink RX8 22 "CoastWatch$Words" "cove" "[I", Cond.methodLink RX9 200 yX9_partSeized, Cond.instanceMethod yX9_partSeized, Cond.selects RX9 yX9_partSeized yX9_partSeized, Cond.initialized RX9, Cond.code yX9_partSeized cX9_partSeized 7 none, Cond.fieldLink RX9 19 "CoastWatch" "casksPrice" "I", Cond.fieldLink RX9 67 "CoastWatch" "laws" "LCoastWatch$Laws;", Cond.fieldLink RX9 377 "CoastWatch$Laws" "crew" "[I", Cond.fieldLink RX9 380 "CoastWatch$Laws" "informer" "[I", Cond.fieldLink RX9 26 "CoastWatch" "purses" "[I", Cond.methodLink RX9 374 yX4_inForceOn, Cond.instanceMethod yX4_inForceOn, Cond.selects RX4 yX4_inForceOn yX4_inForceOn, Cond.initialized RX4, Cond.code yX4_inForceOn cX4_inForceOn 4 (some .int), Cond.fieldLink RX4 9 "CoastWatch$Laws" "size" "I"]
def wsX9_meetWatchers_r3 : List Cond := [Cond.fieldLink RX4 22 "CoastWatch$Laws" "from" "[I", Cond.methodLink RX9 177 yX9_isInformer, Cond.static yX9_isInformer, Cond.code yX9_isInformer cX9_isInformer 1 (some .boolean), Cond.methodLink RX9 368 yX0_frighten, Cond.instanceMethod yX0_frighten, Cond.selects RX0 yX0_frighten yX0_frighten, Cond.initialized RX0, Cond.code yX0_frighten cX0_frighten 4 none, Cond.fieldLink RX0 39 "CoastWatch$Boats" "fear" "[[I", Cond.methodLink RX0 42 Lib.Math.min.name, Cond.static Lib.Math.min.name, Cond.initialized "java/lang/Math", Cond.code Lib.Math.min.name Lib.Math.min.code 2 (some .int)]
def wsX9_meetWatchers : List Cond := .code yX9_meetWatchers cX9_meetWatchers 5 none :: ((wsX9_meetWatchers_r1 ++ (wsX9_meetWatchers_r2 ++ wsX9_meetWatchers_r3)) ++ wsX90 ++ wsX00 ++ wsX50 ++ wsX80 ++ wsX40)
def wsX9_bringAshore_r1 : List Cond := [Cond.fieldLink RX9 46 "CoastWatch" "boats" "LCoastWatch$Boats;", Cond.fieldLink RX9 158 "CoastWatch$Boats" "casks" "[I", Cond.fieldLink RX9 53 "CoastWatch" "hides" "LCoastWatch$Hides;", Cond.fieldLink RX9 287 "CoastWatch$Boats" "returns" "[I", Cond.fieldLink RX9 60 "CoastWatch" "lots" "LCoastWatch$Lots;", Cond.fieldLink RX9 7 "CoastWatch" "night" "I", Cond.fieldLink RX9 203 "CoastWatch$Hides" "lying" "[I", Cond.methodLink RX9 371 yX3_firstWithRoom, Cond.instanceMethod yX3_firstWithRoom, Cond.selects RX3 yX3_firstWithRoom yX3_firstWithRoom, Cond.initialized RX3, Cond.code yX3_firstWithRoom cX3_firstWithRoom 4 (some .int), Cond.fieldLink RX3 11 "CoastWatch$Hides" "size" "I", Cond.fieldLink RX3 15 "CoastWatch$Hides" "cove" "[I", Cond.fieldLink RX3 19 "CoastWatch$Hides" "room" "[I", Cond.fieldLink RX3 28 "CoastWatch$Hides" "lying" "[I", Cond.methodLink RX9 362 yX5_add, Cond.instanceMethod yX5_add, Cond.selects RX5 yX5_add yX5_add, Cond.initialized RX5, Cond.code yX5_add cX5_add 7 none, Cond.fieldLink RX5 9 "CoastWatch$Lots" "size" "I", Cond.fieldLink RX5 15 "CoastWatch$Lots" "boat" "[I", Cond.fieldLink RX5 19 "CoastWatch$Lots" "casks" "[I"]
def wsX9_bringAshore_r2 : List Cond := [Cond.fieldLink RX5 22 "CoastWatch$Lots" "night" "[I", Cond.fieldLink RX5 25 "CoastWatch$Lots" "cove" "[I", Cond.fieldLink RX5 28 "CoastWatch$Lots" "place" "[I", Cond.fieldLink RX5 31 "CoastWatch$Lots" "hide" "[I"]
def wsX9_bringAshore : List Cond := .code yX9_bringAshore cX9_bringAshore 5 none :: ((wsX9_bringAshore_r1 ++ wsX9_bringAshore_r2) ++ wsX90 ++ wsX00 ++ wsX30 ++ wsX50)
def wsX9_lookAt : List Cond := .code yX9_lookAt cX9_lookAt 3 none :: ([.fieldLink RX9 39 "CoastWatch" "coves" "LCoastWatch$Coves;", .fieldLink RX9 291 "CoastWatch$Coves" "watchers" "[I", .fieldLink RX9 46 "CoastWatch" "boats" "LCoastWatch$Boats;", .methodLink RX9 92 yX9_isCove, .static yX9_isCove, .initialized RX9, .code yX9_isCove cX9_isCove 1 (some .boolean), .methodLink RX9 368 yX0_frighten, .instanceMethod yX0_frighten, .selects RX0 yX0_frighten yX0_frighten, .initialized RX0, .code yX0_frighten cX0_frighten 4 none, .fieldLink RX0 39 "CoastWatch$Boats" "fear" "[[I", .methodLink RX0 42 Lib.Math.min.name, .static Lib.Math.min.name, .initialized "java/lang/Math", .code Lib.Math.min.name Lib.Math.min.code 2 (some .int)] ++ wsX90 ++ wsX10 ++ wsX00)
def wsX9_sendOut_r1 : List Cond := [Cond.fieldLink RX9 46 "CoastWatch" "boats" "LCoastWatch$Boats;", Cond.fieldLink RX9 158 "CoastWatch$Boats" "casks" "[I", Cond.fieldLink RX9 60 "CoastWatch" "lots" "LCoastWatch$Lots;", Cond.fieldLink RX9 185 "CoastWatch$Lots" "size" "I", Cond.fieldLink RX9 331 "CoastWatch$Boats" "bold" "[I", Cond.fieldLink RX9 39 "CoastWatch" "coves" "LCoastWatch$Coves;", Cond.methodLink RX9 301 yX9_light, Cond.instanceMethod yX9_light, Cond.selects RX9 yX9_light yX9_light, Cond.initialized RX9, Cond.code yX9_light cX9_light 2 (some .int), Cond.fieldLink RX9 7 "CoastWatch" "night" "I", Cond.methodLink RX9 334 yX9_chosenCove, Cond.instanceMethod yX9_chosenCove, Cond.selects RX9 yX9_chosenCove yX9_chosenCove, Cond.code yX9_chosenCove cX9_chosenCove 4 (some .int), Cond.methodLink RX9 350 yX9_isOpen, Cond.instanceMethod yX9_isOpen, Cond.selects RX9 yX9_isOpen yX9_isOpen, Cond.code yX9_isOpen cX9_isOpen 3 (some .boolean), Cond.fieldLink RX9 100 "CoastWatch$Coves" "depth" "[I", Cond.fieldLink RX9 356 "CoastWatch$Boats" "draught" "[I", Cond.methodLink RX9 141 yX9_tideAt, Cond.instanceMethod yX9_tideAt]
def wsX9_sendOut_r2 : List Cond := [Cond.selects RX9 yX9_tideAt yX9_tideAt, Cond.code yX9_tideAt cX9_tideAt 5 (some .int), Cond.fieldLink RX9 138 "CoastWatch$Coves" "ledBy" "[I", Cond.fieldLink RX9 32 "CoastWatch" "tables" "LCoastWatch$Tables;", Cond.fieldLink RX9 120 "CoastWatch$Tables" "length" "[I", Cond.fieldLink RX9 123 "CoastWatch$Tables" "numbers" "[[I", Cond.methodLink RX9 106 yX9_isTable, Cond.static yX9_isTable, Cond.code yX9_isTable cX9_isTable 1 (some .boolean), Cond.methodLink RX9 353 yX9_isDearer, Cond.instanceMethod yX9_isDearer, Cond.selects RX9 yX9_isDearer yX9_isDearer, Cond.code yX9_isDearer cX9_isDearer 6 (some .boolean), Cond.fieldLink RX9 281 "CoastWatch$Boats" "fear" "[[I", Cond.fieldLink RX9 103 "CoastWatch$Coves" "worth" "[I", Cond.methodLink RX9 337 yX1_countingAt, Cond.instanceMethod yX1_countingAt, Cond.selects RX1 yX1_countingAt yX1_countingAt, Cond.initialized RX1, Cond.code yX1_countingAt cX1_countingAt 2 (some .int), Cond.fieldLink RX1 27 "CoastWatch$Coves" "bribed" "[Z", Cond.fieldLink RX1 31 "CoastWatch$Coves" "watchers" "[I", Cond.methodLink RX9 340 yX9_meetWatchers, Cond.instanceMethod yX9_meetWatchers]
def wsX9_sendOut_r3 : List Cond := [Cond.selects RX9 yX9_meetWatchers yX9_meetWatchers, Cond.code yX9_meetWatchers cX9_meetWatchers 5 none, Cond.fieldLink RX9 359 "CoastWatch$Boats" "strength" "[I", Cond.fieldLink RX9 74 "CoastWatch" "words" "LCoastWatch$Words;", Cond.fieldLink RX9 284 "CoastWatch$Boats" "escapes" "[I", Cond.methodLink RX9 362 yX5_add, Cond.instanceMethod yX5_add, Cond.selects RX5 yX5_add yX5_add, Cond.initialized RX5, Cond.code yX5_add cX5_add 7 none, Cond.fieldLink RX5 9 "CoastWatch$Lots" "size" "I", Cond.fieldLink RX5 15 "CoastWatch$Lots" "boat" "[I", Cond.fieldLink RX5 19 "CoastWatch$Lots" "casks" "[I", Cond.fieldLink RX5 22 "CoastWatch$Lots" "night" "[I", Cond.fieldLink RX5 25 "CoastWatch$Lots" "cove" "[I", Cond.fieldLink RX5 28 "CoastWatch$Lots" "place" "[I", Cond.fieldLink RX5 31 "CoastWatch$Lots" "hide" "[I", Cond.methodLink RX9 365 yX8_firstInformer, Cond.instanceMethod yX8_firstInformer, Cond.selects RX8 yX8_firstInformer yX8_firstInformer, Cond.initialized RX8, Cond.code yX8_firstInformer cX8_firstInformer 4 (some .int), Cond.fieldLink RX8 9 "CoastWatch$Words" "size" "I", Cond.fieldLink RX8 15 "CoastWatch$Words" "informer" "[I"]
def wsX9_sendOut_r4 : List Cond := [Cond.methodLink RX8 31 yX8_names, Cond.instanceMethod yX8_names, Cond.selects RX8 yX8_names yX8_names, Cond.code yX8_names cX8_names 4 (some .boolean), Cond.fieldLink RX8 19 "CoastWatch$Words" "night" "[I", Cond.fieldLink RX8 22 "CoastWatch$Words" "cove" "[I", Cond.methodLink RX9 200 yX9_partSeized, Cond.instanceMethod yX9_partSeized, Cond.selects RX9 yX9_partSeized yX9_partSeized, Cond.code yX9_partSeized cX9_partSeized 7 none, Cond.fieldLink RX9 19 "CoastWatch" "casksPrice" "I", Cond.fieldLink RX9 67 "CoastWatch" "laws" "LCoastWatch$Laws;", Cond.fieldLink RX9 377 "CoastWatch$Laws" "crew" "[I", Cond.fieldLink RX9 380 "CoastWatch$Laws" "informer" "[I", Cond.fieldLink RX9 26 "CoastWatch" "purses" "[I", Cond.methodLink RX9 374 yX4_inForceOn, Cond.instanceMethod yX4_inForceOn, Cond.selects RX4 yX4_inForceOn yX4_inForceOn, Cond.initialized RX4, Cond.code yX4_inForceOn cX4_inForceOn 4 (some .int), Cond.fieldLink RX4 9 "CoastWatch$Laws" "size" "I", Cond.fieldLink RX4 22 "CoastWatch$Laws" "from" "[I", Cond.methodLink RX9 177 yX9_isInformer, Cond.static yX9_isInformer]
def wsX9_sendOut_r5 : List Cond := [Cond.code yX9_isInformer cX9_isInformer 1 (some .boolean), Cond.methodLink RX9 368 yX0_frighten, Cond.instanceMethod yX0_frighten, Cond.selects RX0 yX0_frighten yX0_frighten, Cond.initialized RX0, Cond.code yX0_frighten cX0_frighten 4 none, Cond.fieldLink RX0 39 "CoastWatch$Boats" "fear" "[[I", Cond.methodLink RX0 42 Lib.Math.min.name, Cond.static Lib.Math.min.name, Cond.initialized "java/lang/Math", Cond.code Lib.Math.min.name Lib.Math.min.code 2 (some .int), Cond.methodLink RX9 344 yX9_bringAshore, Cond.instanceMethod yX9_bringAshore, Cond.selects RX9 yX9_bringAshore yX9_bringAshore, Cond.code yX9_bringAshore cX9_bringAshore 5 none, Cond.fieldLink RX9 53 "CoastWatch" "hides" "LCoastWatch$Hides;", Cond.fieldLink RX9 287 "CoastWatch$Boats" "returns" "[I", Cond.fieldLink RX9 203 "CoastWatch$Hides" "lying" "[I", Cond.methodLink RX9 371 yX3_firstWithRoom, Cond.instanceMethod yX3_firstWithRoom, Cond.selects RX3 yX3_firstWithRoom yX3_firstWithRoom, Cond.initialized RX3, Cond.code yX3_firstWithRoom cX3_firstWithRoom 4 (some .int), Cond.fieldLink RX3 11 "CoastWatch$Hides" "size" "I"]
def wsX9_sendOut_r6 : List Cond := [Cond.fieldLink RX3 15 "CoastWatch$Hides" "cove" "[I", Cond.fieldLink RX3 19 "CoastWatch$Hides" "room" "[I", Cond.fieldLink RX3 28 "CoastWatch$Hides" "lying" "[I", Cond.methodLink RX9 347 yX9_lookAt, Cond.instanceMethod yX9_lookAt, Cond.selects RX9 yX9_lookAt yX9_lookAt, Cond.code yX9_lookAt cX9_lookAt 3 none, Cond.fieldLink RX9 291 "CoastWatch$Coves" "watchers" "[I", Cond.methodLink RX9 92 yX9_isCove, Cond.static yX9_isCove, Cond.code yX9_isCove cX9_isCove 1 (some .boolean)]
def wsX9_sendOut : List Cond := .code yX9_sendOut cX9_sendOut 4 none :: ((wsX9_sendOut_r1 ++ (wsX9_sendOut_r2 ++ (wsX9_sendOut_r3 ++ (wsX9_sendOut_r4 ++ (wsX9_sendOut_r5 ++ wsX9_sendOut_r6))))) ++ wsX90 ++ wsX00 ++ wsX50 ++ wsX10 ++ wsX70 ++ wsX80 ++ wsX40 ++ wsX30)
def wsX9_proveWords_r1 : List Cond := [Cond.fieldLink RX9 74 "CoastWatch" "words" "LCoastWatch$Words;", Cond.fieldLink RX9 180 "CoastWatch$Words" "size" "I", Cond.fieldLink RX9 383 "CoastWatch$Words" "night" "[I", Cond.fieldLink RX9 7 "CoastWatch" "night" "I", Cond.fieldLink RX9 384 "CoastWatch$Words" "cove" "[I", Cond.fieldLink RX9 60 "CoastWatch" "lots" "LCoastWatch$Lots;", Cond.fieldLink RX9 53 "CoastWatch" "hides" "LCoastWatch$Hides;", Cond.methodLink RX9 385 yX5_cameTo, Cond.instanceMethod yX5_cameTo, Cond.selects RX5 yX5_cameTo yX5_cameTo, Cond.initialized RX5, Cond.code yX5_cameTo cX5_cameTo 4 (some .boolean), Cond.fieldLink RX5 9 "CoastWatch$Lots" "size" "I", Cond.fieldLink RX5 25 "CoastWatch$Lots" "cove" "[I", Cond.fieldLink RX5 22 "CoastWatch$Lots" "night" "[I", Cond.methodLink RX9 388 yX8_prove, Cond.instanceMethod yX8_prove, Cond.selects RX8 yX8_prove yX8_prove, Cond.initialized RX8, Cond.code yX8_prove cX8_prove 3 none, Cond.fieldLink RX8 25 "CoastWatch$Words" "right" "[I", Cond.fieldLink RX8 15 "CoastWatch$Words" "informer" "[I", Cond.fieldLink RX8 28 "CoastWatch$Words" "wrong" "[I", Cond.methodLink RX9 392 yX3_suspect]
def wsX9_proveWords_r2 : List Cond := [Cond.instanceMethod yX3_suspect, Cond.selects RX3 yX3_suspect yX3_suspect, Cond.initialized RX3, Cond.code yX3_suspect cX3_suspect 3 none, Cond.fieldLink RX3 11 "CoastWatch$Hides" "size" "I", Cond.fieldLink RX3 15 "CoastWatch$Hides" "cove" "[I", Cond.fieldLink RX3 25 "CoastWatch$Hides" "guess" "[I", Cond.methodLink RX3 35 Lib.Math.min.name, Cond.static Lib.Math.min.name, Cond.initialized "java/lang/Math", Cond.code Lib.Math.min.name Lib.Math.min.code 2 (some .int)]
def wsX9_proveWords : List Cond := .code yX9_proveWords cX9_proveWords 4 none :: ((wsX9_proveWords_r1 ++ wsX9_proveWords_r2) ++ wsX90 ++ wsX80 ++ wsX50 ++ wsX30)
def wsX9_passNight_r1 : List Cond := [Cond.fieldLink RX9 7 "CoastWatch" "night" "I", Cond.fieldLink RX9 46 "CoastWatch" "boats" "LCoastWatch$Boats;", Cond.fieldLink RX9 145 "CoastWatch$Boats" "size" "I", Cond.methodLink RX9 309 yX9_placeWatchers, Cond.instanceMethod yX9_placeWatchers, Cond.selects RX9 yX9_placeWatchers yX9_placeWatchers, Cond.initialized RX9, Cond.code yX9_placeWatchers cX9_placeWatchers 3 none, Cond.fieldLink RX9 39 "CoastWatch" "coves" "LCoastWatch$Coves;", Cond.fieldLink RX9 291 "CoastWatch$Coves" "watchers" "[I", Cond.fieldLink RX9 165 "CoastWatch$Coves" "standing" "[I", Cond.fieldLink RX9 16 "CoastWatch" "drawCount" "I", Cond.methodLink RX9 321 yX1_sumOfShares, Cond.instanceMethod yX1_sumOfShares, Cond.selects RX1 yX1_sumOfShares yX1_sumOfShares, Cond.initialized RX1, Cond.code yX1_sumOfShares cX1_sumOfShares 3 (some .int), Cond.fieldLink RX1 24 "CoastWatch$Coves" "shares" "[I", Cond.methodLink RX9 324 yX9_drawBelow, Cond.instanceMethod yX9_drawBelow, Cond.selects RX9 yX9_drawBelow yX9_drawBelow, Cond.code yX9_drawBelow cX9_drawBelow 2 (some .int), Cond.fieldLink RX9 13 "CoastWatch" "seed" "I", Cond.constant RX9 330 (1103515245)]
def wsX9_passNight_r2 : List Cond := [Cond.methodLink RX9 327 yX1_coveOfShare, Cond.instanceMethod yX1_coveOfShare, Cond.selects RX1 yX1_coveOfShare yX1_coveOfShare, Cond.code yX1_coveOfShare cX1_coveOfShare 4 (some .int), Cond.methodLink RX9 312 yX9_sendOut, Cond.instanceMethod yX9_sendOut, Cond.selects RX9 yX9_sendOut yX9_sendOut, Cond.code yX9_sendOut cX9_sendOut 4 none, Cond.fieldLink RX9 158 "CoastWatch$Boats" "casks" "[I", Cond.fieldLink RX9 60 "CoastWatch" "lots" "LCoastWatch$Lots;", Cond.fieldLink RX9 185 "CoastWatch$Lots" "size" "I", Cond.fieldLink RX9 331 "CoastWatch$Boats" "bold" "[I", Cond.methodLink RX9 301 yX9_light, Cond.instanceMethod yX9_light, Cond.selects RX9 yX9_light yX9_light, Cond.code yX9_light cX9_light 2 (some .int), Cond.methodLink RX9 334 yX9_chosenCove, Cond.instanceMethod yX9_chosenCove, Cond.selects RX9 yX9_chosenCove yX9_chosenCove, Cond.code yX9_chosenCove cX9_chosenCove 4 (some .int), Cond.methodLink RX9 350 yX9_isOpen, Cond.instanceMethod yX9_isOpen, Cond.selects RX9 yX9_isOpen yX9_isOpen, Cond.code yX9_isOpen cX9_isOpen 3 (some .boolean)]
def wsX9_passNight_r3 : List Cond := [Cond.fieldLink RX9 100 "CoastWatch$Coves" "depth" "[I", Cond.fieldLink RX9 356 "CoastWatch$Boats" "draught" "[I", Cond.methodLink RX9 141 yX9_tideAt, Cond.instanceMethod yX9_tideAt, Cond.selects RX9 yX9_tideAt yX9_tideAt, Cond.code yX9_tideAt cX9_tideAt 5 (some .int), Cond.fieldLink RX9 138 "CoastWatch$Coves" "ledBy" "[I", Cond.fieldLink RX9 32 "CoastWatch" "tables" "LCoastWatch$Tables;", Cond.fieldLink RX9 120 "CoastWatch$Tables" "length" "[I", Cond.fieldLink RX9 123 "CoastWatch$Tables" "numbers" "[[I", Cond.methodLink RX9 106 yX9_isTable, Cond.static yX9_isTable, Cond.code yX9_isTable cX9_isTable 1 (some .boolean), Cond.methodLink RX9 353 yX9_isDearer, Cond.instanceMethod yX9_isDearer, Cond.selects RX9 yX9_isDearer yX9_isDearer, Cond.code yX9_isDearer cX9_isDearer 6 (some .boolean), Cond.fieldLink RX9 281 "CoastWatch$Boats" "fear" "[[I", Cond.fieldLink RX9 103 "CoastWatch$Coves" "worth" "[I", Cond.methodLink RX9 337 yX1_countingAt, Cond.instanceMethod yX1_countingAt, Cond.selects RX1 yX1_countingAt yX1_countingAt, Cond.code yX1_countingAt cX1_countingAt 2 (some .int), Cond.fieldLink RX1 27 "CoastWatch$Coves" "bribed" "[Z"]
def wsX9_passNight_r4 : List Cond := [Cond.fieldLink RX1 31 "CoastWatch$Coves" "watchers" "[I", Cond.methodLink RX9 340 yX9_meetWatchers, Cond.instanceMethod yX9_meetWatchers, Cond.selects RX9 yX9_meetWatchers yX9_meetWatchers, Cond.code yX9_meetWatchers cX9_meetWatchers 5 none, Cond.fieldLink RX9 359 "CoastWatch$Boats" "strength" "[I", Cond.fieldLink RX9 74 "CoastWatch" "words" "LCoastWatch$Words;", Cond.fieldLink RX9 284 "CoastWatch$Boats" "escapes" "[I", Cond.methodLink RX9 362 yX5_add, Cond.instanceMethod yX5_add, Cond.selects RX5 yX5_add yX5_add, Cond.initialized RX5, Cond.code yX5_add cX5_add 7 none, Cond.fieldLink RX5 9 "CoastWatch$Lots" "size" "I", Cond.fieldLink RX5 15 "CoastWatch$Lots" "boat" "[I", Cond.fieldLink RX5 19 "CoastWatch$Lots" "casks" "[I", Cond.fieldLink RX5 22 "CoastWatch$Lots" "night" "[I", Cond.fieldLink RX5 25 "CoastWatch$Lots" "cove" "[I", Cond.fieldLink RX5 28 "CoastWatch$Lots" "place" "[I", Cond.fieldLink RX5 31 "CoastWatch$Lots" "hide" "[I", Cond.methodLink RX9 365 yX8_firstInformer, Cond.instanceMethod yX8_firstInformer, Cond.selects RX8 yX8_firstInformer yX8_firstInformer, Cond.initialized RX8]
def wsX9_passNight_r5 : List Cond := [Cond.code yX8_firstInformer cX8_firstInformer 4 (some .int), Cond.fieldLink RX8 9 "CoastWatch$Words" "size" "I", Cond.fieldLink RX8 15 "CoastWatch$Words" "informer" "[I", Cond.methodLink RX8 31 yX8_names, Cond.instanceMethod yX8_names, Cond.selects RX8 yX8_names yX8_names, Cond.code yX8_names cX8_names 4 (some .boolean), Cond.fieldLink RX8 19 "CoastWatch$Words" "night" "[I", Cond.fieldLink RX8 22 "CoastWatch$Words" "cove" "[I", Cond.methodLink RX9 200 yX9_partSeized, Cond.instanceMethod yX9_partSeized, Cond.selects RX9 yX9_partSeized yX9_partSeized, Cond.code yX9_partSeized cX9_partSeized 7 none, Cond.fieldLink RX9 19 "CoastWatch" "casksPrice" "I", Cond.fieldLink RX9 67 "CoastWatch" "laws" "LCoastWatch$Laws;", Cond.fieldLink RX9 377 "CoastWatch$Laws" "crew" "[I", Cond.fieldLink RX9 380 "CoastWatch$Laws" "informer" "[I", Cond.fieldLink RX9 26 "CoastWatch" "purses" "[I", Cond.methodLink RX9 374 yX4_inForceOn, Cond.instanceMethod yX4_inForceOn, Cond.selects RX4 yX4_inForceOn yX4_inForceOn, Cond.initialized RX4, Cond.code yX4_inForceOn cX4_inForceOn 4 (some .int), Cond.fieldLink RX4 9 "CoastWatch$Laws" "size" "I"]
def wsX9_passNight_r6 : List Cond := [Cond.fieldLink RX4 22 "CoastWatch$Laws" "from" "[I", Cond.methodLink RX9 177 yX9_isInformer, Cond.static yX9_isInformer, Cond.code yX9_isInformer cX9_isInformer 1 (some .boolean), Cond.methodLink RX9 368 yX0_frighten, Cond.instanceMethod yX0_frighten, Cond.selects RX0 yX0_frighten yX0_frighten, Cond.initialized RX0, Cond.code yX0_frighten cX0_frighten 4 none, Cond.fieldLink RX0 39 "CoastWatch$Boats" "fear" "[[I", Cond.methodLink RX0 42 Lib.Math.min.name, Cond.static Lib.Math.min.name, Cond.initialized "java/lang/Math", Cond.code Lib.Math.min.name Lib.Math.min.code 2 (some .int), Cond.methodLink RX9 344 yX9_bringAshore, Cond.instanceMethod yX9_bringAshore, Cond.selects RX9 yX9_bringAshore yX9_bringAshore, Cond.code yX9_bringAshore cX9_bringAshore 5 none, Cond.fieldLink RX9 53 "CoastWatch" "hides" "LCoastWatch$Hides;", Cond.fieldLink RX9 287 "CoastWatch$Boats" "returns" "[I", Cond.fieldLink RX9 203 "CoastWatch$Hides" "lying" "[I", Cond.methodLink RX9 371 yX3_firstWithRoom, Cond.instanceMethod yX3_firstWithRoom, Cond.selects RX3 yX3_firstWithRoom yX3_firstWithRoom]
def wsX9_passNight_r7 : List Cond := [Cond.initialized RX3, Cond.code yX3_firstWithRoom cX3_firstWithRoom 4 (some .int), Cond.fieldLink RX3 11 "CoastWatch$Hides" "size" "I", Cond.fieldLink RX3 15 "CoastWatch$Hides" "cove" "[I", Cond.fieldLink RX3 19 "CoastWatch$Hides" "room" "[I", Cond.fieldLink RX3 28 "CoastWatch$Hides" "lying" "[I", Cond.methodLink RX9 347 yX9_lookAt, Cond.instanceMethod yX9_lookAt, Cond.selects RX9 yX9_lookAt yX9_lookAt, Cond.code yX9_lookAt cX9_lookAt 3 none, Cond.methodLink RX9 92 yX9_isCove, Cond.static yX9_isCove, Cond.code yX9_isCove cX9_isCove 1 (some .boolean), Cond.methodLink RX9 315 yX0_calm, Cond.instanceMethod yX0_calm, Cond.selects RX0 yX0_calm yX0_calm, Cond.code yX0_calm cX0_calm 3 none, Cond.fieldLink RX0 9 "CoastWatch$Boats" "size" "I", Cond.methodLink RX9 318 yX9_proveWords, Cond.instanceMethod yX9_proveWords, Cond.selects RX9 yX9_proveWords yX9_proveWords, Cond.code yX9_proveWords cX9_proveWords 4 none, Cond.fieldLink RX9 180 "CoastWatch$Words" "size" "I", Cond.fieldLink RX9 383 "CoastWatch$Words" "night" "[I"]
def wsX9_passNight_r8 : List Cond := [Cond.fieldLink RX9 384 "CoastWatch$Words" "cove" "[I", Cond.methodLink RX9 385 yX5_cameTo, Cond.instanceMethod yX5_cameTo, Cond.selects RX5 yX5_cameTo yX5_cameTo, Cond.code yX5_cameTo cX5_cameTo 4 (some .boolean), Cond.methodLink RX9 388 yX8_prove, Cond.instanceMethod yX8_prove, Cond.selects RX8 yX8_prove yX8_prove, Cond.code yX8_prove cX8_prove 3 none, Cond.fieldLink RX8 25 "CoastWatch$Words" "right" "[I", Cond.fieldLink RX8 28 "CoastWatch$Words" "wrong" "[I", Cond.methodLink RX9 392 yX3_suspect, Cond.instanceMethod yX3_suspect, Cond.selects RX3 yX3_suspect yX3_suspect, Cond.code yX3_suspect cX3_suspect 3 none, Cond.fieldLink RX3 25 "CoastWatch$Hides" "guess" "[I", Cond.methodLink RX3 35 Lib.Math.min.name]
def wsX9_passNight : List Cond := .code yX9_passNight cX9_passNight 2 none :: ((wsX9_passNight_r1 ++ (wsX9_passNight_r2 ++ (wsX9_passNight_r3 ++ (wsX9_passNight_r4 ++ (wsX9_passNight_r5 ++ (wsX9_passNight_r6 ++ (wsX9_passNight_r7 ++ wsX9_passNight_r8))))))) ++ wsX90 ++ wsX00 ++ wsX10 ++ wsX50 ++ wsX70 ++ wsX80 ++ wsX40 ++ wsX30)
def wsX9_nights_r1 : List Cond := [Cond.fieldLink RX9 7 "CoastWatch" "night" "I", Cond.fieldLink RX9 60 "CoastWatch" "lots" "LCoastWatch$Lots;", Cond.fieldLink RX9 185 "CoastWatch$Lots" "size" "I", Cond.methodLink RX9 96 yX9_refuse, Cond.instanceMethod yX9_refuse, Cond.selects RX9 yX9_refuse yX9_refuse, Cond.initialized RX9, Cond.code yX9_refuse cX9_refuse 3 (some .int), Cond.fieldLink RX9 22 "CoastWatch" "refusals" "[I", Cond.methodLink RX9 186 yX9_passNight, Cond.instanceMethod yX9_passNight, Cond.selects RX9 yX9_passNight yX9_passNight, Cond.code yX9_passNight cX9_passNight 2 none, Cond.fieldLink RX9 46 "CoastWatch" "boats" "LCoastWatch$Boats;", Cond.fieldLink RX9 145 "CoastWatch$Boats" "size" "I", Cond.methodLink RX9 309 yX9_placeWatchers, Cond.instanceMethod yX9_placeWatchers, Cond.selects RX9 yX9_placeWatchers yX9_placeWatchers, Cond.code yX9_placeWatchers cX9_placeWatchers 3 none, Cond.fieldLink RX9 39 "CoastWatch" "coves" "LCoastWatch$Coves;", Cond.fieldLink RX9 291 "CoastWatch$Coves" "watchers" "[I", Cond.fieldLink RX9 165 "CoastWatch$Coves" "standing" "[I", Cond.fieldLink RX9 16 "CoastWatch" "drawCount" "I", Cond.methodLink RX9 321 yX1_sumOfShares]
def wsX9_nights_r2 : List Cond := [Cond.instanceMethod yX1_sumOfShares, Cond.selects RX1 yX1_sumOfShares yX1_sumOfShares, Cond.initialized RX1, Cond.code yX1_sumOfShares cX1_sumOfShares 3 (some .int), Cond.fieldLink RX1 24 "CoastWatch$Coves" "shares" "[I", Cond.methodLink RX9 324 yX9_drawBelow, Cond.instanceMethod yX9_drawBelow, Cond.selects RX9 yX9_drawBelow yX9_drawBelow, Cond.code yX9_drawBelow cX9_drawBelow 2 (some .int), Cond.fieldLink RX9 13 "CoastWatch" "seed" "I", Cond.constant RX9 330 (1103515245), Cond.methodLink RX9 327 yX1_coveOfShare, Cond.instanceMethod yX1_coveOfShare, Cond.selects RX1 yX1_coveOfShare yX1_coveOfShare, Cond.code yX1_coveOfShare cX1_coveOfShare 4 (some .int), Cond.methodLink RX9 312 yX9_sendOut, Cond.instanceMethod yX9_sendOut, Cond.selects RX9 yX9_sendOut yX9_sendOut, Cond.code yX9_sendOut cX9_sendOut 4 none, Cond.fieldLink RX9 158 "CoastWatch$Boats" "casks" "[I", Cond.fieldLink RX9 331 "CoastWatch$Boats" "bold" "[I", Cond.methodLink RX9 301 yX9_light, Cond.instanceMethod yX9_light, Cond.selects RX9 yX9_light yX9_light]
def wsX9_nights_r3 : List Cond := [Cond.code yX9_light cX9_light 2 (some .int), Cond.methodLink RX9 334 yX9_chosenCove, Cond.instanceMethod yX9_chosenCove, Cond.selects RX9 yX9_chosenCove yX9_chosenCove, Cond.code yX9_chosenCove cX9_chosenCove 4 (some .int), Cond.methodLink RX9 350 yX9_isOpen, Cond.instanceMethod yX9_isOpen, Cond.selects RX9 yX9_isOpen yX9_isOpen, Cond.code yX9_isOpen cX9_isOpen 3 (some .boolean), Cond.fieldLink RX9 100 "CoastWatch$Coves" "depth" "[I", Cond.fieldLink RX9 356 "CoastWatch$Boats" "draught" "[I", Cond.methodLink RX9 141 yX9_tideAt, Cond.instanceMethod yX9_tideAt, Cond.selects RX9 yX9_tideAt yX9_tideAt, Cond.code yX9_tideAt cX9_tideAt 5 (some .int), Cond.fieldLink RX9 138 "CoastWatch$Coves" "ledBy" "[I", Cond.fieldLink RX9 32 "CoastWatch" "tables" "LCoastWatch$Tables;", Cond.fieldLink RX9 120 "CoastWatch$Tables" "length" "[I", Cond.fieldLink RX9 123 "CoastWatch$Tables" "numbers" "[[I", Cond.methodLink RX9 106 yX9_isTable, Cond.static yX9_isTable, Cond.code yX9_isTable cX9_isTable 1 (some .boolean), Cond.methodLink RX9 353 yX9_isDearer, Cond.instanceMethod yX9_isDearer]
def wsX9_nights_r4 : List Cond := [Cond.selects RX9 yX9_isDearer yX9_isDearer, Cond.code yX9_isDearer cX9_isDearer 6 (some .boolean), Cond.fieldLink RX9 281 "CoastWatch$Boats" "fear" "[[I", Cond.fieldLink RX9 103 "CoastWatch$Coves" "worth" "[I", Cond.methodLink RX9 337 yX1_countingAt, Cond.instanceMethod yX1_countingAt, Cond.selects RX1 yX1_countingAt yX1_countingAt, Cond.code yX1_countingAt cX1_countingAt 2 (some .int), Cond.fieldLink RX1 27 "CoastWatch$Coves" "bribed" "[Z", Cond.fieldLink RX1 31 "CoastWatch$Coves" "watchers" "[I", Cond.methodLink RX9 340 yX9_meetWatchers, Cond.instanceMethod yX9_meetWatchers, Cond.selects RX9 yX9_meetWatchers yX9_meetWatchers, Cond.code yX9_meetWatchers cX9_meetWatchers 5 none, Cond.fieldLink RX9 359 "CoastWatch$Boats" "strength" "[I", Cond.fieldLink RX9 74 "CoastWatch" "words" "LCoastWatch$Words;", Cond.fieldLink RX9 284 "CoastWatch$Boats" "escapes" "[I", Cond.methodLink RX9 362 yX5_add, Cond.instanceMethod yX5_add, Cond.selects RX5 yX5_add yX5_add, Cond.initialized RX5, Cond.code yX5_add cX5_add 7 none, Cond.fieldLink RX5 9 "CoastWatch$Lots" "size" "I", Cond.fieldLink RX5 15 "CoastWatch$Lots" "boat" "[I"]
def wsX9_nights_r5 : List Cond := [Cond.fieldLink RX5 19 "CoastWatch$Lots" "casks" "[I", Cond.fieldLink RX5 22 "CoastWatch$Lots" "night" "[I", Cond.fieldLink RX5 25 "CoastWatch$Lots" "cove" "[I", Cond.fieldLink RX5 28 "CoastWatch$Lots" "place" "[I", Cond.fieldLink RX5 31 "CoastWatch$Lots" "hide" "[I", Cond.methodLink RX9 365 yX8_firstInformer, Cond.instanceMethod yX8_firstInformer, Cond.selects RX8 yX8_firstInformer yX8_firstInformer, Cond.initialized RX8, Cond.code yX8_firstInformer cX8_firstInformer 4 (some .int), Cond.fieldLink RX8 9 "CoastWatch$Words" "size" "I", Cond.fieldLink RX8 15 "CoastWatch$Words" "informer" "[I", Cond.methodLink RX8 31 yX8_names, Cond.instanceMethod yX8_names, Cond.selects RX8 yX8_names yX8_names, Cond.code yX8_names cX8_names 4 (some .boolean), Cond.fieldLink RX8 19 "CoastWatch$Words" "night" "[I", Cond.fieldLink RX8 22 "CoastWatch$Words" "cove" "[I", Cond.methodLink RX9 200 yX9_partSeized, Cond.instanceMethod yX9_partSeized, Cond.selects RX9 yX9_partSeized yX9_partSeized, Cond.code yX9_partSeized cX9_partSeized 7 none, Cond.fieldLink RX9 19 "CoastWatch" "casksPrice" "I", Cond.fieldLink RX9 67 "CoastWatch" "laws" "LCoastWatch$Laws;"]
def wsX9_nights_r6 : List Cond := [Cond.fieldLink RX9 377 "CoastWatch$Laws" "crew" "[I", Cond.fieldLink RX9 380 "CoastWatch$Laws" "informer" "[I", Cond.fieldLink RX9 26 "CoastWatch" "purses" "[I", Cond.methodLink RX9 374 yX4_inForceOn, Cond.instanceMethod yX4_inForceOn, Cond.selects RX4 yX4_inForceOn yX4_inForceOn, Cond.initialized RX4, Cond.code yX4_inForceOn cX4_inForceOn 4 (some .int), Cond.fieldLink RX4 9 "CoastWatch$Laws" "size" "I", Cond.fieldLink RX4 22 "CoastWatch$Laws" "from" "[I", Cond.methodLink RX9 177 yX9_isInformer, Cond.static yX9_isInformer, Cond.code yX9_isInformer cX9_isInformer 1 (some .boolean), Cond.methodLink RX9 368 yX0_frighten, Cond.instanceMethod yX0_frighten, Cond.selects RX0 yX0_frighten yX0_frighten, Cond.initialized RX0, Cond.code yX0_frighten cX0_frighten 4 none, Cond.fieldLink RX0 39 "CoastWatch$Boats" "fear" "[[I", Cond.methodLink RX0 42 Lib.Math.min.name, Cond.static Lib.Math.min.name, Cond.initialized "java/lang/Math", Cond.code Lib.Math.min.name Lib.Math.min.code 2 (some .int), Cond.methodLink RX9 344 yX9_bringAshore]
def wsX9_nights_r7 : List Cond := [Cond.instanceMethod yX9_bringAshore, Cond.selects RX9 yX9_bringAshore yX9_bringAshore, Cond.code yX9_bringAshore cX9_bringAshore 5 none, Cond.fieldLink RX9 53 "CoastWatch" "hides" "LCoastWatch$Hides;", Cond.fieldLink RX9 287 "CoastWatch$Boats" "returns" "[I", Cond.fieldLink RX9 203 "CoastWatch$Hides" "lying" "[I", Cond.methodLink RX9 371 yX3_firstWithRoom, Cond.instanceMethod yX3_firstWithRoom, Cond.selects RX3 yX3_firstWithRoom yX3_firstWithRoom, Cond.initialized RX3, Cond.code yX3_firstWithRoom cX3_firstWithRoom 4 (some .int), Cond.fieldLink RX3 11 "CoastWatch$Hides" "size" "I", Cond.fieldLink RX3 15 "CoastWatch$Hides" "cove" "[I", Cond.fieldLink RX3 19 "CoastWatch$Hides" "room" "[I", Cond.fieldLink RX3 28 "CoastWatch$Hides" "lying" "[I", Cond.methodLink RX9 347 yX9_lookAt, Cond.instanceMethod yX9_lookAt, Cond.selects RX9 yX9_lookAt yX9_lookAt, Cond.code yX9_lookAt cX9_lookAt 3 none, Cond.methodLink RX9 92 yX9_isCove, Cond.static yX9_isCove, Cond.code yX9_isCove cX9_isCove 1 (some .boolean), Cond.methodLink RX9 315 yX0_calm, Cond.instanceMethod yX0_calm]
def wsX9_nights_r8 : List Cond := [Cond.selects RX0 yX0_calm yX0_calm, Cond.code yX0_calm cX0_calm 3 none, Cond.fieldLink RX0 9 "CoastWatch$Boats" "size" "I", Cond.methodLink RX9 318 yX9_proveWords, Cond.instanceMethod yX9_proveWords, Cond.selects RX9 yX9_proveWords yX9_proveWords, Cond.code yX9_proveWords cX9_proveWords 4 none, Cond.fieldLink RX9 180 "CoastWatch$Words" "size" "I", Cond.fieldLink RX9 383 "CoastWatch$Words" "night" "[I", Cond.fieldLink RX9 384 "CoastWatch$Words" "cove" "[I", Cond.methodLink RX9 385 yX5_cameTo, Cond.instanceMethod yX5_cameTo, Cond.selects RX5 yX5_cameTo yX5_cameTo, Cond.code yX5_cameTo cX5_cameTo 4 (some .boolean), Cond.methodLink RX9 388 yX8_prove, Cond.instanceMethod yX8_prove, Cond.selects RX8 yX8_prove yX8_prove, Cond.code yX8_prove cX8_prove 3 none, Cond.fieldLink RX8 25 "CoastWatch$Words" "right" "[I", Cond.fieldLink RX8 28 "CoastWatch$Words" "wrong" "[I", Cond.methodLink RX9 392 yX3_suspect, Cond.instanceMethod yX3_suspect, Cond.selects RX3 yX3_suspect yX3_suspect, Cond.code yX3_suspect cX3_suspect 3 none]
def wsX9_nights_r9 : List Cond := [Cond.fieldLink RX3 25 "CoastWatch$Hides" "guess" "[I", Cond.methodLink RX3 35 Lib.Math.min.name]
def wsX9_nights : List Cond := .code yX9_nights cX9_nights 4 (some .int) :: ((wsX9_nights_r1 ++ (wsX9_nights_r2 ++ (wsX9_nights_r3 ++ (wsX9_nights_r4 ++ (wsX9_nights_r5 ++ (wsX9_nights_r6 ++ (wsX9_nights_r7 ++ (wsX9_nights_r8 ++ wsX9_nights_r9)))))))) ++ wsX90 ++ wsX50 ++ wsX00 ++ wsX10 ++ wsX70 ++ wsX80 ++ wsX40 ++ wsX30)
def wsX9_isHide : List Cond := .code yX9_isHide cX9_isHide 2 (some .boolean) :: ([.fieldLink RX9 53 "CoastWatch" "hides" "LCoastWatch$Hides;", .fieldLink RX9 161 "CoastWatch$Hides" "size" "I"] ++ wsX90 ++ wsX30)
def wsX9_search_r1 : List Cond := [Cond.fieldLink RX9 60 "CoastWatch" "lots" "LCoastWatch$Lots;", Cond.fieldLink RX9 185 "CoastWatch$Lots" "size" "I", Cond.fieldLink RX9 196 "CoastWatch$Lots" "place" "[I", Cond.fieldLink RX9 199 "CoastWatch$Lots" "casks" "[I", Cond.fieldLink RX9 53 "CoastWatch" "hides" "LCoastWatch$Hides;", Cond.fieldLink RX9 203 "CoastWatch$Hides" "lying" "[I", Cond.fieldLink RX9 206 "CoastWatch$Hides" "guess" "[I", Cond.methodLink RX9 189 yX9_isHide, Cond.instanceMethod yX9_isHide, Cond.selects RX9 yX9_isHide yX9_isHide, Cond.initialized RX9, Cond.code yX9_isHide cX9_isHide 2 (some .boolean), Cond.fieldLink RX9 161 "CoastWatch$Hides" "size" "I", Cond.methodLink RX9 96 yX9_refuse, Cond.instanceMethod yX9_refuse, Cond.selects RX9 yX9_refuse yX9_refuse, Cond.code yX9_refuse cX9_refuse 3 (some .int), Cond.fieldLink RX9 22 "CoastWatch" "refusals" "[I", Cond.methodLink RX9 192 yX5_liesIn, Cond.instanceMethod yX5_liesIn, Cond.selects RX5 yX5_liesIn yX5_liesIn, Cond.initialized RX5, Cond.code yX5_liesIn cX5_liesIn 3 (some .boolean), Cond.fieldLink RX5 28 "CoastWatch$Lots" "place" "[I"]
def wsX9_search_r2 : List Cond := [Cond.fieldLink RX5 31 "CoastWatch$Lots" "hide" "[I", Cond.methodLink RX9 200 yX9_partSeized, Cond.instanceMethod yX9_partSeized, Cond.selects RX9 yX9_partSeized yX9_partSeized, Cond.code yX9_partSeized cX9_partSeized 7 none, Cond.fieldLink RX9 19 "CoastWatch" "casksPrice" "I", Cond.fieldLink RX9 67 "CoastWatch" "laws" "LCoastWatch$Laws;", Cond.fieldLink RX9 7 "CoastWatch" "night" "I", Cond.fieldLink RX9 377 "CoastWatch$Laws" "crew" "[I", Cond.fieldLink RX9 380 "CoastWatch$Laws" "informer" "[I", Cond.fieldLink RX9 26 "CoastWatch" "purses" "[I", Cond.methodLink RX9 374 yX4_inForceOn, Cond.instanceMethod yX4_inForceOn, Cond.selects RX4 yX4_inForceOn yX4_inForceOn, Cond.initialized RX4, Cond.code yX4_inForceOn cX4_inForceOn 4 (some .int), Cond.fieldLink RX4 9 "CoastWatch$Laws" "size" "I", Cond.fieldLink RX4 22 "CoastWatch$Laws" "from" "[I", Cond.methodLink RX9 177 yX9_isInformer, Cond.static yX9_isInformer, Cond.code yX9_isInformer cX9_isInformer 1 (some .boolean)]
def wsX9_search : List Cond := .code yX9_search cX9_search 4 (some .int) :: ((wsX9_search_r1 ++ wsX9_search_r2) ++ wsX90 ++ wsX50 ++ wsX30 ++ wsX40)
def wsX9_best_r1 : List Cond := [Cond.fieldLink RX9 53 "CoastWatch" "hides" "LCoastWatch$Hides;", Cond.methodLink RX9 96 yX9_refuse, Cond.instanceMethod yX9_refuse, Cond.selects RX9 yX9_refuse yX9_refuse, Cond.initialized RX9, Cond.code yX9_refuse cX9_refuse 3 (some .int), Cond.fieldLink RX9 22 "CoastWatch" "refusals" "[I", Cond.methodLink RX9 209 yX3_bestSet, Cond.instanceMethod yX3_bestSet, Cond.selects RX3 yX3_bestSet yX3_bestSet, Cond.initialized RX3, Cond.code yX3_bestSet cX3_bestSet 7 (some .int), Cond.methodLink RX3 35 Lib.Math.min.name, Cond.static Lib.Math.min.name, Cond.initialized "java/lang/Math", Cond.code Lib.Math.min.name Lib.Math.min.code 2 (some .int), Cond.fieldLink RX3 31 "CoastWatch$Hides" "scores" "[J", Cond.fieldLink RX3 11 "CoastWatch$Hides" "size" "I", Cond.fieldLink RX3 25 "CoastWatch$Hides" "guess" "[I", Cond.constantLong RX3 41 (8192), Cond.fieldLink RX3 22 "CoastWatch$Hides" "cost" "[I", Cond.methodLink RX3 43 Lib.MathLoose.max_long.x, Cond.static Lib.MathLoose.max_long.x, Cond.code Lib.MathLoose.max_long.x Lib.MathLoose.max_long.code 4 (some .long)]
def wsX9_best_r2 : List Cond := [Cond.constantLong RX3 47 (8191)]
def wsX9_best : List Cond := .code yX9_best cX9_best 2 (some .int) :: ((wsX9_best_r1 ++ wsX9_best_r2) ++ wsX90 ++ wsX30)
def wsX9_isPart : List Cond := .code yX9_isPart cX9_isPart 1 (some .boolean) :: ([])
def wsX9_commonDivisor : List Cond := .code yX9_commonDivisor cX9_commonDivisor 7 (some .long) :: ([])
def wsX9_lowest : List Cond := .code yX9_lowest cX9_lowest 7 (some .long) :: ([.methodLink RX9 305 yX9_commonDivisor, .static yX9_commonDivisor, .initialized RX9, .code yX9_commonDivisor cX9_commonDivisor 7 (some .long)])
def wsX9_belief_r1 : List Cond := [Cond.fieldLink RX9 74 "CoastWatch" "words" "LCoastWatch$Words;", Cond.methodLink RX9 92 yX9_isCove, Cond.static yX9_isCove, Cond.initialized RX9, Cond.code yX9_isCove cX9_isCove 1 (some .boolean), Cond.methodLink RX9 96 yX9_refuse, Cond.instanceMethod yX9_refuse, Cond.selects RX9 yX9_refuse yX9_refuse, Cond.code yX9_refuse cX9_refuse 3 (some .int), Cond.fieldLink RX9 22 "CoastWatch" "refusals" "[I", Cond.methodLink RX9 212 yX9_isPart, Cond.static yX9_isPart, Cond.code yX9_isPart cX9_isPart 1 (some .boolean), Cond.methodLink RX9 215 yX8_doubtAbove, Cond.instanceMethod yX8_doubtAbove, Cond.selects RX8 yX8_doubtAbove yX8_doubtAbove, Cond.initialized RX8, Cond.code yX8_doubtAbove cX8_doubtAbove 6 (some .long), Cond.fieldLink RX8 9 "CoastWatch$Words" "size" "I", Cond.fieldLink RX8 28 "CoastWatch$Words" "wrong" "[I", Cond.fieldLink RX8 15 "CoastWatch$Words" "informer" "[I", Cond.methodLink RX8 31 yX8_names, Cond.instanceMethod yX8_names, Cond.selects RX8 yX8_names yX8_names]
def wsX9_belief_r2 : List Cond := [Cond.code yX8_names cX8_names 4 (some .boolean), Cond.fieldLink RX8 19 "CoastWatch$Words" "night" "[I", Cond.fieldLink RX8 22 "CoastWatch$Words" "cove" "[I", Cond.methodLink RX9 219 yX8_doubtBelow, Cond.instanceMethod yX8_doubtBelow, Cond.selects RX8 yX8_doubtBelow yX8_doubtBelow, Cond.code yX8_doubtBelow cX8_doubtBelow 6 (some .long), Cond.methodLink RX8 35 yX8_provedOf, Cond.instanceMethod yX8_provedOf, Cond.selects RX8 yX8_provedOf yX8_provedOf, Cond.code yX8_provedOf cX8_provedOf 2 (some .int), Cond.fieldLink RX8 25 "CoastWatch$Words" "right" "[I", Cond.methodLink RX9 222 yX9_lowest, Cond.static yX9_lowest, Cond.code yX9_lowest cX9_lowest 7 (some .long), Cond.methodLink RX9 305 yX9_commonDivisor, Cond.static yX9_commonDivisor, Cond.code yX9_commonDivisor cX9_commonDivisor 7 (some .long)]
def wsX9_belief : List Cond := .code yX9_belief cX9_belief 8 (some .long) :: ((wsX9_belief_r1 ++ wsX9_belief_r2) ++ wsX90 ++ wsX80)
def wsX9_weight_r1 : List Cond := [Cond.fieldLink RX9 74 "CoastWatch" "words" "LCoastWatch$Words;", Cond.fieldLink RX9 226 "CoastWatch$Words" "right" "[I", Cond.methodLink RX9 177 yX9_isInformer, Cond.static yX9_isInformer, Cond.initialized RX9, Cond.code yX9_isInformer cX9_isInformer 1 (some .boolean), Cond.methodLink RX9 96 yX9_refuse, Cond.instanceMethod yX9_refuse, Cond.selects RX9 yX9_refuse yX9_refuse, Cond.code yX9_refuse cX9_refuse 3 (some .int), Cond.fieldLink RX9 22 "CoastWatch" "refusals" "[I", Cond.methodLink RX9 212 yX9_isPart, Cond.static yX9_isPart, Cond.code yX9_isPart cX9_isPart 1 (some .boolean), Cond.methodLink RX9 229 yX8_provedOf, Cond.instanceMethod yX8_provedOf, Cond.selects RX8 yX8_provedOf yX8_provedOf, Cond.initialized RX8, Cond.code yX8_provedOf cX8_provedOf 2 (some .int), Cond.fieldLink RX8 25 "CoastWatch$Words" "right" "[I", Cond.fieldLink RX8 28 "CoastWatch$Words" "wrong" "[I", Cond.methodLink RX9 222 yX9_lowest, Cond.static yX9_lowest, Cond.code yX9_lowest cX9_lowest 7 (some .long)]
def wsX9_weight_r2 : List Cond := [Cond.methodLink RX9 305 yX9_commonDivisor, Cond.static yX9_commonDivisor, Cond.code yX9_commonDivisor cX9_commonDivisor 7 (some .long)]
def wsX9_weight : List Cond := .code yX9_weight cX9_weight 3 (some .int) :: ((wsX9_weight_r1 ++ wsX9_weight_r2) ++ wsX90 ++ wsX80)
def wsX9_gameRefusal : List Cond := .code yX9_gameRefusal cX9_gameRefusal 3 (some .int) :: ([.methodLink RX9 212 yX9_isPart, .static yX9_isPart, .initialized RX9, .code yX9_isPart cX9_isPart 1 (some .boolean)])
def wsX9_value_r1 : List Cond := [Cond.constantLong RX9 235 (4000000000000000000), Cond.fieldLink RX9 88 "CoastWatch" "game" "LCoastWatch$Game;", Cond.fieldLink RX9 39 "CoastWatch" "coves" "LCoastWatch$Coves;", Cond.fieldLink RX9 103 "CoastWatch$Coves" "worth" "[I", Cond.fieldLink RX9 241 "CoastWatch$Game" "above" "J", Cond.fieldLink RX9 245 "CoastWatch$Game" "below" "J", Cond.methodLink RX9 232 yX9_gameRefusal, Cond.static yX9_gameRefusal, Cond.initialized RX9, Cond.code yX9_gameRefusal cX9_gameRefusal 3 (some .int), Cond.methodLink RX9 212 yX9_isPart, Cond.static yX9_isPart, Cond.code yX9_isPart cX9_isPart 1 (some .boolean), Cond.methodLink RX9 96 yX9_refuse, Cond.instanceMethod yX9_refuse, Cond.selects RX9 yX9_refuse yX9_refuse, Cond.code yX9_refuse cX9_refuse 3 (some .int), Cond.fieldLink RX9 22 "CoastWatch" "refusals" "[I", Cond.methodLink RX9 237 yX2_solve, Cond.instanceMethod yX2_solve, Cond.selects RX2 yX2_solve yX2_solve, Cond.initialized RX2, Cond.code yX2_solve cX2_solve 13 none, Cond.fieldLink RX2 9 "CoastWatch$Game" "worths" "[I"]
def wsX9_value_r2 : List Cond := [Cond.fieldLink RX2 15 "CoastWatch$Game" "above" "J", Cond.fieldLink RX2 19 "CoastWatch$Game" "below" "J", Cond.methodLink RX2 22 yX2_sortDown, Cond.instanceMethod yX2_sortDown, Cond.selects RX2 yX2_sortDown yX2_sortDown, Cond.code yX2_sortDown cX2_sortDown 5 none, Cond.methodLink RX9 222 yX9_lowest, Cond.static yX9_lowest, Cond.code yX9_lowest cX9_lowest 7 (some .long), Cond.methodLink RX9 305 yX9_commonDivisor, Cond.static yX9_commonDivisor, Cond.code yX9_commonDivisor cX9_commonDivisor 7 (some .long)]
def wsX9_value : List Cond := .code yX9_value cX9_value 5 (some .long) :: ((wsX9_value_r1 ++ wsX9_value_r2) ++ wsX90 ++ wsX10 ++ wsX20)
def wsX9_chance_r1 : List Cond := [Cond.constantLong RX9 235 (4000000000000000000), Cond.fieldLink RX9 88 "CoastWatch" "game" "LCoastWatch$Game;", Cond.fieldLink RX9 39 "CoastWatch" "coves" "LCoastWatch$Coves;", Cond.fieldLink RX9 103 "CoastWatch$Coves" "worth" "[I", Cond.fieldLink RX9 245 "CoastWatch$Game" "below" "J", Cond.fieldLink RX9 241 "CoastWatch$Game" "above" "J", Cond.methodLink RX9 92 yX9_isCove, Cond.static yX9_isCove, Cond.initialized RX9, Cond.code yX9_isCove cX9_isCove 1 (some .boolean), Cond.methodLink RX9 232 yX9_gameRefusal, Cond.static yX9_gameRefusal, Cond.code yX9_gameRefusal cX9_gameRefusal 3 (some .int), Cond.methodLink RX9 212 yX9_isPart, Cond.static yX9_isPart, Cond.code yX9_isPart cX9_isPart 1 (some .boolean), Cond.methodLink RX9 96 yX9_refuse, Cond.instanceMethod yX9_refuse, Cond.selects RX9 yX9_refuse yX9_refuse, Cond.code yX9_refuse cX9_refuse 3 (some .int), Cond.fieldLink RX9 22 "CoastWatch" "refusals" "[I", Cond.methodLink RX9 237 yX2_solve, Cond.instanceMethod yX2_solve, Cond.selects RX2 yX2_solve yX2_solve]
def wsX9_chance_r2 : List Cond := [Cond.initialized RX2, Cond.code yX2_solve cX2_solve 13 none, Cond.fieldLink RX2 9 "CoastWatch$Game" "worths" "[I", Cond.fieldLink RX2 15 "CoastWatch$Game" "above" "J", Cond.fieldLink RX2 19 "CoastWatch$Game" "below" "J", Cond.methodLink RX2 22 yX2_sortDown, Cond.instanceMethod yX2_sortDown, Cond.selects RX2 yX2_sortDown yX2_sortDown, Cond.code yX2_sortDown cX2_sortDown 5 none, Cond.methodLink RX9 222 yX9_lowest, Cond.static yX9_lowest, Cond.code yX9_lowest cX9_lowest 7 (some .long), Cond.methodLink RX9 305 yX9_commonDivisor, Cond.static yX9_commonDivisor, Cond.code yX9_commonDivisor cX9_commonDivisor 7 (some .long)]
def wsX9_chance : List Cond := .code yX9_chance cX9_chance 10 (some .long) :: ((wsX9_chance_r1 ++ wsX9_chance_r2) ++ wsX90 ++ wsX10 ++ wsX20)
def wsX9_isSeason : List Cond := .code yX9_isSeason cX9_isSeason 1 (some .boolean) :: ([])
def wsX9_used : List Cond := .code yX9_used cX9_used 5 (some .int) :: ([.constant RX9 251 (100000), .fieldLink RX9 81 "CoastWatch" "seasons" "LCoastWatch$Seasons;", .fieldLink RX9 252 "CoastWatch$Seasons" "least" "[I", .fieldLink RX9 255 "CoastWatch$Seasons" "most" "[I", .fieldLink RX9 258 "CoastWatch$Seasons" "byLaw" "[I", .methodLink RX9 248 yX9_isSeason, .static yX9_isSeason, .initialized RX9, .code yX9_isSeason cX9_isSeason 1 (some .boolean), .methodLink RX9 96 yX9_refuse, .instanceMethod yX9_refuse, .selects RX9 yX9_refuse yX9_refuse, .code yX9_refuse cX9_refuse 3 (some .int), .fieldLink RX9 22 "CoastWatch" "refusals" "[I"] ++ wsX90 ++ wsX60)
def wsX9_landed_r1 : List Cond := [Cond.fieldLink RX9 81 "CoastWatch" "seasons" "LCoastWatch$Seasons;", Cond.fieldLink RX9 252 "CoastWatch$Seasons" "least" "[I", Cond.fieldLink RX9 60 "CoastWatch" "lots" "LCoastWatch$Lots;", Cond.fieldLink RX9 255 "CoastWatch$Seasons" "most" "[I", Cond.methodLink RX9 248 yX9_isSeason, Cond.static yX9_isSeason, Cond.initialized RX9, Cond.code yX9_isSeason cX9_isSeason 1 (some .boolean), Cond.methodLink RX9 96 yX9_refuse, Cond.instanceMethod yX9_refuse, Cond.selects RX9 yX9_refuse yX9_refuse, Cond.code yX9_refuse cX9_refuse 3 (some .int), Cond.fieldLink RX9 22 "CoastWatch" "refusals" "[I", Cond.methodLink RX9 261 yX5_seizedIn, Cond.instanceMethod yX5_seizedIn, Cond.selects RX5 yX5_seizedIn yX5_seizedIn, Cond.initialized RX5, Cond.code yX5_seizedIn cX5_seizedIn 4 (some .int), Cond.fieldLink RX5 9 "CoastWatch$Lots" "size" "I", Cond.fieldLink RX5 22 "CoastWatch$Lots" "night" "[I", Cond.fieldLink RX5 28 "CoastWatch$Lots" "place" "[I", Cond.fieldLink RX5 19 "CoastWatch$Lots" "casks" "[I", Cond.methodLink RX9 264 yX6_landedOf, Cond.instanceMethod yX6_landedOf]
def wsX9_landed_r2 : List Cond := [Cond.selects RX6 yX6_landedOf yX6_landedOf, Cond.initialized RX6, Cond.code yX6_landedOf cX6_landedOf 4 (some .int), Cond.fieldLink RX6 18 "CoastWatch$Seasons" "byLaw" "[I", Cond.methodLink RX6 21 Lib.Math.max.name, Cond.static Lib.Math.max.name, Cond.initialized "java/lang/Math", Cond.code Lib.Math.max.name Lib.Math.max.code 2 (some .int), Cond.methodLink RX9 267 yX5_heldIn, Cond.instanceMethod yX5_heldIn, Cond.selects RX5 yX5_heldIn yX5_heldIn, Cond.code yX5_heldIn cX5_heldIn 4 (some .int)]
def wsX9_landed : List Cond := .code yX9_landed cX9_landed 3 (some .int) :: ((wsX9_landed_r1 ++ wsX9_landed_r2) ++ wsX90 ++ wsX60 ++ wsX50)
def wsX9_lotOf : List Cond := .code yX9_lotOf cX9_lotOf 3 (some .int) :: ([.fieldLink RX9 60 "CoastWatch" "lots" "LCoastWatch$Lots;", .fieldLink RX9 185 "CoastWatch$Lots" "size" "I", .fieldLink RX9 270 "CoastWatch$Lots" "boat" "[I", .fieldLink RX9 199 "CoastWatch$Lots" "casks" "[I", .fieldLink RX9 273 "CoastWatch$Lots" "night" "[I", .fieldLink RX9 275 "CoastWatch$Lots" "cove" "[I", .fieldLink RX9 196 "CoastWatch$Lots" "place" "[I", .fieldLink RX9 278 "CoastWatch$Lots" "hide" "[I", .methodLink RX9 96 yX9_refuse, .instanceMethod yX9_refuse, .selects RX9 yX9_refuse yX9_refuse, .initialized RX9, .code yX9_refuse cX9_refuse 3 (some .int), .fieldLink RX9 22 "CoastWatch" "refusals" "[I"] ++ wsX90 ++ wsX50)
def wsX9_boatOf : List Cond := .code yX9_boatOf cX9_boatOf 3 (some .int) :: ([.fieldLink RX9 46 "CoastWatch" "boats" "LCoastWatch$Boats;", .fieldLink RX9 281 "CoastWatch$Boats" "fear" "[[I", .fieldLink RX9 158 "CoastWatch$Boats" "casks" "[I", .fieldLink RX9 284 "CoastWatch$Boats" "escapes" "[I", .fieldLink RX9 287 "CoastWatch$Boats" "returns" "[I", .methodLink RX9 152 yX9_isBoat, .instanceMethod yX9_isBoat, .selects RX9 yX9_isBoat yX9_isBoat, .initialized RX9, .code yX9_isBoat cX9_isBoat 2 (some .boolean), .fieldLink RX9 145 "CoastWatch$Boats" "size" "I", .methodLink RX9 96 yX9_refuse, .instanceMethod yX9_refuse, .selects RX9 yX9_refuse yX9_refuse, .code yX9_refuse cX9_refuse 3 (some .int), .fieldLink RX9 22 "CoastWatch" "refusals" "[I"] ++ wsX90 ++ wsX00)
def wsX9_hideOf : List Cond := .code yX9_hideOf cX9_hideOf 3 (some .int) :: ([.fieldLink RX9 53 "CoastWatch" "hides" "LCoastWatch$Hides;", .fieldLink RX9 203 "CoastWatch$Hides" "lying" "[I", .fieldLink RX9 206 "CoastWatch$Hides" "guess" "[I", .fieldLink RX9 290 "CoastWatch$Hides" "cove" "[I", .methodLink RX9 189 yX9_isHide, .instanceMethod yX9_isHide, .selects RX9 yX9_isHide yX9_isHide, .initialized RX9, .code yX9_isHide cX9_isHide 2 (some .boolean), .fieldLink RX9 161 "CoastWatch$Hides" "size" "I", .methodLink RX9 96 yX9_refuse, .instanceMethod yX9_refuse, .selects RX9 yX9_refuse yX9_refuse, .code yX9_refuse cX9_refuse 3 (some .int), .fieldLink RX9 22 "CoastWatch" "refusals" "[I"] ++ wsX90 ++ wsX30)
def wsX9_watched : List Cond := .code yX9_watched cX9_watched 2 (some .int) :: ([.fieldLink RX9 39 "CoastWatch" "coves" "LCoastWatch$Coves;", .fieldLink RX9 291 "CoastWatch$Coves" "watchers" "[I", .methodLink RX9 92 yX9_isCove, .static yX9_isCove, .initialized RX9, .code yX9_isCove cX9_isCove 1 (some .boolean), .methodLink RX9 96 yX9_refuse, .instanceMethod yX9_refuse, .selects RX9 yX9_refuse yX9_refuse, .code yX9_refuse cX9_refuse 3 (some .int), .fieldLink RX9 22 "CoastWatch" "refusals" "[I"] ++ wsX90 ++ wsX10)
def wsX9_coins : List Cond := .code yX9_coins cX9_coins 2 (some .int) :: ([.fieldLink RX9 26 "CoastWatch" "purses" "[I", .methodLink RX9 96 yX9_refuse, .instanceMethod yX9_refuse, .selects RX9 yX9_refuse yX9_refuse, .initialized RX9, .code yX9_refuse cX9_refuse 3 (some .int), .fieldLink RX9 22 "CoastWatch" "refusals" "[I"] ++ wsX90)
def wsX9_count_r1 : List Cond := [Cond.fieldLink RX9 7 "CoastWatch" "night" "I", Cond.fieldLink RX9 46 "CoastWatch" "boats" "LCoastWatch$Boats;", Cond.fieldLink RX9 145 "CoastWatch$Boats" "size" "I", Cond.fieldLink RX9 53 "CoastWatch" "hides" "LCoastWatch$Hides;", Cond.fieldLink RX9 161 "CoastWatch$Hides" "size" "I", Cond.fieldLink RX9 60 "CoastWatch" "lots" "LCoastWatch$Lots;", Cond.fieldLink RX9 185 "CoastWatch$Lots" "size" "I", Cond.fieldLink RX9 74 "CoastWatch" "words" "LCoastWatch$Words;", Cond.fieldLink RX9 180 "CoastWatch$Words" "size" "I", Cond.fieldLink RX9 67 "CoastWatch" "laws" "LCoastWatch$Laws;", Cond.fieldLink RX9 175 "CoastWatch$Laws" "size" "I", Cond.fieldLink RX9 13 "CoastWatch" "seed" "I", Cond.constant RX9 304 (65535), Cond.fieldLink RX9 22 "CoastWatch" "refusals" "[I", Cond.methodLink RX9 294 yX8_rightOnes, Cond.instanceMethod yX8_rightOnes, Cond.selects RX8 yX8_rightOnes yX8_rightOnes, Cond.initialized RX8, Cond.code yX8_rightOnes cX8_rightOnes 3 (some .int), Cond.fieldLink RX8 25 "CoastWatch$Words" "right" "[I", Cond.methodLink RX9 298 yX8_wrongOnes, Cond.instanceMethod yX8_wrongOnes, Cond.selects RX8 yX8_wrongOnes yX8_wrongOnes, Cond.code yX8_wrongOnes cX8_wrongOnes 3 (some .int)]
def wsX9_count_r2 : List Cond := [Cond.fieldLink RX8 28 "CoastWatch$Words" "wrong" "[I", Cond.methodLink RX9 301 yX9_light, Cond.instanceMethod yX9_light, Cond.selects RX9 yX9_light yX9_light, Cond.initialized RX9, Cond.code yX9_light cX9_light 2 (some .int)]
def wsX9_count : List Cond := .code yX9_count cX9_count 2 (some .int) :: ((wsX9_count_r1 ++ wsX9_count_r2) ++ wsX90 ++ wsX00 ++ wsX30 ++ wsX50 ++ wsX80 ++ wsX40)
def wsX10_init_r1 : List Cond := [Cond.methodLink RX10 1 objectInit, Cond.instanceMethod objectInit, Cond.code objectInit ⟨#[0xb1]⟩ 1 none, Cond.fieldLink RX10 7 "CoastWatchModel" "seed" "I", Cond.arrayClass .int, Cond.fieldLink RX10 13 "CoastWatchModel" "depth" "[I", Cond.fieldLink RX10 17 "CoastWatchModel" "worth" "[I", Cond.fieldLink RX10 20 "CoastWatchModel" "rowSize" "[I", Cond.fieldLink RX10 23 "CoastWatchModel" "row" "[I", Cond.fieldLink RX10 26 "CoastWatchModel" "led" "[I", Cond.fieldLink RX10 29 "CoastWatchModel" "draught" "[I", Cond.fieldLink RX10 32 "CoastWatchModel" "hold" "[I", Cond.fieldLink RX10 35 "CoastWatchModel" "strength" "[I", Cond.fieldLink RX10 38 "CoastWatchModel" "bold" "[I", Cond.fieldLink RX10 41 "CoastWatchModel" "aboard" "[I", Cond.fieldLink RX10 44 "CoastWatchModel" "away" "[I", Cond.fieldLink RX10 47 "CoastWatchModel" "home" "[I", Cond.fieldLink RX10 50 "CoastWatchModel" "fear" "[I", Cond.fieldLink RX10 53 "CoastWatchModel" "hideCove" "[I", Cond.fieldLink RX10 56 "CoastWatchModel" "hideRoom" "[I", Cond.fieldLink RX10 59 "CoastWatchModel" "hideCost" "[I", Cond.fieldLink RX10 62 "CoastWatchModel" "guess" "[I", Cond.fieldLink RX10 65 "CoastWatchModel" "lotBoat" "[I", Cond.fieldLink RX10 68 "CoastWatchModel" "lotCasks" "[I"]
def wsX10_init_r2 : List Cond := [Cond.fieldLink RX10 71 "CoastWatchModel" "lotNight" "[I", Cond.fieldLink RX10 74 "CoastWatchModel" "lotCove" "[I", Cond.fieldLink RX10 77 "CoastWatchModel" "lotLies" "[I", Cond.fieldLink RX10 80 "CoastWatchModel" "lotHide" "[I", Cond.fieldLink RX10 83 "CoastWatchModel" "standing" "[I", Cond.fieldLink RX10 86 "CoastWatchModel" "shares" "[I", Cond.arrayClass .boolean, Cond.fieldLink RX10 89 "CoastWatchModel" "bribed" "[Z", Cond.fieldLink RX10 93 "CoastWatchModel" "there" "[I", Cond.fieldLink RX10 96 "CoastWatchModel" "came" "[Z", Cond.fieldLink RX10 99 "CoastWatchModel" "lawCrew" "[I", Cond.fieldLink RX10 102 "CoastWatchModel" "lawInformer" "[I", Cond.fieldLink RX10 105 "CoastWatchModel" "lawNight" "[I", Cond.fieldLink RX10 108 "CoastWatchModel" "wordOf" "[I", Cond.fieldLink RX10 111 "CoastWatchModel" "wordNight" "[I", Cond.fieldLink RX10 114 "CoastWatchModel" "wordCove" "[I", Cond.fieldLink RX10 117 "CoastWatchModel" "right" "[I", Cond.fieldLink RX10 120 "CoastWatchModel" "wrong" "[I", Cond.fieldLink RX10 123 "CoastWatchModel" "usedLeast" "[I", Cond.fieldLink RX10 126 "CoastWatchModel" "usedMost" "[I", Cond.fieldLink RX10 129 "CoastWatchModel" "usedLaw" "[I", Cond.fieldLink RX10 132 "CoastWatchModel" "coins" "[I", Cond.fieldLink RX10 135 "CoastWatchModel" "refused" "[I", Cond.fieldLink RX10 138 "CoastWatchModel" "between" "[I"]
def wsX10_init_r3 : List Cond := [Cond.fieldLink RX10 141 "CoastWatchModel" "sorted" "[I"]
def wsX10_init : List Cond := .code yX10_init cX10_init 1 none :: ((wsX10_init_r1 ++ (wsX10_init_r2 ++ wsX10_init_r3)) ++ wsX100)
def wsX10_in : List Cond := .code yX10_in cX10_in 3 (some .boolean) :: ([])
def wsX10_refuse : List Cond := .code yX10_refuse cX10_refuse 2 (some .int) :: ([.fieldLink RX10 135 "CoastWatchModel" "refused" "[I"] ++ wsX100)
def wsX10_isCove : List Cond := .code yX10_isCove cX10_isCove 1 (some .boolean) :: ([.methodLink RX10 144 yX10_in, .static yX10_in, .initialized RX10, .code yX10_in cX10_in 3 (some .boolean)])
def wsX10_seed : List Cond := .code yX10_seed cX10_seed 3 (some .int) :: ([.fieldLink RX10 7 "CoastWatchModel" "seed" "I"] ++ wsX100)
def wsX10_cove : List Cond := .code yX10_cove cX10_cove 4 (some .int) :: ([.fieldLink RX10 13 "CoastWatchModel" "depth" "[I", .fieldLink RX10 17 "CoastWatchModel" "worth" "[I", .methodLink RX10 148 yX10_isCove, .static yX10_isCove, .initialized RX10, .code yX10_isCove cX10_isCove 1 (some .boolean), .methodLink RX10 144 yX10_in, .static yX10_in, .code yX10_in cX10_in 3 (some .boolean), .methodLink RX10 152 yX10_refuse, .instanceMethod yX10_refuse, .selects RX10 yX10_refuse yX10_refuse, .code yX10_refuse cX10_refuse 2 (some .int), .fieldLink RX10 135 "CoastWatchModel" "refused" "[I"] ++ wsX100)
def wsX10_row : List Cond := .code yX10_row cX10_row 4 (some .int) :: ([.fieldLink RX10 20 "CoastWatchModel" "rowSize" "[I", .fieldLink RX10 23 "CoastWatchModel" "row" "[I", .methodLink RX10 144 yX10_in, .static yX10_in, .initialized RX10, .code yX10_in cX10_in 3 (some .boolean), .methodLink RX10 152 yX10_refuse, .instanceMethod yX10_refuse, .selects RX10 yX10_refuse yX10_refuse, .code yX10_refuse cX10_refuse 2 (some .int), .fieldLink RX10 135 "CoastWatchModel" "refused" "[I"] ++ wsX100)
def wsX10_lose : List Cond := .code yX10_lose cX10_lose 3 (some .int) :: ([.fieldLink RX10 20 "CoastWatchModel" "rowSize" "[I", .methodLink RX10 144 yX10_in, .static yX10_in, .initialized RX10, .code yX10_in cX10_in 3 (some .boolean), .methodLink RX10 152 yX10_refuse, .instanceMethod yX10_refuse, .selects RX10 yX10_refuse yX10_refuse, .code yX10_refuse cX10_refuse 2 (some .int), .fieldLink RX10 135 "CoastWatchModel" "refused" "[I"] ++ wsX100)
def wsX10_put : List Cond := .code yX10_put cX10_put 5 (some .int) :: ([.fieldLink RX10 20 "CoastWatchModel" "rowSize" "[I", .fieldLink RX10 23 "CoastWatchModel" "row" "[I", .methodLink RX10 144 yX10_in, .static yX10_in, .initialized RX10, .code yX10_in cX10_in 3 (some .boolean), .methodLink RX10 152 yX10_refuse, .instanceMethod yX10_refuse, .selects RX10 yX10_refuse yX10_refuse, .code yX10_refuse cX10_refuse 2 (some .int), .fieldLink RX10 135 "CoastWatchModel" "refused" "[I"] ++ wsX100)
def wsX10_copy : List Cond := .code yX10_copy cX10_copy 7 (some .int) :: ([.fieldLink RX10 20 "CoastWatchModel" "rowSize" "[I", .fieldLink RX10 138 "CoastWatchModel" "between" "[I", .fieldLink RX10 23 "CoastWatchModel" "row" "[I", .methodLink RX10 144 yX10_in, .static yX10_in, .initialized RX10, .code yX10_in cX10_in 3 (some .boolean), .methodLink RX10 152 yX10_refuse, .instanceMethod yX10_refuse, .selects RX10 yX10_refuse yX10_refuse, .code yX10_refuse cX10_refuse 2 (some .int), .fieldLink RX10 135 "CoastWatchModel" "refused" "[I"] ++ wsX100)
def wsX10_lead : List Cond := .code yX10_lead cX10_lead 4 (some .int) :: ([.fieldLink RX10 135 "CoastWatchModel" "refused" "[I", .constant RX10 156 (2000000001), .fieldLink RX10 26 "CoastWatchModel" "led" "[I", .methodLink RX10 148 yX10_isCove, .static yX10_isCove, .initialized RX10, .code yX10_isCove cX10_isCove 1 (some .boolean), .methodLink RX10 144 yX10_in, .static yX10_in, .code yX10_in cX10_in 3 (some .boolean)] ++ wsX100)
def wsX10_tideAt : List Cond := .code yX10_tideAt cX10_tideAt 5 (some .int) :: ([.fieldLink RX10 26 "CoastWatchModel" "led" "[I", .fieldLink RX10 20 "CoastWatchModel" "rowSize" "[I", .fieldLink RX10 23 "CoastWatchModel" "row" "[I"] ++ wsX100)
def wsX10_tide : List Cond := .code yX10_tide cX10_tide 3 (some .int) :: ([.methodLink RX10 148 yX10_isCove, .static yX10_isCove, .initialized RX10, .code yX10_isCove cX10_isCove 1 (some .boolean), .methodLink RX10 144 yX10_in, .static yX10_in, .code yX10_in cX10_in 3 (some .boolean), .methodLink RX10 152 yX10_refuse, .instanceMethod yX10_refuse, .selects RX10 yX10_refuse yX10_refuse, .code yX10_refuse cX10_refuse 2 (some .int), .fieldLink RX10 135 "CoastWatchModel" "refused" "[I", .methodLink RX10 157 yX10_tideAt, .instanceMethod yX10_tideAt, .selects RX10 yX10_tideAt yX10_tideAt, .code yX10_tideAt cX10_tideAt 5 (some .int), .fieldLink RX10 26 "CoastWatchModel" "led" "[I", .fieldLink RX10 20 "CoastWatchModel" "rowSize" "[I", .fieldLink RX10 23 "CoastWatchModel" "row" "[I"] ++ wsX100)
def wsX10_lightAt : List Cond := .code yX10_lightAt cX10_lightAt 2 (some .int) :: ([])
def wsX10_boat : List Cond := .code yX10_boat cX10_boat 5 (some .int) :: ([.fieldLink RX10 161 "CoastWatchModel" "boats" "I", .fieldLink RX10 29 "CoastWatchModel" "draught" "[I", .fieldLink RX10 32 "CoastWatchModel" "hold" "[I", .fieldLink RX10 35 "CoastWatchModel" "strength" "[I", .fieldLink RX10 38 "CoastWatchModel" "bold" "[I", .methodLink RX10 152 yX10_refuse, .instanceMethod yX10_refuse, .selects RX10 yX10_refuse yX10_refuse, .initialized RX10, .code yX10_refuse cX10_refuse 2 (some .int), .fieldLink RX10 135 "CoastWatchModel" "refused" "[I"] ++ wsX100)
def wsX10_load : List Cond := .code yX10_load cX10_load 3 (some .int) :: ([.fieldLink RX10 161 "CoastWatchModel" "boats" "I", .fieldLink RX10 32 "CoastWatchModel" "hold" "[I", .fieldLink RX10 41 "CoastWatchModel" "aboard" "[I", .methodLink RX10 144 yX10_in, .static yX10_in, .initialized RX10, .code yX10_in cX10_in 3 (some .boolean), .methodLink RX10 152 yX10_refuse, .instanceMethod yX10_refuse, .selects RX10 yX10_refuse yX10_refuse, .code yX10_refuse cX10_refuse 2 (some .int), .fieldLink RX10 135 "CoastWatchModel" "refused" "[I"] ++ wsX100)
def wsX10_hide : List Cond := .code yX10_hide cX10_hide 4 (some .int) :: ([.fieldLink RX10 164 "CoastWatchModel" "hides" "I", .fieldLink RX10 53 "CoastWatchModel" "hideCove" "[I", .fieldLink RX10 56 "CoastWatchModel" "hideRoom" "[I", .fieldLink RX10 59 "CoastWatchModel" "hideCost" "[I", .methodLink RX10 148 yX10_isCove, .static yX10_isCove, .initialized RX10, .code yX10_isCove cX10_isCove 1 (some .boolean), .methodLink RX10 144 yX10_in, .static yX10_in, .code yX10_in cX10_in 3 (some .boolean), .methodLink RX10 152 yX10_refuse, .instanceMethod yX10_refuse, .selects RX10 yX10_refuse yX10_refuse, .code yX10_refuse cX10_refuse 2 (some .int), .fieldLink RX10 135 "CoastWatchModel" "refused" "[I"] ++ wsX100)
def wsX10_stand : List Cond := .code yX10_stand cX10_stand 4 (some .int) :: ([.fieldLink RX10 83 "CoastWatchModel" "standing" "[I", .methodLink RX10 148 yX10_isCove, .static yX10_isCove, .initialized RX10, .code yX10_isCove cX10_isCove 1 (some .boolean), .methodLink RX10 144 yX10_in, .static yX10_in, .code yX10_in cX10_in 3 (some .boolean), .methodLink RX10 152 yX10_refuse, .instanceMethod yX10_refuse, .selects RX10 yX10_refuse yX10_refuse, .code yX10_refuse cX10_refuse 2 (some .int), .fieldLink RX10 135 "CoastWatchModel" "refused" "[I"] ++ wsX100)
def wsX10_bribe : List Cond := .code yX10_bribe cX10_bribe 4 (some .int) :: ([.fieldLink RX10 89 "CoastWatchModel" "bribed" "[Z", .methodLink RX10 148 yX10_isCove, .static yX10_isCove, .initialized RX10, .code yX10_isCove cX10_isCove 1 (some .boolean), .methodLink RX10 144 yX10_in, .static yX10_in, .code yX10_in cX10_in 3 (some .boolean), .methodLink RX10 152 yX10_refuse, .instanceMethod yX10_refuse, .selects RX10 yX10_refuse yX10_refuse, .code yX10_refuse cX10_refuse 2 (some .int), .fieldLink RX10 135 "CoastWatchModel" "refused" "[I"] ++ wsX100)
def wsX10_share : List Cond := .code yX10_share cX10_share 4 (some .int) :: ([.fieldLink RX10 86 "CoastWatchModel" "shares" "[I", .methodLink RX10 148 yX10_isCove, .static yX10_isCove, .initialized RX10, .code yX10_isCove cX10_isCove 1 (some .boolean), .methodLink RX10 144 yX10_in, .static yX10_in, .code yX10_in cX10_in 3 (some .boolean), .methodLink RX10 152 yX10_refuse, .instanceMethod yX10_refuse, .selects RX10 yX10_refuse yX10_refuse, .code yX10_refuse cX10_refuse 2 (some .int), .fieldLink RX10 135 "CoastWatchModel" "refused" "[I"] ++ wsX100)
def wsX10_draws : List Cond := .code yX10_draws cX10_draws 3 (some .int) :: ([.fieldLink RX10 167 "CoastWatchModel" "drawMany" "I", .methodLink RX10 152 yX10_refuse, .instanceMethod yX10_refuse, .selects RX10 yX10_refuse yX10_refuse, .initialized RX10, .code yX10_refuse cX10_refuse 2 (some .int), .fieldLink RX10 135 "CoastWatchModel" "refused" "[I"] ++ wsX100)
def wsX10_price : List Cond := .code yX10_price cX10_price 3 (some .int) :: ([.fieldLink RX10 170 "CoastWatchModel" "price" "I", .methodLink RX10 152 yX10_refuse, .instanceMethod yX10_refuse, .selects RX10 yX10_refuse yX10_refuse, .initialized RX10, .code yX10_refuse cX10_refuse 2 (some .int), .fieldLink RX10 135 "CoastWatchModel" "refused" "[I"] ++ wsX100)
def wsX10_law : List Cond := .code yX10_law cX10_law 4 (some .int) :: ([.fieldLink RX10 173 "CoastWatchModel" "night" "I", .fieldLink RX10 176 "CoastWatchModel" "laws" "I", .fieldLink RX10 99 "CoastWatchModel" "lawCrew" "[I", .fieldLink RX10 102 "CoastWatchModel" "lawInformer" "[I", .fieldLink RX10 105 "CoastWatchModel" "lawNight" "[I", .methodLink RX10 152 yX10_refuse, .instanceMethod yX10_refuse, .selects RX10 yX10_refuse yX10_refuse, .initialized RX10, .code yX10_refuse cX10_refuse 2 (some .int), .fieldLink RX10 135 "CoastWatchModel" "refused" "[I"] ++ wsX100)
def wsX10_word : List Cond := .code yX10_word cX10_word 5 (some .int) :: ([.fieldLink RX10 173 "CoastWatchModel" "night" "I", .fieldLink RX10 179 "CoastWatchModel" "words" "I", .fieldLink RX10 108 "CoastWatchModel" "wordOf" "[I", .fieldLink RX10 111 "CoastWatchModel" "wordNight" "[I", .fieldLink RX10 114 "CoastWatchModel" "wordCove" "[I", .methodLink RX10 144 yX10_in, .static yX10_in, .initialized RX10, .code yX10_in cX10_in 3 (some .boolean), .methodLink RX10 148 yX10_isCove, .static yX10_isCove, .code yX10_isCove cX10_isCove 1 (some .boolean), .methodLink RX10 152 yX10_refuse, .instanceMethod yX10_refuse, .selects RX10 yX10_refuse yX10_refuse, .code yX10_refuse cX10_refuse 2 (some .int), .fieldLink RX10 135 "CoastWatchModel" "refused" "[I"] ++ wsX100)
def wsX10_drawBelow : List Cond := .code yX10_drawBelow cX10_drawBelow 2 (some .int) :: ([.fieldLink RX10 7 "CoastWatchModel" "seed" "I", .constant RX10 182 (1103515245)] ++ wsX100)
def wsX10_watch : List Cond := .code yX10_watch cX10_watch 6 none :: ([.fieldLink RX10 93 "CoastWatchModel" "there" "[I", .fieldLink RX10 83 "CoastWatchModel" "standing" "[I", .fieldLink RX10 86 "CoastWatchModel" "shares" "[I", .fieldLink RX10 167 "CoastWatchModel" "drawMany" "I", .methodLink RX10 183 yX10_drawBelow, .instanceMethod yX10_drawBelow, .selects RX10 yX10_drawBelow yX10_drawBelow, .initialized RX10, .code yX10_drawBelow cX10_drawBelow 2 (some .int), .fieldLink RX10 7 "CoastWatchModel" "seed" "I", .constant RX10 182 (1103515245)] ++ wsX100)
def wsX10_counting : List Cond := .code yX10_counting cX10_counting 2 (some .int) :: ([.fieldLink RX10 89 "CoastWatchModel" "bribed" "[Z", .fieldLink RX10 93 "CoastWatchModel" "there" "[I"] ++ wsX100)
def wsX10_choice : List Cond := .code yX10_choice cX10_choice 5 (some .int) :: ([.fieldLink RX10 173 "CoastWatchModel" "night" "I", .fieldLink RX10 38 "CoastWatchModel" "bold" "[I", .fieldLink RX10 13 "CoastWatchModel" "depth" "[I", .fieldLink RX10 29 "CoastWatchModel" "draught" "[I", .fieldLink RX10 50 "CoastWatchModel" "fear" "[I", .fieldLink RX10 17 "CoastWatchModel" "worth" "[I", .methodLink RX10 186 yX10_lightAt, .static yX10_lightAt, .initialized RX10, .code yX10_lightAt cX10_lightAt 2 (some .int), .methodLink RX10 157 yX10_tideAt, .instanceMethod yX10_tideAt, .selects RX10 yX10_tideAt yX10_tideAt, .code yX10_tideAt cX10_tideAt 5 (some .int), .fieldLink RX10 26 "CoastWatchModel" "led" "[I", .fieldLink RX10 20 "CoastWatchModel" "rowSize" "[I", .fieldLink RX10 23 "CoastWatchModel" "row" "[I"] ++ wsX100)
def wsX10_partCasks : List Cond := .code yX10_partCasks cX10_partCasks 7 none :: ([.fieldLink RX10 176 "CoastWatchModel" "laws" "I", .fieldLink RX10 105 "CoastWatchModel" "lawNight" "[I", .fieldLink RX10 173 "CoastWatchModel" "night" "I", .fieldLink RX10 170 "CoastWatchModel" "price" "I", .fieldLink RX10 99 "CoastWatchModel" "lawCrew" "[I", .fieldLink RX10 102 "CoastWatchModel" "lawInformer" "[I", .fieldLink RX10 132 "CoastWatchModel" "coins" "[I"] ++ wsX100)
def wsX10_teller : List Cond := .code yX10_teller cX10_teller 3 (some .int) :: ([.fieldLink RX10 179 "CoastWatchModel" "words" "I", .fieldLink RX10 111 "CoastWatchModel" "wordNight" "[I", .fieldLink RX10 173 "CoastWatchModel" "night" "I", .fieldLink RX10 114 "CoastWatchModel" "wordCove" "[I", .fieldLink RX10 108 "CoastWatchModel" "wordOf" "[I"] ++ wsX100)
def wsX10_liesIn : List Cond := .code yX10_liesIn cX10_liesIn 4 (some .int) :: ([.fieldLink RX10 189 "CoastWatchModel" "lots" "I", .fieldLink RX10 77 "CoastWatchModel" "lotLies" "[I", .fieldLink RX10 80 "CoastWatchModel" "lotHide" "[I", .fieldLink RX10 68 "CoastWatchModel" "lotCasks" "[I"] ++ wsX100)
def wsX10_hideFor : List Cond := .code yX10_hideFor cX10_hideFor 4 (some .int) :: ([.fieldLink RX10 164 "CoastWatchModel" "hides" "I", .fieldLink RX10 53 "CoastWatchModel" "hideCove" "[I", .fieldLink RX10 56 "CoastWatchModel" "hideRoom" "[I", .methodLink RX10 192 yX10_liesIn, .instanceMethod yX10_liesIn, .selects RX10 yX10_liesIn yX10_liesIn, .initialized RX10, .code yX10_liesIn cX10_liesIn 4 (some .int), .fieldLink RX10 189 "CoastWatchModel" "lots" "I", .fieldLink RX10 77 "CoastWatchModel" "lotLies" "[I", .fieldLink RX10 80 "CoastWatchModel" "lotHide" "[I", .fieldLink RX10 68 "CoastWatchModel" "lotCasks" "[I"] ++ wsX100)
def wsX10_lot : List Cond := .code yX10_lot cX10_lot 5 none :: ([.fieldLink RX10 65 "CoastWatchModel" "lotBoat" "[I", .fieldLink RX10 189 "CoastWatchModel" "lots" "I", .fieldLink RX10 68 "CoastWatchModel" "lotCasks" "[I", .fieldLink RX10 41 "CoastWatchModel" "aboard" "[I", .fieldLink RX10 71 "CoastWatchModel" "lotNight" "[I", .fieldLink RX10 173 "CoastWatchModel" "night" "I", .fieldLink RX10 74 "CoastWatchModel" "lotCove" "[I", .fieldLink RX10 77 "CoastWatchModel" "lotLies" "[I", .fieldLink RX10 80 "CoastWatchModel" "lotHide" "[I", .fieldLink RX10 96 "CoastWatchModel" "came" "[Z"] ++ wsX100)
def wsX10_moreFear : List Cond := .code yX10_moreFear cX10_moreFear 5 none :: ([.fieldLink RX10 50 "CoastWatchModel" "fear" "[I"] ++ wsX100)
def wsX10_goes_r1 : List Cond := [Cond.fieldLink RX10 35 "CoastWatchModel" "strength" "[I", Cond.fieldLink RX10 41 "CoastWatchModel" "aboard" "[I", Cond.fieldLink RX10 44 "CoastWatchModel" "away" "[I", Cond.fieldLink RX10 47 "CoastWatchModel" "home" "[I", Cond.fieldLink RX10 93 "CoastWatchModel" "there" "[I", Cond.methodLink RX10 195 yX10_counting, Cond.instanceMethod yX10_counting, Cond.selects RX10 yX10_counting yX10_counting, Cond.initialized RX10, Cond.code yX10_counting cX10_counting 2 (some .int), Cond.fieldLink RX10 89 "CoastWatchModel" "bribed" "[Z", Cond.methodLink RX10 198 yX10_teller, Cond.instanceMethod yX10_teller, Cond.selects RX10 yX10_teller yX10_teller, Cond.code yX10_teller cX10_teller 3 (some .int), Cond.fieldLink RX10 179 "CoastWatchModel" "words" "I", Cond.fieldLink RX10 111 "CoastWatchModel" "wordNight" "[I", Cond.fieldLink RX10 173 "CoastWatchModel" "night" "I", Cond.fieldLink RX10 114 "CoastWatchModel" "wordCove" "[I", Cond.fieldLink RX10 108 "CoastWatchModel" "wordOf" "[I", Cond.methodLink RX10 201 yX10_partCasks, Cond.instanceMethod yX10_partCasks, Cond.selects RX10 yX10_partCasks yX10_partCasks, Cond.code yX10_partCasks cX10_partCasks 7 none]
def wsX10_goes_r2 : List Cond := [Cond.fieldLink RX10 176 "CoastWatchModel" "laws" "I", Cond.fieldLink RX10 105 "CoastWatchModel" "lawNight" "[I", Cond.fieldLink RX10 170 "CoastWatchModel" "price" "I", Cond.fieldLink RX10 99 "CoastWatchModel" "lawCrew" "[I", Cond.fieldLink RX10 102 "CoastWatchModel" "lawInformer" "[I", Cond.fieldLink RX10 132 "CoastWatchModel" "coins" "[I", Cond.methodLink RX10 205 yX10_lot, Cond.instanceMethod yX10_lot, Cond.selects RX10 yX10_lot yX10_lot, Cond.code yX10_lot cX10_lot 5 none, Cond.fieldLink RX10 65 "CoastWatchModel" "lotBoat" "[I", Cond.fieldLink RX10 189 "CoastWatchModel" "lots" "I", Cond.fieldLink RX10 68 "CoastWatchModel" "lotCasks" "[I", Cond.fieldLink RX10 71 "CoastWatchModel" "lotNight" "[I", Cond.fieldLink RX10 74 "CoastWatchModel" "lotCove" "[I", Cond.fieldLink RX10 77 "CoastWatchModel" "lotLies" "[I", Cond.fieldLink RX10 80 "CoastWatchModel" "lotHide" "[I", Cond.fieldLink RX10 96 "CoastWatchModel" "came" "[Z", Cond.methodLink RX10 209 yX10_moreFear, Cond.instanceMethod yX10_moreFear, Cond.selects RX10 yX10_moreFear yX10_moreFear, Cond.code yX10_moreFear cX10_moreFear 5 none, Cond.fieldLink RX10 50 "CoastWatchModel" "fear" "[I", Cond.methodLink RX10 213 yX10_hideFor]
def wsX10_goes_r3 : List Cond := [Cond.instanceMethod yX10_hideFor, Cond.selects RX10 yX10_hideFor yX10_hideFor, Cond.code yX10_hideFor cX10_hideFor 4 (some .int), Cond.fieldLink RX10 164 "CoastWatchModel" "hides" "I", Cond.fieldLink RX10 53 "CoastWatchModel" "hideCove" "[I", Cond.fieldLink RX10 56 "CoastWatchModel" "hideRoom" "[I", Cond.methodLink RX10 192 yX10_liesIn, Cond.instanceMethod yX10_liesIn, Cond.selects RX10 yX10_liesIn yX10_liesIn, Cond.code yX10_liesIn cX10_liesIn 4 (some .int)]
def wsX10_goes : List Cond := .code yX10_goes cX10_goes 5 none :: ((wsX10_goes_r1 ++ (wsX10_goes_r2 ++ wsX10_goes_r3)) ++ wsX100)
def wsX10_prove : List Cond := .code yX10_prove cX10_prove 5 none :: ([.fieldLink RX10 179 "CoastWatchModel" "words" "I", .fieldLink RX10 111 "CoastWatchModel" "wordNight" "[I", .fieldLink RX10 173 "CoastWatchModel" "night" "I", .fieldLink RX10 114 "CoastWatchModel" "wordCove" "[I", .fieldLink RX10 117 "CoastWatchModel" "right" "[I", .fieldLink RX10 108 "CoastWatchModel" "wordOf" "[I", .fieldLink RX10 96 "CoastWatchModel" "came" "[Z", .fieldLink RX10 120 "CoastWatchModel" "wrong" "[I", .fieldLink RX10 164 "CoastWatchModel" "hides" "I", .fieldLink RX10 53 "CoastWatchModel" "hideCove" "[I", .fieldLink RX10 62 "CoastWatchModel" "guess" "[I"] ++ wsX100)
def wsX10_pass_r1 : List Cond := [Cond.fieldLink RX10 173 "CoastWatchModel" "night" "I", Cond.fieldLink RX10 96 "CoastWatchModel" "came" "[Z", Cond.fieldLink RX10 161 "CoastWatchModel" "boats" "I", Cond.fieldLink RX10 41 "CoastWatchModel" "aboard" "[I", Cond.fieldLink RX10 189 "CoastWatchModel" "lots" "I", Cond.fieldLink RX10 50 "CoastWatchModel" "fear" "[I", Cond.methodLink RX10 216 yX10_watch, Cond.instanceMethod yX10_watch, Cond.selects RX10 yX10_watch yX10_watch, Cond.initialized RX10, Cond.code yX10_watch cX10_watch 6 none, Cond.fieldLink RX10 93 "CoastWatchModel" "there" "[I", Cond.fieldLink RX10 83 "CoastWatchModel" "standing" "[I", Cond.fieldLink RX10 86 "CoastWatchModel" "shares" "[I", Cond.fieldLink RX10 167 "CoastWatchModel" "drawMany" "I", Cond.methodLink RX10 183 yX10_drawBelow, Cond.instanceMethod yX10_drawBelow, Cond.selects RX10 yX10_drawBelow yX10_drawBelow, Cond.code yX10_drawBelow cX10_drawBelow 2 (some .int), Cond.fieldLink RX10 7 "CoastWatchModel" "seed" "I", Cond.constant RX10 182 (1103515245), Cond.methodLink RX10 219 yX10_choice, Cond.instanceMethod yX10_choice, Cond.selects RX10 yX10_choice yX10_choice]
def wsX10_pass_r2 : List Cond := [Cond.code yX10_choice cX10_choice 5 (some .int), Cond.fieldLink RX10 38 "CoastWatchModel" "bold" "[I", Cond.fieldLink RX10 13 "CoastWatchModel" "depth" "[I", Cond.fieldLink RX10 29 "CoastWatchModel" "draught" "[I", Cond.fieldLink RX10 17 "CoastWatchModel" "worth" "[I", Cond.methodLink RX10 186 yX10_lightAt, Cond.static yX10_lightAt, Cond.code yX10_lightAt cX10_lightAt 2 (some .int), Cond.methodLink RX10 157 yX10_tideAt, Cond.instanceMethod yX10_tideAt, Cond.selects RX10 yX10_tideAt yX10_tideAt, Cond.code yX10_tideAt cX10_tideAt 5 (some .int), Cond.fieldLink RX10 26 "CoastWatchModel" "led" "[I", Cond.fieldLink RX10 20 "CoastWatchModel" "rowSize" "[I", Cond.fieldLink RX10 23 "CoastWatchModel" "row" "[I", Cond.methodLink RX10 222 yX10_goes, Cond.instanceMethod yX10_goes, Cond.selects RX10 yX10_goes yX10_goes, Cond.code yX10_goes cX10_goes 5 none, Cond.fieldLink RX10 35 "CoastWatchModel" "strength" "[I", Cond.fieldLink RX10 44 "CoastWatchModel" "away" "[I", Cond.fieldLink RX10 47 "CoastWatchModel" "home" "[I", Cond.methodLink RX10 195 yX10_counting, Cond.instanceMethod yX10_counting]
def wsX10_pass_r3 : List Cond := [Cond.selects RX10 yX10_counting yX10_counting, Cond.code yX10_counting cX10_counting 2 (some .int), Cond.fieldLink RX10 89 "CoastWatchModel" "bribed" "[Z", Cond.methodLink RX10 198 yX10_teller, Cond.instanceMethod yX10_teller, Cond.selects RX10 yX10_teller yX10_teller, Cond.code yX10_teller cX10_teller 3 (some .int), Cond.fieldLink RX10 179 "CoastWatchModel" "words" "I", Cond.fieldLink RX10 111 "CoastWatchModel" "wordNight" "[I", Cond.fieldLink RX10 114 "CoastWatchModel" "wordCove" "[I", Cond.fieldLink RX10 108 "CoastWatchModel" "wordOf" "[I", Cond.methodLink RX10 201 yX10_partCasks, Cond.instanceMethod yX10_partCasks, Cond.selects RX10 yX10_partCasks yX10_partCasks, Cond.code yX10_partCasks cX10_partCasks 7 none, Cond.fieldLink RX10 176 "CoastWatchModel" "laws" "I", Cond.fieldLink RX10 105 "CoastWatchModel" "lawNight" "[I", Cond.fieldLink RX10 170 "CoastWatchModel" "price" "I", Cond.fieldLink RX10 99 "CoastWatchModel" "lawCrew" "[I", Cond.fieldLink RX10 102 "CoastWatchModel" "lawInformer" "[I", Cond.fieldLink RX10 132 "CoastWatchModel" "coins" "[I", Cond.methodLink RX10 205 yX10_lot, Cond.instanceMethod yX10_lot, Cond.selects RX10 yX10_lot yX10_lot]
def wsX10_pass_r4 : List Cond := [Cond.code yX10_lot cX10_lot 5 none, Cond.fieldLink RX10 65 "CoastWatchModel" "lotBoat" "[I", Cond.fieldLink RX10 68 "CoastWatchModel" "lotCasks" "[I", Cond.fieldLink RX10 71 "CoastWatchModel" "lotNight" "[I", Cond.fieldLink RX10 74 "CoastWatchModel" "lotCove" "[I", Cond.fieldLink RX10 77 "CoastWatchModel" "lotLies" "[I", Cond.fieldLink RX10 80 "CoastWatchModel" "lotHide" "[I", Cond.methodLink RX10 209 yX10_moreFear, Cond.instanceMethod yX10_moreFear, Cond.selects RX10 yX10_moreFear yX10_moreFear, Cond.code yX10_moreFear cX10_moreFear 5 none, Cond.methodLink RX10 213 yX10_hideFor, Cond.instanceMethod yX10_hideFor, Cond.selects RX10 yX10_hideFor yX10_hideFor, Cond.code yX10_hideFor cX10_hideFor 4 (some .int), Cond.fieldLink RX10 164 "CoastWatchModel" "hides" "I", Cond.fieldLink RX10 53 "CoastWatchModel" "hideCove" "[I", Cond.fieldLink RX10 56 "CoastWatchModel" "hideRoom" "[I", Cond.methodLink RX10 192 yX10_liesIn, Cond.instanceMethod yX10_liesIn, Cond.selects RX10 yX10_liesIn yX10_liesIn, Cond.code yX10_liesIn cX10_liesIn 4 (some .int), Cond.methodLink RX10 225 yX10_prove, Cond.instanceMethod yX10_prove]
def wsX10_pass_r5 : List Cond := [Cond.selects RX10 yX10_prove yX10_prove, Cond.code yX10_prove cX10_prove 5 none, Cond.fieldLink RX10 117 "CoastWatchModel" "right" "[I", Cond.fieldLink RX10 120 "CoastWatchModel" "wrong" "[I", Cond.fieldLink RX10 62 "CoastWatchModel" "guess" "[I"]
def wsX10_pass : List Cond := .code yX10_pass cX10_pass 3 none :: ((wsX10_pass_r1 ++ (wsX10_pass_r2 ++ (wsX10_pass_r3 ++ (wsX10_pass_r4 ++ wsX10_pass_r5)))) ++ wsX100)
def wsX10_nights_r1 : List Cond := [Cond.fieldLink RX10 173 "CoastWatchModel" "night" "I", Cond.fieldLink RX10 189 "CoastWatchModel" "lots" "I", Cond.methodLink RX10 152 yX10_refuse, Cond.instanceMethod yX10_refuse, Cond.selects RX10 yX10_refuse yX10_refuse, Cond.initialized RX10, Cond.code yX10_refuse cX10_refuse 2 (some .int), Cond.fieldLink RX10 135 "CoastWatchModel" "refused" "[I", Cond.methodLink RX10 228 yX10_pass, Cond.instanceMethod yX10_pass, Cond.selects RX10 yX10_pass yX10_pass, Cond.code yX10_pass cX10_pass 3 none, Cond.fieldLink RX10 96 "CoastWatchModel" "came" "[Z", Cond.fieldLink RX10 161 "CoastWatchModel" "boats" "I", Cond.fieldLink RX10 41 "CoastWatchModel" "aboard" "[I", Cond.fieldLink RX10 50 "CoastWatchModel" "fear" "[I", Cond.methodLink RX10 216 yX10_watch, Cond.instanceMethod yX10_watch, Cond.selects RX10 yX10_watch yX10_watch, Cond.code yX10_watch cX10_watch 6 none, Cond.fieldLink RX10 93 "CoastWatchModel" "there" "[I", Cond.fieldLink RX10 83 "CoastWatchModel" "standing" "[I", Cond.fieldLink RX10 86 "CoastWatchModel" "shares" "[I", Cond.fieldLink RX10 167 "CoastWatchModel" "drawMany" "I"]
def wsX10_nights_r2 : List Cond := [Cond.methodLink RX10 183 yX10_drawBelow, Cond.instanceMethod yX10_drawBelow, Cond.selects RX10 yX10_drawBelow yX10_drawBelow, Cond.code yX10_drawBelow cX10_drawBelow 2 (some .int), Cond.fieldLink RX10 7 "CoastWatchModel" "seed" "I", Cond.constant RX10 182 (1103515245), Cond.methodLink RX10 219 yX10_choice, Cond.instanceMethod yX10_choice, Cond.selects RX10 yX10_choice yX10_choice, Cond.code yX10_choice cX10_choice 5 (some .int), Cond.fieldLink RX10 38 "CoastWatchModel" "bold" "[I", Cond.fieldLink RX10 13 "CoastWatchModel" "depth" "[I", Cond.fieldLink RX10 29 "CoastWatchModel" "draught" "[I", Cond.fieldLink RX10 17 "CoastWatchModel" "worth" "[I", Cond.methodLink RX10 186 yX10_lightAt, Cond.static yX10_lightAt, Cond.code yX10_lightAt cX10_lightAt 2 (some .int), Cond.methodLink RX10 157 yX10_tideAt, Cond.instanceMethod yX10_tideAt, Cond.selects RX10 yX10_tideAt yX10_tideAt, Cond.code yX10_tideAt cX10_tideAt 5 (some .int), Cond.fieldLink RX10 26 "CoastWatchModel" "led" "[I", Cond.fieldLink RX10 20 "CoastWatchModel" "rowSize" "[I", Cond.fieldLink RX10 23 "CoastWatchModel" "row" "[I"]
def wsX10_nights_r3 : List Cond := [Cond.methodLink RX10 222 yX10_goes, Cond.instanceMethod yX10_goes, Cond.selects RX10 yX10_goes yX10_goes, Cond.code yX10_goes cX10_goes 5 none, Cond.fieldLink RX10 35 "CoastWatchModel" "strength" "[I", Cond.fieldLink RX10 44 "CoastWatchModel" "away" "[I", Cond.fieldLink RX10 47 "CoastWatchModel" "home" "[I", Cond.methodLink RX10 195 yX10_counting, Cond.instanceMethod yX10_counting, Cond.selects RX10 yX10_counting yX10_counting, Cond.code yX10_counting cX10_counting 2 (some .int), Cond.fieldLink RX10 89 "CoastWatchModel" "bribed" "[Z", Cond.methodLink RX10 198 yX10_teller, Cond.instanceMethod yX10_teller, Cond.selects RX10 yX10_teller yX10_teller, Cond.code yX10_teller cX10_teller 3 (some .int), Cond.fieldLink RX10 179 "CoastWatchModel" "words" "I", Cond.fieldLink RX10 111 "CoastWatchModel" "wordNight" "[I", Cond.fieldLink RX10 114 "CoastWatchModel" "wordCove" "[I", Cond.fieldLink RX10 108 "CoastWatchModel" "wordOf" "[I", Cond.methodLink RX10 201 yX10_partCasks, Cond.instanceMethod yX10_partCasks, Cond.selects RX10 yX10_partCasks yX10_partCasks, Cond.code yX10_partCasks cX10_partCasks 7 none]
def wsX10_nights_r4 : List Cond := [Cond.fieldLink RX10 176 "CoastWatchModel" "laws" "I", Cond.fieldLink RX10 105 "CoastWatchModel" "lawNight" "[I", Cond.fieldLink RX10 170 "CoastWatchModel" "price" "I", Cond.fieldLink RX10 99 "CoastWatchModel" "lawCrew" "[I", Cond.fieldLink RX10 102 "CoastWatchModel" "lawInformer" "[I", Cond.fieldLink RX10 132 "CoastWatchModel" "coins" "[I", Cond.methodLink RX10 205 yX10_lot, Cond.instanceMethod yX10_lot, Cond.selects RX10 yX10_lot yX10_lot, Cond.code yX10_lot cX10_lot 5 none, Cond.fieldLink RX10 65 "CoastWatchModel" "lotBoat" "[I", Cond.fieldLink RX10 68 "CoastWatchModel" "lotCasks" "[I", Cond.fieldLink RX10 71 "CoastWatchModel" "lotNight" "[I", Cond.fieldLink RX10 74 "CoastWatchModel" "lotCove" "[I", Cond.fieldLink RX10 77 "CoastWatchModel" "lotLies" "[I", Cond.fieldLink RX10 80 "CoastWatchModel" "lotHide" "[I", Cond.methodLink RX10 209 yX10_moreFear, Cond.instanceMethod yX10_moreFear, Cond.selects RX10 yX10_moreFear yX10_moreFear, Cond.code yX10_moreFear cX10_moreFear 5 none, Cond.methodLink RX10 213 yX10_hideFor, Cond.instanceMethod yX10_hideFor, Cond.selects RX10 yX10_hideFor yX10_hideFor, Cond.code yX10_hideFor cX10_hideFor 4 (some .int)]
def wsX10_nights_r5 : List Cond := [Cond.fieldLink RX10 164 "CoastWatchModel" "hides" "I", Cond.fieldLink RX10 53 "CoastWatchModel" "hideCove" "[I", Cond.fieldLink RX10 56 "CoastWatchModel" "hideRoom" "[I", Cond.methodLink RX10 192 yX10_liesIn, Cond.instanceMethod yX10_liesIn, Cond.selects RX10 yX10_liesIn yX10_liesIn, Cond.code yX10_liesIn cX10_liesIn 4 (some .int), Cond.methodLink RX10 225 yX10_prove, Cond.instanceMethod yX10_prove, Cond.selects RX10 yX10_prove yX10_prove, Cond.code yX10_prove cX10_prove 5 none, Cond.fieldLink RX10 117 "CoastWatchModel" "right" "[I", Cond.fieldLink RX10 120 "CoastWatchModel" "wrong" "[I", Cond.fieldLink RX10 62 "CoastWatchModel" "guess" "[I"]
def wsX10_nights : List Cond := .code yX10_nights cX10_nights 4 (some .int) :: ((wsX10_nights_r1 ++ (wsX10_nights_r2 ++ (wsX10_nights_r3 ++ (wsX10_nights_r4 ++ wsX10_nights_r5)))) ++ wsX100)
def wsX10_search_r1 : List Cond := [Cond.fieldLink RX10 164 "CoastWatchModel" "hides" "I", Cond.fieldLink RX10 189 "CoastWatchModel" "lots" "I", Cond.fieldLink RX10 77 "CoastWatchModel" "lotLies" "[I", Cond.fieldLink RX10 80 "CoastWatchModel" "lotHide" "[I", Cond.fieldLink RX10 68 "CoastWatchModel" "lotCasks" "[I", Cond.fieldLink RX10 62 "CoastWatchModel" "guess" "[I", Cond.methodLink RX10 144 yX10_in, Cond.static yX10_in, Cond.initialized RX10, Cond.code yX10_in cX10_in 3 (some .boolean), Cond.methodLink RX10 152 yX10_refuse, Cond.instanceMethod yX10_refuse, Cond.selects RX10 yX10_refuse yX10_refuse, Cond.code yX10_refuse cX10_refuse 2 (some .int), Cond.fieldLink RX10 135 "CoastWatchModel" "refused" "[I", Cond.methodLink RX10 201 yX10_partCasks, Cond.instanceMethod yX10_partCasks, Cond.selects RX10 yX10_partCasks yX10_partCasks, Cond.code yX10_partCasks cX10_partCasks 7 none, Cond.fieldLink RX10 176 "CoastWatchModel" "laws" "I", Cond.fieldLink RX10 105 "CoastWatchModel" "lawNight" "[I", Cond.fieldLink RX10 173 "CoastWatchModel" "night" "I", Cond.fieldLink RX10 170 "CoastWatchModel" "price" "I", Cond.fieldLink RX10 99 "CoastWatchModel" "lawCrew" "[I"]
def wsX10_search_r2 : List Cond := [Cond.fieldLink RX10 102 "CoastWatchModel" "lawInformer" "[I", Cond.fieldLink RX10 132 "CoastWatchModel" "coins" "[I"]
def wsX10_search : List Cond := .code yX10_search cX10_search 4 (some .int) :: ((wsX10_search_r1 ++ wsX10_search_r2) ++ wsX100)
def wsX10_ones : List Cond := .code yX10_ones cX10_ones 3 (some .int) :: ([])
def wsX10_best : List Cond := .code yX10_best cX10_best 8 (some .int) :: ([.fieldLink RX10 164 "CoastWatchModel" "hides" "I", .fieldLink RX10 59 "CoastWatchModel" "hideCost" "[I", .fieldLink RX10 62 "CoastWatchModel" "guess" "[I", .methodLink RX10 152 yX10_refuse, .instanceMethod yX10_refuse, .selects RX10 yX10_refuse yX10_refuse, .initialized RX10, .code yX10_refuse cX10_refuse 2 (some .int), .fieldLink RX10 135 "CoastWatchModel" "refused" "[I", .methodLink RX10 231 yX10_ones, .static yX10_ones, .code yX10_ones cX10_ones 3 (some .int)] ++ wsX100)
def wsX10_divisor : List Cond := .code yX10_divisor cX10_divisor 10 (some .long) :: ([])
def wsX10_side : List Cond := .code yX10_side cX10_side 7 (some .long) :: ([.methodLink RX10 234 yX10_divisor, .static yX10_divisor, .initialized RX10, .code yX10_divisor cX10_divisor 10 (some .long)])
def wsX10_belief : List Cond := .code yX10_belief cX10_belief 11 (some .long) :: ([.fieldLink RX10 179 "CoastWatchModel" "words" "I", .fieldLink RX10 108 "CoastWatchModel" "wordOf" "[I", .fieldLink RX10 111 "CoastWatchModel" "wordNight" "[I", .fieldLink RX10 114 "CoastWatchModel" "wordCove" "[I", .fieldLink RX10 120 "CoastWatchModel" "wrong" "[I", .fieldLink RX10 117 "CoastWatchModel" "right" "[I", .methodLink RX10 148 yX10_isCove, .static yX10_isCove, .initialized RX10, .code yX10_isCove cX10_isCove 1 (some .boolean), .methodLink RX10 144 yX10_in, .static yX10_in, .code yX10_in cX10_in 3 (some .boolean), .methodLink RX10 152 yX10_refuse, .instanceMethod yX10_refuse, .selects RX10 yX10_refuse yX10_refuse, .code yX10_refuse cX10_refuse 2 (some .int), .fieldLink RX10 135 "CoastWatchModel" "refused" "[I", .methodLink RX10 238 yX10_side, .static yX10_side, .code yX10_side cX10_side 7 (some .long), .methodLink RX10 234 yX10_divisor, .static yX10_divisor, .code yX10_divisor cX10_divisor 10 (some .long)] ++ wsX100)
def wsX10_weight : List Cond := .code yX10_weight cX10_weight 3 (some .int) :: ([.fieldLink RX10 117 "CoastWatchModel" "right" "[I", .fieldLink RX10 120 "CoastWatchModel" "wrong" "[I", .methodLink RX10 144 yX10_in, .static yX10_in, .initialized RX10, .code yX10_in cX10_in 3 (some .boolean), .methodLink RX10 152 yX10_refuse, .instanceMethod yX10_refuse, .selects RX10 yX10_refuse yX10_refuse, .code yX10_refuse cX10_refuse 2 (some .int), .fieldLink RX10 135 "CoastWatchModel" "refused" "[I", .methodLink RX10 238 yX10_side, .static yX10_side, .code yX10_side cX10_side 7 (some .long), .methodLink RX10 234 yX10_divisor, .static yX10_divisor, .code yX10_divisor cX10_divisor 10 (some .long)] ++ wsX100)
def wsX10_play : List Cond := .code yX10_play cX10_play 13 none :: ([.fieldLink RX10 141 "CoastWatchModel" "sorted" "[I", .fieldLink RX10 17 "CoastWatchModel" "worth" "[I", .fieldLink RX10 242 "CoastWatchModel" "gameAbove" "J", .fieldLink RX10 246 "CoastWatchModel" "gameBelow" "J"] ++ wsX100)
def wsX10_refuseBig : List Cond := .code yX10_refuseBig cX10_refuseBig 2 (some .long) :: ([.fieldLink RX10 135 "CoastWatchModel" "refused" "[I", .constantLong RX10 249 (4000000000000000000)] ++ wsX100)
def wsX10_value : List Cond := .code yX10_value cX10_value 4 (some .long) :: ([.fieldLink RX10 242 "CoastWatchModel" "gameAbove" "J", .fieldLink RX10 246 "CoastWatchModel" "gameBelow" "J", .methodLink RX10 251 yX10_refuseBig, .instanceMethod yX10_refuseBig, .selects RX10 yX10_refuseBig yX10_refuseBig, .initialized RX10, .code yX10_refuseBig cX10_refuseBig 2 (some .long), .fieldLink RX10 135 "CoastWatchModel" "refused" "[I", .constantLong RX10 249 (4000000000000000000), .methodLink RX10 144 yX10_in, .static yX10_in, .code yX10_in cX10_in 3 (some .boolean), .methodLink RX10 255 yX10_play, .instanceMethod yX10_play, .selects RX10 yX10_play yX10_play, .code yX10_play cX10_play 13 none, .fieldLink RX10 141 "CoastWatchModel" "sorted" "[I", .fieldLink RX10 17 "CoastWatchModel" "worth" "[I", .methodLink RX10 238 yX10_side, .static yX10_side, .code yX10_side cX10_side 7 (some .long), .methodLink RX10 234 yX10_divisor, .static yX10_divisor, .code yX10_divisor cX10_divisor 10 (some .long)] ++ wsX100)
def wsX10_chance_r1 : List Cond := [Cond.fieldLink RX10 17 "CoastWatchModel" "worth" "[I", Cond.fieldLink RX10 246 "CoastWatchModel" "gameBelow" "J", Cond.fieldLink RX10 242 "CoastWatchModel" "gameAbove" "J", Cond.methodLink RX10 148 yX10_isCove, Cond.static yX10_isCove, Cond.initialized RX10, Cond.code yX10_isCove cX10_isCove 1 (some .boolean), Cond.methodLink RX10 144 yX10_in, Cond.static yX10_in, Cond.code yX10_in cX10_in 3 (some .boolean), Cond.methodLink RX10 251 yX10_refuseBig, Cond.instanceMethod yX10_refuseBig, Cond.selects RX10 yX10_refuseBig yX10_refuseBig, Cond.code yX10_refuseBig cX10_refuseBig 2 (some .long), Cond.fieldLink RX10 135 "CoastWatchModel" "refused" "[I", Cond.constantLong RX10 249 (4000000000000000000), Cond.methodLink RX10 255 yX10_play, Cond.instanceMethod yX10_play, Cond.selects RX10 yX10_play yX10_play, Cond.code yX10_play cX10_play 13 none, Cond.fieldLink RX10 141 "CoastWatchModel" "sorted" "[I", Cond.methodLink RX10 238 yX10_side, Cond.static yX10_side, Cond.code yX10_side cX10_side 7 (some .long)]
def wsX10_chance_r2 : List Cond := [Cond.methodLink RX10 234 yX10_divisor, Cond.static yX10_divisor, Cond.code yX10_divisor cX10_divisor 10 (some .long)]
def wsX10_chance : List Cond := .code yX10_chance cX10_chance 7 (some .long) :: ((wsX10_chance_r1 ++ wsX10_chance_r2) ++ wsX100)
def wsX10_used : List Cond := .code yX10_used cX10_used 5 (some .int) :: ([.constant RX10 258 (100000), .fieldLink RX10 123 "CoastWatchModel" "usedLeast" "[I", .fieldLink RX10 126 "CoastWatchModel" "usedMost" "[I", .fieldLink RX10 129 "CoastWatchModel" "usedLaw" "[I", .methodLink RX10 144 yX10_in, .static yX10_in, .initialized RX10, .code yX10_in cX10_in 3 (some .boolean), .methodLink RX10 152 yX10_refuse, .instanceMethod yX10_refuse, .selects RX10 yX10_refuse yX10_refuse, .code yX10_refuse cX10_refuse 2 (some .int), .fieldLink RX10 135 "CoastWatchModel" "refused" "[I"] ++ wsX100)
def wsX10_casksOf : List Cond := .code yX10_casksOf cX10_casksOf 5 (some .int) :: ([.fieldLink RX10 189 "CoastWatchModel" "lots" "I", .fieldLink RX10 71 "CoastWatchModel" "lotNight" "[I", .fieldLink RX10 77 "CoastWatchModel" "lotLies" "[I", .fieldLink RX10 68 "CoastWatchModel" "lotCasks" "[I"] ++ wsX100)
def wsX10_landed : List Cond := .code yX10_landed cX10_landed 4 (some .int) :: ([.fieldLink RX10 123 "CoastWatchModel" "usedLeast" "[I", .fieldLink RX10 126 "CoastWatchModel" "usedMost" "[I", .fieldLink RX10 129 "CoastWatchModel" "usedLaw" "[I", .methodLink RX10 144 yX10_in, .static yX10_in, .initialized RX10, .code yX10_in cX10_in 3 (some .boolean), .methodLink RX10 152 yX10_refuse, .instanceMethod yX10_refuse, .selects RX10 yX10_refuse yX10_refuse, .code yX10_refuse cX10_refuse 2 (some .int), .fieldLink RX10 135 "CoastWatchModel" "refused" "[I", .methodLink RX10 259 yX10_casksOf, .instanceMethod yX10_casksOf, .selects RX10 yX10_casksOf yX10_casksOf, .code yX10_casksOf cX10_casksOf 5 (some .int), .fieldLink RX10 189 "CoastWatchModel" "lots" "I", .fieldLink RX10 71 "CoastWatchModel" "lotNight" "[I", .fieldLink RX10 77 "CoastWatchModel" "lotLies" "[I", .fieldLink RX10 68 "CoastWatchModel" "lotCasks" "[I"] ++ wsX100)
def wsX10_lotOf : List Cond := .code yX10_lotOf cX10_lotOf 3 (some .int) :: ([.fieldLink RX10 189 "CoastWatchModel" "lots" "I", .fieldLink RX10 65 "CoastWatchModel" "lotBoat" "[I", .fieldLink RX10 68 "CoastWatchModel" "lotCasks" "[I", .fieldLink RX10 71 "CoastWatchModel" "lotNight" "[I", .fieldLink RX10 74 "CoastWatchModel" "lotCove" "[I", .fieldLink RX10 77 "CoastWatchModel" "lotLies" "[I", .fieldLink RX10 80 "CoastWatchModel" "lotHide" "[I", .methodLink RX10 144 yX10_in, .static yX10_in, .initialized RX10, .code yX10_in cX10_in 3 (some .boolean), .methodLink RX10 152 yX10_refuse, .instanceMethod yX10_refuse, .selects RX10 yX10_refuse yX10_refuse, .code yX10_refuse cX10_refuse 2 (some .int), .fieldLink RX10 135 "CoastWatchModel" "refused" "[I"] ++ wsX100)
def wsX10_boatOf : List Cond := .code yX10_boatOf cX10_boatOf 3 (some .int) :: ([.fieldLink RX10 161 "CoastWatchModel" "boats" "I", .fieldLink RX10 41 "CoastWatchModel" "aboard" "[I", .fieldLink RX10 44 "CoastWatchModel" "away" "[I", .fieldLink RX10 47 "CoastWatchModel" "home" "[I", .fieldLink RX10 50 "CoastWatchModel" "fear" "[I", .methodLink RX10 144 yX10_in, .static yX10_in, .initialized RX10, .code yX10_in cX10_in 3 (some .boolean), .methodLink RX10 152 yX10_refuse, .instanceMethod yX10_refuse, .selects RX10 yX10_refuse yX10_refuse, .code yX10_refuse cX10_refuse 2 (some .int), .fieldLink RX10 135 "CoastWatchModel" "refused" "[I"] ++ wsX100)
def wsX10_hideOf : List Cond := .code yX10_hideOf cX10_hideOf 3 (some .int) :: ([.fieldLink RX10 164 "CoastWatchModel" "hides" "I", .fieldLink RX10 62 "CoastWatchModel" "guess" "[I", .fieldLink RX10 53 "CoastWatchModel" "hideCove" "[I", .methodLink RX10 144 yX10_in, .static yX10_in, .initialized RX10, .code yX10_in cX10_in 3 (some .boolean), .methodLink RX10 152 yX10_refuse, .instanceMethod yX10_refuse, .selects RX10 yX10_refuse yX10_refuse, .code yX10_refuse cX10_refuse 2 (some .int), .fieldLink RX10 135 "CoastWatchModel" "refused" "[I", .methodLink RX10 192 yX10_liesIn, .instanceMethod yX10_liesIn, .selects RX10 yX10_liesIn yX10_liesIn, .code yX10_liesIn cX10_liesIn 4 (some .int), .fieldLink RX10 189 "CoastWatchModel" "lots" "I", .fieldLink RX10 77 "CoastWatchModel" "lotLies" "[I", .fieldLink RX10 80 "CoastWatchModel" "lotHide" "[I", .fieldLink RX10 68 "CoastWatchModel" "lotCasks" "[I"] ++ wsX100)
def wsX10_watched : List Cond := .code yX10_watched cX10_watched 2 (some .int) :: ([.fieldLink RX10 93 "CoastWatchModel" "there" "[I", .methodLink RX10 148 yX10_isCove, .static yX10_isCove, .initialized RX10, .code yX10_isCove cX10_isCove 1 (some .boolean), .methodLink RX10 144 yX10_in, .static yX10_in, .code yX10_in cX10_in 3 (some .boolean), .methodLink RX10 152 yX10_refuse, .instanceMethod yX10_refuse, .selects RX10 yX10_refuse yX10_refuse, .code yX10_refuse cX10_refuse 2 (some .int), .fieldLink RX10 135 "CoastWatchModel" "refused" "[I"] ++ wsX100)
def wsX10_coins : List Cond := .code yX10_coins cX10_coins 2 (some .int) :: ([.fieldLink RX10 132 "CoastWatchModel" "coins" "[I", .methodLink RX10 144 yX10_in, .static yX10_in, .initialized RX10, .code yX10_in cX10_in 3 (some .boolean), .methodLink RX10 152 yX10_refuse, .instanceMethod yX10_refuse, .selects RX10 yX10_refuse yX10_refuse, .code yX10_refuse cX10_refuse 2 (some .int), .fieldLink RX10 135 "CoastWatchModel" "refused" "[I"] ++ wsX100)
def wsX10_count : List Cond := .code yX10_count cX10_count 4 (some .int) :: ([.fieldLink RX10 173 "CoastWatchModel" "night" "I", .fieldLink RX10 161 "CoastWatchModel" "boats" "I", .fieldLink RX10 164 "CoastWatchModel" "hides" "I", .fieldLink RX10 189 "CoastWatchModel" "lots" "I", .fieldLink RX10 179 "CoastWatchModel" "words" "I", .fieldLink RX10 117 "CoastWatchModel" "right" "[I", .fieldLink RX10 120 "CoastWatchModel" "wrong" "[I", .fieldLink RX10 176 "CoastWatchModel" "laws" "I", .fieldLink RX10 7 "CoastWatchModel" "seed" "I", .constant RX10 263 (65535), .fieldLink RX10 135 "CoastWatchModel" "refused" "[I", .methodLink RX10 186 yX10_lightAt, .static yX10_lightAt, .initialized RX10, .code yX10_lightAt cX10_lightAt 2 (some .int), .methodLink RX10 144 yX10_in, .static yX10_in, .code yX10_in cX10_in 3 (some .boolean)] ++ wsX100)
def wsJ9_max_7cf53 : List Cond := .code yJ9_max_7cf53 cJ9_max_7cf53 2 (some .int) :: ([])
def wsJ9_max_f86c9 : List Cond := .code yJ9_max_f86c9 cJ9_max_f86c9 4 (some .long) :: ([])
def wsJ9_min_7cf53 : List Cond := .code yJ9_min_7cf53 cJ9_min_7cf53 2 (some .int) :: ([])
def wsL_law_r1 : List Cond := [Cond.classLink RL 7 RX9, Cond.instantiable RX9 15, Cond.initialized RX9, Cond.classLink RL 10 RX10, Cond.instantiable RX10 54, Cond.initialized RX10, Cond.methodLink RL 9 yX9_init, Cond.instanceMethod yX9_init, Cond.code yX9_init cX9_init 1 none, Cond.methodLink RX9 1 objectInit, Cond.instanceMethod objectInit, Cond.code objectInit ⟨#[0xb1]⟩ 1 none, Cond.fieldLink RX9 7 "CoastWatch" "night" "I", Cond.fieldLink RX9 13 "CoastWatch" "seed" "I", Cond.fieldLink RX9 16 "CoastWatch" "drawCount" "I", Cond.fieldLink RX9 19 "CoastWatch" "casksPrice" "I", Cond.arrayClass .int, Cond.fieldLink RX9 22 "CoastWatch" "refusals" "[I", Cond.fieldLink RX9 26 "CoastWatch" "purses" "[I", Cond.classLink RX9 29 RX7, Cond.instantiable RX7 2, Cond.initialized RX7, Cond.fieldLink RX9 32 "CoastWatch" "tables" "LCoastWatch$Tables;", Cond.classLink RX9 36 RX1]
def wsL_law_r2 : List Cond := [Cond.instantiable RX1 7, Cond.initialized RX1, Cond.fieldLink RX9 39 "CoastWatch" "coves" "LCoastWatch$Coves;", Cond.classLink RX9 43 RX0, Cond.instantiable RX0 9, Cond.initialized RX0, Cond.fieldLink RX9 46 "CoastWatch" "boats" "LCoastWatch$Boats;", Cond.classLink RX9 50 RX3, Cond.instantiable RX3 7, Cond.initialized RX3, Cond.fieldLink RX9 53 "CoastWatch" "hides" "LCoastWatch$Hides;", Cond.classLink RX9 57 RX5, Cond.instantiable RX5 7, Cond.initialized RX5, Cond.fieldLink RX9 60 "CoastWatch" "lots" "LCoastWatch$Lots;", Cond.classLink RX9 64 RX4, Cond.instantiable RX4 4, Cond.initialized RX4, Cond.fieldLink RX9 67 "CoastWatch" "laws" "LCoastWatch$Laws;", Cond.classLink RX9 71 RX8, Cond.instantiable RX8 6, Cond.initialized RX8, Cond.fieldLink RX9 74 "CoastWatch" "words" "LCoastWatch$Words;", Cond.classLink RX9 78 RX6]
def wsL_law_r3 : List Cond := [Cond.instantiable RX6 3, Cond.initialized RX6, Cond.fieldLink RX9 81 "CoastWatch" "seasons" "LCoastWatch$Seasons;", Cond.classLink RX9 85 RX2, Cond.instantiable RX2 3, Cond.initialized RX2, Cond.fieldLink RX9 88 "CoastWatch" "game" "LCoastWatch$Game;", Cond.methodLink RX9 31 yX7_init, Cond.instanceMethod yX7_init, Cond.code yX7_init cX7_init 2 none, Cond.methodLink RX7 3 objectInit, Cond.classLink RX7 9 "[[I", Cond.fieldLink RX7 11 "CoastWatch$Tables" "numbers" "[[I", Cond.fieldLink RX7 16 "CoastWatch$Tables" "length" "[I", Cond.methodLink RX9 38 yX1_init, Cond.instanceMethod yX1_init, Cond.code yX1_init cX1_init 2 none, Cond.methodLink RX1 3 objectInit, Cond.fieldLink RX1 9 "CoastWatch$Coves" "depth" "[I", Cond.fieldLink RX1 15 "CoastWatch$Coves" "worth" "[I", Cond.fieldLink RX1 18 "CoastWatch$Coves" "ledBy" "[I", Cond.fieldLink RX1 21 "CoastWatch$Coves" "standing" "[I", Cond.fieldLink RX1 24 "CoastWatch$Coves" "shares" "[I", Cond.arrayClass .boolean]
def wsL_law_r4 : List Cond := [Cond.fieldLink RX1 27 "CoastWatch$Coves" "bribed" "[Z", Cond.fieldLink RX1 31 "CoastWatch$Coves" "watchers" "[I", Cond.instanceMethod yX0_init, Cond.code yX0_init cX0_init 1 none, Cond.methodLink RX0 3 objectInit, Cond.fieldLink RX0 9 "CoastWatch$Boats" "size" "I", Cond.fieldLink RX0 15 "CoastWatch$Boats" "draught" "[I", Cond.fieldLink RX0 19 "CoastWatch$Boats" "hold" "[I", Cond.fieldLink RX0 22 "CoastWatch$Boats" "strength" "[I", Cond.fieldLink RX0 25 "CoastWatch$Boats" "bold" "[I", Cond.fieldLink RX0 28 "CoastWatch$Boats" "casks" "[I", Cond.fieldLink RX0 31 "CoastWatch$Boats" "escapes" "[I", Cond.fieldLink RX0 34 "CoastWatch$Boats" "returns" "[I", Cond.classLink RX0 37 "[[I", Cond.fieldLink RX0 39 "CoastWatch$Boats" "fear" "[[I", Cond.instanceMethod yX3_init, Cond.code yX3_init cX3_init 1 none, Cond.methodLink RX3 5 objectInit, Cond.fieldLink RX3 11 "CoastWatch$Hides" "size" "I", Cond.fieldLink RX3 15 "CoastWatch$Hides" "cove" "[I", Cond.fieldLink RX3 19 "CoastWatch$Hides" "room" "[I", Cond.fieldLink RX3 22 "CoastWatch$Hides" "cost" "[I", Cond.fieldLink RX3 25 "CoastWatch$Hides" "guess" "[I", Cond.fieldLink RX3 28 "CoastWatch$Hides" "lying" "[I"]
def wsL_law_r5 : List Cond := [Cond.arrayClass .long, Cond.fieldLink RX3 31 "CoastWatch$Hides" "scores" "[J", Cond.instanceMethod yX5_init, Cond.code yX5_init cX5_init 1 none, Cond.methodLink RX5 3 objectInit, Cond.fieldLink RX5 9 "CoastWatch$Lots" "size" "I", Cond.fieldLink RX5 15 "CoastWatch$Lots" "boat" "[I", Cond.fieldLink RX5 19 "CoastWatch$Lots" "casks" "[I", Cond.fieldLink RX5 22 "CoastWatch$Lots" "night" "[I", Cond.fieldLink RX5 25 "CoastWatch$Lots" "cove" "[I", Cond.fieldLink RX5 28 "CoastWatch$Lots" "place" "[I", Cond.fieldLink RX5 31 "CoastWatch$Lots" "hide" "[I", Cond.instanceMethod yX4_init, Cond.code yX4_init cX4_init 1 none, Cond.methodLink RX4 3 objectInit, Cond.fieldLink RX4 9 "CoastWatch$Laws" "size" "I", Cond.fieldLink RX4 15 "CoastWatch$Laws" "crew" "[I", Cond.fieldLink RX4 19 "CoastWatch$Laws" "informer" "[I", Cond.fieldLink RX4 22 "CoastWatch$Laws" "from" "[I", Cond.instanceMethod yX8_init, Cond.code yX8_init cX8_init 1 none, Cond.methodLink RX8 3 objectInit, Cond.fieldLink RX8 9 "CoastWatch$Words" "size" "I", Cond.fieldLink RX8 15 "CoastWatch$Words" "informer" "[I"]
def wsL_law_r6 : List Cond := [Cond.fieldLink RX8 19 "CoastWatch$Words" "night" "[I", Cond.fieldLink RX8 22 "CoastWatch$Words" "cove" "[I", Cond.fieldLink RX8 25 "CoastWatch$Words" "right" "[I", Cond.fieldLink RX8 28 "CoastWatch$Words" "wrong" "[I", Cond.instanceMethod yX6_init, Cond.code yX6_init cX6_init 1 none, Cond.methodLink RX6 3 objectInit, Cond.fieldLink RX6 9 "CoastWatch$Seasons" "least" "[I", Cond.fieldLink RX6 15 "CoastWatch$Seasons" "most" "[I", Cond.fieldLink RX6 18 "CoastWatch$Seasons" "byLaw" "[I", Cond.instanceMethod yX2_init, Cond.code yX2_init cX2_init 1 none, Cond.methodLink RX2 3 objectInit, Cond.fieldLink RX2 9 "CoastWatch$Game" "worths" "[I", Cond.fieldLink RX2 15 "CoastWatch$Game" "above" "J", Cond.fieldLink RX2 19 "CoastWatch$Game" "below" "J", Cond.methodLink RL 12 yX10_init, Cond.instanceMethod yX10_init, Cond.code yX10_init cX10_init 1 none, Cond.methodLink RX10 1 objectInit, Cond.fieldLink RX10 7 "CoastWatchModel" "seed" "I", Cond.fieldLink RX10 13 "CoastWatchModel" "depth" "[I", Cond.fieldLink RX10 17 "CoastWatchModel" "worth" "[I", Cond.fieldLink RX10 20 "CoastWatchModel" "rowSize" "[I"]
def wsL_law_r7 : List Cond := [Cond.fieldLink RX10 23 "CoastWatchModel" "row" "[I", Cond.fieldLink RX10 26 "CoastWatchModel" "led" "[I", Cond.fieldLink RX10 29 "CoastWatchModel" "draught" "[I", Cond.fieldLink RX10 32 "CoastWatchModel" "hold" "[I", Cond.fieldLink RX10 35 "CoastWatchModel" "strength" "[I", Cond.fieldLink RX10 38 "CoastWatchModel" "bold" "[I", Cond.fieldLink RX10 41 "CoastWatchModel" "aboard" "[I", Cond.fieldLink RX10 44 "CoastWatchModel" "away" "[I", Cond.fieldLink RX10 47 "CoastWatchModel" "home" "[I", Cond.fieldLink RX10 50 "CoastWatchModel" "fear" "[I", Cond.fieldLink RX10 53 "CoastWatchModel" "hideCove" "[I", Cond.fieldLink RX10 56 "CoastWatchModel" "hideRoom" "[I", Cond.fieldLink RX10 59 "CoastWatchModel" "hideCost" "[I", Cond.fieldLink RX10 62 "CoastWatchModel" "guess" "[I", Cond.fieldLink RX10 65 "CoastWatchModel" "lotBoat" "[I", Cond.fieldLink RX10 68 "CoastWatchModel" "lotCasks" "[I", Cond.fieldLink RX10 71 "CoastWatchModel" "lotNight" "[I", Cond.fieldLink RX10 74 "CoastWatchModel" "lotCove" "[I", Cond.fieldLink RX10 77 "CoastWatchModel" "lotLies" "[I", Cond.fieldLink RX10 80 "CoastWatchModel" "lotHide" "[I", Cond.fieldLink RX10 83 "CoastWatchModel" "standing" "[I", Cond.fieldLink RX10 86 "CoastWatchModel" "shares" "[I", Cond.fieldLink RX10 89 "CoastWatchModel" "bribed" "[Z", Cond.fieldLink RX10 93 "CoastWatchModel" "there" "[I"]
def wsL_law_r8 : List Cond := [Cond.fieldLink RX10 96 "CoastWatchModel" "came" "[Z", Cond.fieldLink RX10 99 "CoastWatchModel" "lawCrew" "[I", Cond.fieldLink RX10 102 "CoastWatchModel" "lawInformer" "[I", Cond.fieldLink RX10 105 "CoastWatchModel" "lawNight" "[I", Cond.fieldLink RX10 108 "CoastWatchModel" "wordOf" "[I", Cond.fieldLink RX10 111 "CoastWatchModel" "wordNight" "[I", Cond.fieldLink RX10 114 "CoastWatchModel" "wordCove" "[I", Cond.fieldLink RX10 117 "CoastWatchModel" "right" "[I", Cond.fieldLink RX10 120 "CoastWatchModel" "wrong" "[I", Cond.fieldLink RX10 123 "CoastWatchModel" "usedLeast" "[I", Cond.fieldLink RX10 126 "CoastWatchModel" "usedMost" "[I", Cond.fieldLink RX10 129 "CoastWatchModel" "usedLaw" "[I", Cond.fieldLink RX10 132 "CoastWatchModel" "coins" "[I", Cond.fieldLink RX10 135 "CoastWatchModel" "refused" "[I", Cond.fieldLink RX10 138 "CoastWatchModel" "between" "[I", Cond.fieldLink RX10 141 "CoastWatchModel" "sorted" "[I", Cond.methodLink RL 13 yX9_seed, Cond.instanceMethod yX9_seed, Cond.selects RX9 yX9_seed yX9_seed, Cond.code yX9_seed cX9_seed 3 (some .int), Cond.methodLink RL 17 yX10_seed, Cond.instanceMethod yX10_seed, Cond.selects RX10 yX10_seed yX10_seed, Cond.code yX10_seed cX10_seed 3 (some .int)]
def wsL_law_r9 : List Cond := [Cond.methodLink RL 18 yX9_cove, Cond.instanceMethod yX9_cove, Cond.selects RX9 yX9_cove yX9_cove, Cond.code yX9_cove cX9_cove 4 (some .int), Cond.fieldLink RX9 100 "CoastWatch$Coves" "depth" "[I", Cond.fieldLink RX9 103 "CoastWatch$Coves" "worth" "[I", Cond.methodLink RX9 92 yX9_isCove, Cond.static yX9_isCove, Cond.code yX9_isCove cX9_isCove 1 (some .boolean), Cond.methodLink RX9 96 yX9_refuse, Cond.instanceMethod yX9_refuse, Cond.selects RX9 yX9_refuse yX9_refuse, Cond.code yX9_refuse cX9_refuse 3 (some .int), Cond.methodLink RL 22 yX10_cove, Cond.instanceMethod yX10_cove, Cond.selects RX10 yX10_cove yX10_cove, Cond.code yX10_cove cX10_cove 4 (some .int), Cond.methodLink RX10 148 yX10_isCove, Cond.static yX10_isCove, Cond.code yX10_isCove cX10_isCove 1 (some .boolean), Cond.methodLink RX10 144 yX10_in, Cond.static yX10_in, Cond.code yX10_in cX10_in 3 (some .boolean), Cond.methodLink RX10 152 yX10_refuse]
def wsL_law_r10 : List Cond := [Cond.instanceMethod yX10_refuse, Cond.selects RX10 yX10_refuse yX10_refuse, Cond.code yX10_refuse cX10_refuse 2 (some .int), Cond.methodLink RL 23 yX9_row, Cond.instanceMethod yX9_row, Cond.selects RX9 yX9_row yX9_row, Cond.code yX9_row cX9_row 3 (some .int), Cond.methodLink RX9 106 yX9_isTable, Cond.static yX9_isTable, Cond.code yX9_isTable cX9_isTable 1 (some .boolean), Cond.methodLink RX9 109 yX7_begin, Cond.instanceMethod yX7_begin, Cond.selects RX7 yX7_begin yX7_begin, Cond.code yX7_begin cX7_begin 4 none, Cond.methodLink RL 27 yX10_row, Cond.instanceMethod yX10_row, Cond.selects RX10 yX10_row yX10_row, Cond.code yX10_row cX10_row 4 (some .int), Cond.methodLink RL 28 yX9_lose, Cond.instanceMethod yX9_lose, Cond.selects RX9 yX9_lose yX9_lose, Cond.code yX9_lose cX9_lose 2 (some .int), Cond.methodLink RX9 113 yX7_isMissing, Cond.instanceMethod yX7_isMissing]
def wsL_law_r11 : List Cond := [Cond.selects RX7 yX7_isMissing yX7_isMissing, Cond.code yX7_isMissing cX7_isMissing 2 (some .boolean), Cond.methodLink RX9 116 yX7_forget, Cond.instanceMethod yX7_forget, Cond.selects RX7 yX7_forget yX7_forget, Cond.code yX7_forget cX7_forget 2 none, Cond.methodLink RL 31 yX10_lose, Cond.instanceMethod yX10_lose, Cond.selects RX10 yX10_lose yX10_lose, Cond.code yX10_lose cX10_lose 3 (some .int), Cond.methodLink RL 32 yX9_put, Cond.instanceMethod yX9_put, Cond.selects RX9 yX9_put yX9_put, Cond.code yX9_put cX9_put 5 (some .int), Cond.fieldLink RX9 120 "CoastWatch$Tables" "length" "[I", Cond.fieldLink RX9 123 "CoastWatch$Tables" "numbers" "[[I", Cond.methodLink RL 35 yX10_put, Cond.instanceMethod yX10_put, Cond.selects RX10 yX10_put yX10_put, Cond.code yX10_put cX10_put 5 (some .int), Cond.methodLink RL 36 yX9_copy, Cond.instanceMethod yX9_copy, Cond.selects RX9 yX9_copy yX9_copy, Cond.code yX9_copy cX9_copy 6 (some .int)]
def wsL_law_r12 : List Cond := [Cond.methodLink RX9 131 arraycopyName, Cond.native arraycopyName, Cond.static arraycopyName, Cond.initialized "java/lang/System", Cond.methodLink RX9 127 yX7_hasPlaces, Cond.instanceMethod yX7_hasPlaces, Cond.selects RX7 yX7_hasPlaces yX7_hasPlaces, Cond.code yX7_hasPlaces cX7_hasPlaces 4 (some .boolean), Cond.methodLink RL 40 yX10_copy, Cond.instanceMethod yX10_copy, Cond.selects RX10 yX10_copy yX10_copy, Cond.code yX10_copy cX10_copy 7 (some .int), Cond.methodLink RL 41 yX9_lead, Cond.instanceMethod yX9_lead, Cond.selects RX9 yX9_lead yX9_lead, Cond.code yX9_lead cX9_lead 4 (some .int), Cond.constant RX9 137 (2000000000), Cond.fieldLink RX9 138 "CoastWatch$Coves" "ledBy" "[I", Cond.methodLink RL 44 yX10_lead, Cond.instanceMethod yX10_lead, Cond.selects RX10 yX10_lead yX10_lead, Cond.code yX10_lead cX10_lead 4 (some .int), Cond.constant RX10 156 (2000000001), Cond.methodLink RL 45 yX9_tide]
def wsL_law_r13 : List Cond := [Cond.instanceMethod yX9_tide, Cond.selects RX9 yX9_tide yX9_tide, Cond.code yX9_tide cX9_tide 3 (some .int), Cond.methodLink RX9 141 yX9_tideAt, Cond.instanceMethod yX9_tideAt, Cond.selects RX9 yX9_tideAt yX9_tideAt, Cond.code yX9_tideAt cX9_tideAt 5 (some .int), Cond.methodLink RL 48 yX10_tide, Cond.instanceMethod yX10_tide, Cond.selects RX10 yX10_tide yX10_tide, Cond.code yX10_tide cX10_tide 3 (some .int), Cond.methodLink RX10 157 yX10_tideAt, Cond.instanceMethod yX10_tideAt, Cond.selects RX10 yX10_tideAt yX10_tideAt, Cond.code yX10_tideAt cX10_tideAt 5 (some .int), Cond.methodLink RL 49 yX9_boat, Cond.instanceMethod yX9_boat, Cond.selects RX9 yX9_boat yX9_boat, Cond.code yX9_boat cX9_boat 5 (some .int), Cond.fieldLink RX9 145 "CoastWatch$Boats" "size" "I", Cond.methodLink RX9 148 yX0_add, Cond.instanceMethod yX0_add, Cond.selects RX0 yX0_add yX0_add, Cond.code yX0_add cX0_add 6 (some .int)]
def wsL_law_r14 : List Cond := [Cond.methodLink RL 53 yX10_boat, Cond.instanceMethod yX10_boat, Cond.selects RX10 yX10_boat yX10_boat, Cond.code yX10_boat cX10_boat 5 (some .int), Cond.fieldLink RX10 161 "CoastWatchModel" "boats" "I", Cond.methodLink RL 54 yX9_load, Cond.instanceMethod yX9_load, Cond.selects RX9 yX9_load yX9_load, Cond.code yX9_load cX9_load 3 (some .int), Cond.fieldLink RX9 155 "CoastWatch$Boats" "hold" "[I", Cond.fieldLink RX9 158 "CoastWatch$Boats" "casks" "[I", Cond.methodLink RX9 152 yX9_isBoat, Cond.instanceMethod yX9_isBoat, Cond.selects RX9 yX9_isBoat yX9_isBoat, Cond.code yX9_isBoat cX9_isBoat 2 (some .boolean), Cond.methodLink RL 57 yX10_load, Cond.instanceMethod yX10_load, Cond.selects RX10 yX10_load yX10_load, Cond.code yX10_load cX10_load 3 (some .int), Cond.methodLink RL 58 yX9_hide, Cond.instanceMethod yX9_hide, Cond.selects RX9 yX9_hide yX9_hide, Cond.code yX9_hide cX9_hide 4 (some .int), Cond.fieldLink RX9 161 "CoastWatch$Hides" "size" "I"]
def wsL_law_r15 : List Cond := [Cond.methodLink RX9 162 yX3_add, Cond.instanceMethod yX3_add, Cond.selects RX3 yX3_add yX3_add, Cond.code yX3_add cX3_add 5 (some .int), Cond.methodLink RL 61 yX10_hide, Cond.instanceMethod yX10_hide, Cond.selects RX10 yX10_hide yX10_hide, Cond.code yX10_hide cX10_hide 4 (some .int), Cond.fieldLink RX10 164 "CoastWatchModel" "hides" "I", Cond.methodLink RL 62 yX9_stand, Cond.instanceMethod yX9_stand, Cond.selects RX9 yX9_stand yX9_stand, Cond.code yX9_stand cX9_stand 4 (some .int), Cond.fieldLink RX9 165 "CoastWatch$Coves" "standing" "[I", Cond.methodLink RL 65 yX10_stand, Cond.instanceMethod yX10_stand, Cond.selects RX10 yX10_stand yX10_stand, Cond.code yX10_stand cX10_stand 4 (some .int), Cond.methodLink RL 66 yX9_bribe, Cond.instanceMethod yX9_bribe, Cond.selects RX9 yX9_bribe yX9_bribe, Cond.code yX9_bribe cX9_bribe 3 (some .int), Cond.fieldLink RX9 168 "CoastWatch$Coves" "bribed" "[Z", Cond.methodLink RL 70 yX10_bribe]
def wsL_law_r16 : List Cond := [Cond.instanceMethod yX10_bribe, Cond.selects RX10 yX10_bribe yX10_bribe, Cond.code yX10_bribe cX10_bribe 4 (some .int), Cond.methodLink RL 71 yX9_share, Cond.instanceMethod yX9_share, Cond.selects RX9 yX9_share yX9_share, Cond.code yX9_share cX9_share 4 (some .int), Cond.fieldLink RX9 172 "CoastWatch$Coves" "shares" "[I", Cond.methodLink RL 74 yX10_share, Cond.instanceMethod yX10_share, Cond.selects RX10 yX10_share yX10_share, Cond.code yX10_share cX10_share 4 (some .int), Cond.methodLink RL 75 yX9_draws, Cond.instanceMethod yX9_draws, Cond.selects RX9 yX9_draws yX9_draws, Cond.code yX9_draws cX9_draws 3 (some .int), Cond.methodLink RL 78 yX10_draws, Cond.instanceMethod yX10_draws, Cond.selects RX10 yX10_draws yX10_draws, Cond.code yX10_draws cX10_draws 3 (some .int), Cond.fieldLink RX10 167 "CoastWatchModel" "drawMany" "I", Cond.methodLink RL 79 yX9_price, Cond.instanceMethod yX9_price, Cond.selects RX9 yX9_price yX9_price]
def wsL_law_r17 : List Cond := [Cond.code yX9_price cX9_price 3 (some .int), Cond.methodLink RL 82 yX10_price, Cond.instanceMethod yX10_price, Cond.selects RX10 yX10_price yX10_price, Cond.code yX10_price cX10_price 3 (some .int), Cond.fieldLink RX10 170 "CoastWatchModel" "price" "I", Cond.methodLink RL 83 yX9_law, Cond.instanceMethod yX9_law, Cond.selects RX9 yX9_law yX9_law, Cond.code yX9_law cX9_law 4 (some .int), Cond.fieldLink RX9 175 "CoastWatch$Laws" "size" "I", Cond.methodLink RX9 176 yX4_add, Cond.instanceMethod yX4_add, Cond.selects RX4 yX4_add yX4_add, Cond.code yX4_add cX4_add 5 (some .int), Cond.methodLink RL 86 yX10_law, Cond.instanceMethod yX10_law, Cond.selects RX10 yX10_law yX10_law, Cond.code yX10_law cX10_law 4 (some .int), Cond.fieldLink RX10 173 "CoastWatchModel" "night" "I", Cond.fieldLink RX10 176 "CoastWatchModel" "laws" "I", Cond.methodLink RL 87 yX9_word, Cond.instanceMethod yX9_word, Cond.selects RX9 yX9_word yX9_word]
def wsL_law_r18 : List Cond := [Cond.code yX9_word cX9_word 4 (some .int), Cond.fieldLink RX9 180 "CoastWatch$Words" "size" "I", Cond.methodLink RX9 177 yX9_isInformer, Cond.static yX9_isInformer, Cond.code yX9_isInformer cX9_isInformer 1 (some .boolean), Cond.methodLink RX9 181 yX8_isToldBy, Cond.instanceMethod yX8_isToldBy, Cond.selects RX8 yX8_isToldBy yX8_isToldBy, Cond.code yX8_isToldBy cX8_isToldBy 5 (some .boolean), Cond.methodLink RX8 31 yX8_names, Cond.instanceMethod yX8_names, Cond.selects RX8 yX8_names yX8_names, Cond.code yX8_names cX8_names 4 (some .boolean), Cond.methodLink RX9 184 yX8_add, Cond.instanceMethod yX8_add, Cond.selects RX8 yX8_add yX8_add, Cond.code yX8_add cX8_add 5 (some .int), Cond.methodLink RL 90 yX10_word, Cond.instanceMethod yX10_word, Cond.selects RX10 yX10_word yX10_word, Cond.code yX10_word cX10_word 5 (some .int), Cond.fieldLink RX10 179 "CoastWatchModel" "words" "I", Cond.methodLink RL 91 yX9_nights, Cond.instanceMethod yX9_nights]
def wsL_law_r19 : List Cond := [Cond.selects RX9 yX9_nights yX9_nights, Cond.code yX9_nights cX9_nights 4 (some .int), Cond.fieldLink RX9 185 "CoastWatch$Lots" "size" "I", Cond.methodLink RX9 186 yX9_passNight, Cond.instanceMethod yX9_passNight, Cond.selects RX9 yX9_passNight yX9_passNight, Cond.code yX9_passNight cX9_passNight 2 none, Cond.methodLink RX9 309 yX9_placeWatchers, Cond.instanceMethod yX9_placeWatchers, Cond.selects RX9 yX9_placeWatchers yX9_placeWatchers, Cond.code yX9_placeWatchers cX9_placeWatchers 3 none, Cond.fieldLink RX9 291 "CoastWatch$Coves" "watchers" "[I", Cond.methodLink RX9 321 yX1_sumOfShares, Cond.instanceMethod yX1_sumOfShares, Cond.selects RX1 yX1_sumOfShares yX1_sumOfShares, Cond.code yX1_sumOfShares cX1_sumOfShares 3 (some .int), Cond.methodLink RX9 324 yX9_drawBelow, Cond.instanceMethod yX9_drawBelow, Cond.selects RX9 yX9_drawBelow yX9_drawBelow, Cond.code yX9_drawBelow cX9_drawBelow 2 (some .int), Cond.constant RX9 330 (1103515245), Cond.methodLink RX9 327 yX1_coveOfShare, Cond.instanceMethod yX1_coveOfShare, Cond.selects RX1 yX1_coveOfShare yX1_coveOfShare]
def wsL_law_r20 : List Cond := [Cond.code yX1_coveOfShare cX1_coveOfShare 4 (some .int), Cond.methodLink RX9 312 yX9_sendOut, Cond.instanceMethod yX9_sendOut, Cond.selects RX9 yX9_sendOut yX9_sendOut, Cond.code yX9_sendOut cX9_sendOut 4 none, Cond.fieldLink RX9 331 "CoastWatch$Boats" "bold" "[I", Cond.methodLink RX9 301 yX9_light, Cond.instanceMethod yX9_light, Cond.selects RX9 yX9_light yX9_light, Cond.code yX9_light cX9_light 2 (some .int), Cond.methodLink RX9 334 yX9_chosenCove, Cond.instanceMethod yX9_chosenCove, Cond.selects RX9 yX9_chosenCove yX9_chosenCove, Cond.code yX9_chosenCove cX9_chosenCove 4 (some .int), Cond.methodLink RX9 350 yX9_isOpen, Cond.instanceMethod yX9_isOpen, Cond.selects RX9 yX9_isOpen yX9_isOpen, Cond.code yX9_isOpen cX9_isOpen 3 (some .boolean), Cond.fieldLink RX9 356 "CoastWatch$Boats" "draught" "[I", Cond.methodLink RX9 353 yX9_isDearer, Cond.instanceMethod yX9_isDearer, Cond.selects RX9 yX9_isDearer yX9_isDearer, Cond.code yX9_isDearer cX9_isDearer 6 (some .boolean), Cond.fieldLink RX9 281 "CoastWatch$Boats" "fear" "[[I"]
def wsL_law_r21 : List Cond := [Cond.methodLink RX9 337 yX1_countingAt, Cond.instanceMethod yX1_countingAt, Cond.selects RX1 yX1_countingAt yX1_countingAt, Cond.code yX1_countingAt cX1_countingAt 2 (some .int), Cond.methodLink RX9 340 yX9_meetWatchers, Cond.instanceMethod yX9_meetWatchers, Cond.selects RX9 yX9_meetWatchers yX9_meetWatchers, Cond.code yX9_meetWatchers cX9_meetWatchers 5 none, Cond.fieldLink RX9 359 "CoastWatch$Boats" "strength" "[I", Cond.fieldLink RX9 284 "CoastWatch$Boats" "escapes" "[I", Cond.methodLink RX9 362 yX5_add, Cond.instanceMethod yX5_add, Cond.selects RX5 yX5_add yX5_add, Cond.code yX5_add cX5_add 7 none, Cond.methodLink RX9 365 yX8_firstInformer, Cond.instanceMethod yX8_firstInformer, Cond.selects RX8 yX8_firstInformer yX8_firstInformer, Cond.code yX8_firstInformer cX8_firstInformer 4 (some .int), Cond.methodLink RX9 200 yX9_partSeized, Cond.instanceMethod yX9_partSeized, Cond.selects RX9 yX9_partSeized yX9_partSeized, Cond.code yX9_partSeized cX9_partSeized 7 none, Cond.fieldLink RX9 377 "CoastWatch$Laws" "crew" "[I", Cond.fieldLink RX9 380 "CoastWatch$Laws" "informer" "[I"]
def wsL_law_r22 : List Cond := [Cond.methodLink RX9 374 yX4_inForceOn, Cond.instanceMethod yX4_inForceOn, Cond.selects RX4 yX4_inForceOn yX4_inForceOn, Cond.code yX4_inForceOn cX4_inForceOn 4 (some .int), Cond.methodLink RX9 368 yX0_frighten, Cond.instanceMethod yX0_frighten, Cond.selects RX0 yX0_frighten yX0_frighten, Cond.code yX0_frighten cX0_frighten 4 none, Cond.methodLink RX0 42 Lib.Math.min.name, Cond.static Lib.Math.min.name, Cond.initialized "java/lang/Math", Cond.code Lib.Math.min.name Lib.Math.min.code 2 (some .int), Cond.methodLink RX9 344 yX9_bringAshore, Cond.instanceMethod yX9_bringAshore, Cond.selects RX9 yX9_bringAshore yX9_bringAshore, Cond.code yX9_bringAshore cX9_bringAshore 5 none, Cond.fieldLink RX9 287 "CoastWatch$Boats" "returns" "[I", Cond.fieldLink RX9 203 "CoastWatch$Hides" "lying" "[I", Cond.methodLink RX9 371 yX3_firstWithRoom, Cond.instanceMethod yX3_firstWithRoom, Cond.selects RX3 yX3_firstWithRoom yX3_firstWithRoom, Cond.code yX3_firstWithRoom cX3_firstWithRoom 4 (some .int), Cond.methodLink RX9 347 yX9_lookAt, Cond.instanceMethod yX9_lookAt]
def wsL_law_r23 : List Cond := [Cond.selects RX9 yX9_lookAt yX9_lookAt, Cond.code yX9_lookAt cX9_lookAt 3 none, Cond.methodLink RX9 315 yX0_calm, Cond.instanceMethod yX0_calm, Cond.selects RX0 yX0_calm yX0_calm, Cond.code yX0_calm cX0_calm 3 none, Cond.methodLink RX9 318 yX9_proveWords, Cond.instanceMethod yX9_proveWords, Cond.selects RX9 yX9_proveWords yX9_proveWords, Cond.code yX9_proveWords cX9_proveWords 4 none, Cond.fieldLink RX9 383 "CoastWatch$Words" "night" "[I", Cond.fieldLink RX9 384 "CoastWatch$Words" "cove" "[I", Cond.methodLink RX9 385 yX5_cameTo, Cond.instanceMethod yX5_cameTo, Cond.selects RX5 yX5_cameTo yX5_cameTo, Cond.code yX5_cameTo cX5_cameTo 4 (some .boolean), Cond.methodLink RX9 388 yX8_prove, Cond.instanceMethod yX8_prove, Cond.selects RX8 yX8_prove yX8_prove, Cond.code yX8_prove cX8_prove 3 none, Cond.methodLink RX9 392 yX3_suspect, Cond.instanceMethod yX3_suspect, Cond.selects RX3 yX3_suspect yX3_suspect, Cond.code yX3_suspect cX3_suspect 3 none]
def wsL_law_r24 : List Cond := [Cond.methodLink RX3 35 Lib.Math.min.name, Cond.methodLink RL 94 yX10_nights, Cond.instanceMethod yX10_nights, Cond.selects RX10 yX10_nights yX10_nights, Cond.code yX10_nights cX10_nights 4 (some .int), Cond.fieldLink RX10 189 "CoastWatchModel" "lots" "I", Cond.methodLink RX10 228 yX10_pass, Cond.instanceMethod yX10_pass, Cond.selects RX10 yX10_pass yX10_pass, Cond.code yX10_pass cX10_pass 3 none, Cond.methodLink RX10 216 yX10_watch, Cond.instanceMethod yX10_watch, Cond.selects RX10 yX10_watch yX10_watch, Cond.code yX10_watch cX10_watch 6 none, Cond.methodLink RX10 183 yX10_drawBelow, Cond.instanceMethod yX10_drawBelow, Cond.selects RX10 yX10_drawBelow yX10_drawBelow, Cond.code yX10_drawBelow cX10_drawBelow 2 (some .int), Cond.constant RX10 182 (1103515245), Cond.methodLink RX10 219 yX10_choice, Cond.instanceMethod yX10_choice, Cond.selects RX10 yX10_choice yX10_choice, Cond.code yX10_choice cX10_choice 5 (some .int), Cond.methodLink RX10 186 yX10_lightAt]
def wsL_law_r25 : List Cond := [Cond.static yX10_lightAt, Cond.code yX10_lightAt cX10_lightAt 2 (some .int), Cond.methodLink RX10 222 yX10_goes, Cond.instanceMethod yX10_goes, Cond.selects RX10 yX10_goes yX10_goes, Cond.code yX10_goes cX10_goes 5 none, Cond.methodLink RX10 195 yX10_counting, Cond.instanceMethod yX10_counting, Cond.selects RX10 yX10_counting yX10_counting, Cond.code yX10_counting cX10_counting 2 (some .int), Cond.methodLink RX10 198 yX10_teller, Cond.instanceMethod yX10_teller, Cond.selects RX10 yX10_teller yX10_teller, Cond.code yX10_teller cX10_teller 3 (some .int), Cond.methodLink RX10 201 yX10_partCasks, Cond.instanceMethod yX10_partCasks, Cond.selects RX10 yX10_partCasks yX10_partCasks, Cond.code yX10_partCasks cX10_partCasks 7 none, Cond.methodLink RX10 205 yX10_lot, Cond.instanceMethod yX10_lot, Cond.selects RX10 yX10_lot yX10_lot, Cond.code yX10_lot cX10_lot 5 none, Cond.methodLink RX10 209 yX10_moreFear, Cond.instanceMethod yX10_moreFear]
def wsL_law_r26 : List Cond := [Cond.selects RX10 yX10_moreFear yX10_moreFear, Cond.code yX10_moreFear cX10_moreFear 5 none, Cond.methodLink RX10 213 yX10_hideFor, Cond.instanceMethod yX10_hideFor, Cond.selects RX10 yX10_hideFor yX10_hideFor, Cond.code yX10_hideFor cX10_hideFor 4 (some .int), Cond.methodLink RX10 192 yX10_liesIn, Cond.instanceMethod yX10_liesIn, Cond.selects RX10 yX10_liesIn yX10_liesIn, Cond.code yX10_liesIn cX10_liesIn 4 (some .int), Cond.methodLink RX10 225 yX10_prove, Cond.instanceMethod yX10_prove, Cond.selects RX10 yX10_prove yX10_prove, Cond.code yX10_prove cX10_prove 5 none, Cond.methodLink RL 95 yX9_search, Cond.instanceMethod yX9_search, Cond.selects RX9 yX9_search yX9_search, Cond.code yX9_search cX9_search 4 (some .int), Cond.fieldLink RX9 196 "CoastWatch$Lots" "place" "[I", Cond.fieldLink RX9 199 "CoastWatch$Lots" "casks" "[I", Cond.fieldLink RX9 206 "CoastWatch$Hides" "guess" "[I", Cond.methodLink RX9 189 yX9_isHide, Cond.instanceMethod yX9_isHide, Cond.selects RX9 yX9_isHide yX9_isHide]
def wsL_law_r27 : List Cond := [Cond.code yX9_isHide cX9_isHide 2 (some .boolean), Cond.methodLink RX9 192 yX5_liesIn, Cond.instanceMethod yX5_liesIn, Cond.selects RX5 yX5_liesIn yX5_liesIn, Cond.code yX5_liesIn cX5_liesIn 3 (some .boolean), Cond.methodLink RL 98 yX10_search, Cond.instanceMethod yX10_search, Cond.selects RX10 yX10_search yX10_search, Cond.code yX10_search cX10_search 4 (some .int), Cond.methodLink RL 99 yX9_best, Cond.instanceMethod yX9_best, Cond.selects RX9 yX9_best yX9_best, Cond.code yX9_best cX9_best 2 (some .int), Cond.methodLink RX9 209 yX3_bestSet, Cond.instanceMethod yX3_bestSet, Cond.selects RX3 yX3_bestSet yX3_bestSet, Cond.code yX3_bestSet cX3_bestSet 7 (some .int), Cond.constantLong RX3 41 (8192), Cond.methodLink RX3 43 Lib.MathLoose.max_long.x, Cond.static Lib.MathLoose.max_long.x, Cond.code Lib.MathLoose.max_long.x Lib.MathLoose.max_long.code 4 (some .long), Cond.constantLong RX3 47 (8191), Cond.methodLink RL 102 yX10_best, Cond.instanceMethod yX10_best]
def wsL_law_r28 : List Cond := [Cond.selects RX10 yX10_best yX10_best, Cond.code yX10_best cX10_best 8 (some .int), Cond.methodLink RX10 231 yX10_ones, Cond.static yX10_ones, Cond.code yX10_ones cX10_ones 3 (some .int), Cond.methodLink RL 103 yX9_belief, Cond.instanceMethod yX9_belief, Cond.selects RX9 yX9_belief yX9_belief, Cond.code yX9_belief cX9_belief 8 (some .long), Cond.methodLink RX9 212 yX9_isPart, Cond.static yX9_isPart, Cond.code yX9_isPart cX9_isPart 1 (some .boolean), Cond.methodLink RX9 215 yX8_doubtAbove, Cond.instanceMethod yX8_doubtAbove, Cond.selects RX8 yX8_doubtAbove yX8_doubtAbove, Cond.code yX8_doubtAbove cX8_doubtAbove 6 (some .long), Cond.methodLink RX9 219 yX8_doubtBelow, Cond.instanceMethod yX8_doubtBelow, Cond.selects RX8 yX8_doubtBelow yX8_doubtBelow, Cond.code yX8_doubtBelow cX8_doubtBelow 6 (some .long), Cond.methodLink RX8 35 yX8_provedOf, Cond.instanceMethod yX8_provedOf, Cond.selects RX8 yX8_provedOf yX8_provedOf, Cond.code yX8_provedOf cX8_provedOf 2 (some .int)]
def wsL_law_r29 : List Cond := [Cond.methodLink RX9 222 yX9_lowest, Cond.static yX9_lowest, Cond.code yX9_lowest cX9_lowest 7 (some .long), Cond.methodLink RX9 305 yX9_commonDivisor, Cond.static yX9_commonDivisor, Cond.code yX9_commonDivisor cX9_commonDivisor 7 (some .long), Cond.methodLink RL 107 yX10_belief, Cond.instanceMethod yX10_belief, Cond.selects RX10 yX10_belief yX10_belief, Cond.code yX10_belief cX10_belief 11 (some .long), Cond.methodLink RX10 238 yX10_side, Cond.static yX10_side, Cond.code yX10_side cX10_side 7 (some .long), Cond.methodLink RX10 234 yX10_divisor, Cond.static yX10_divisor, Cond.code yX10_divisor cX10_divisor 10 (some .long), Cond.methodLink RL 108 yX9_weight, Cond.instanceMethod yX9_weight, Cond.selects RX9 yX9_weight yX9_weight, Cond.code yX9_weight cX9_weight 3 (some .int), Cond.fieldLink RX9 226 "CoastWatch$Words" "right" "[I", Cond.methodLink RX9 229 yX8_provedOf, Cond.methodLink RL 111 yX10_weight, Cond.instanceMethod yX10_weight]
def wsL_law_r30 : List Cond := [Cond.selects RX10 yX10_weight yX10_weight, Cond.code yX10_weight cX10_weight 3 (some .int), Cond.methodLink RL 112 yX9_value, Cond.instanceMethod yX9_value, Cond.selects RX9 yX9_value yX9_value, Cond.code yX9_value cX9_value 5 (some .long), Cond.constantLong RX9 235 (4000000000000000000), Cond.fieldLink RX9 241 "CoastWatch$Game" "above" "J", Cond.fieldLink RX9 245 "CoastWatch$Game" "below" "J", Cond.methodLink RX9 232 yX9_gameRefusal, Cond.static yX9_gameRefusal, Cond.code yX9_gameRefusal cX9_gameRefusal 3 (some .int), Cond.methodLink RX9 237 yX2_solve, Cond.instanceMethod yX2_solve, Cond.selects RX2 yX2_solve yX2_solve, Cond.code yX2_solve cX2_solve 13 none, Cond.methodLink RX2 22 yX2_sortDown, Cond.instanceMethod yX2_sortDown, Cond.selects RX2 yX2_sortDown yX2_sortDown, Cond.code yX2_sortDown cX2_sortDown 5 none, Cond.methodLink RL 115 yX10_value, Cond.instanceMethod yX10_value, Cond.selects RX10 yX10_value yX10_value, Cond.code yX10_value cX10_value 4 (some .long)]
def wsL_law_r31 : List Cond := [Cond.fieldLink RX10 242 "CoastWatchModel" "gameAbove" "J", Cond.fieldLink RX10 246 "CoastWatchModel" "gameBelow" "J", Cond.methodLink RX10 251 yX10_refuseBig, Cond.instanceMethod yX10_refuseBig, Cond.selects RX10 yX10_refuseBig yX10_refuseBig, Cond.code yX10_refuseBig cX10_refuseBig 2 (some .long), Cond.constantLong RX10 249 (4000000000000000000), Cond.methodLink RX10 255 yX10_play, Cond.instanceMethod yX10_play, Cond.selects RX10 yX10_play yX10_play, Cond.code yX10_play cX10_play 13 none, Cond.methodLink RL 116 yX9_chance, Cond.instanceMethod yX9_chance, Cond.selects RX9 yX9_chance yX9_chance, Cond.code yX9_chance cX9_chance 10 (some .long), Cond.methodLink RL 120 yX10_chance, Cond.instanceMethod yX10_chance, Cond.selects RX10 yX10_chance yX10_chance, Cond.code yX10_chance cX10_chance 7 (some .long), Cond.methodLink RL 121 yX9_used, Cond.instanceMethod yX9_used, Cond.selects RX9 yX9_used yX9_used, Cond.code yX9_used cX9_used 5 (some .int), Cond.constant RX9 251 (100000)]
def wsL_law_r32 : List Cond := [Cond.fieldLink RX9 252 "CoastWatch$Seasons" "least" "[I", Cond.fieldLink RX9 255 "CoastWatch$Seasons" "most" "[I", Cond.fieldLink RX9 258 "CoastWatch$Seasons" "byLaw" "[I", Cond.methodLink RX9 248 yX9_isSeason, Cond.static yX9_isSeason, Cond.code yX9_isSeason cX9_isSeason 1 (some .boolean), Cond.methodLink RL 124 yX10_used, Cond.instanceMethod yX10_used, Cond.selects RX10 yX10_used yX10_used, Cond.code yX10_used cX10_used 5 (some .int), Cond.constant RX10 258 (100000), Cond.methodLink RL 125 yX9_landed, Cond.instanceMethod yX9_landed, Cond.selects RX9 yX9_landed yX9_landed, Cond.code yX9_landed cX9_landed 3 (some .int), Cond.methodLink RX9 261 yX5_seizedIn, Cond.instanceMethod yX5_seizedIn, Cond.selects RX5 yX5_seizedIn yX5_seizedIn, Cond.code yX5_seizedIn cX5_seizedIn 4 (some .int), Cond.methodLink RX9 264 yX6_landedOf, Cond.instanceMethod yX6_landedOf, Cond.selects RX6 yX6_landedOf yX6_landedOf, Cond.code yX6_landedOf cX6_landedOf 4 (some .int), Cond.methodLink RX6 21 Lib.Math.max.name]
def wsL_law_r33 : List Cond := [Cond.static Lib.Math.max.name, Cond.code Lib.Math.max.name Lib.Math.max.code 2 (some .int), Cond.methodLink RX9 267 yX5_heldIn, Cond.instanceMethod yX5_heldIn, Cond.selects RX5 yX5_heldIn yX5_heldIn, Cond.code yX5_heldIn cX5_heldIn 4 (some .int), Cond.methodLink RL 128 yX10_landed, Cond.instanceMethod yX10_landed, Cond.selects RX10 yX10_landed yX10_landed, Cond.code yX10_landed cX10_landed 4 (some .int), Cond.methodLink RX10 259 yX10_casksOf, Cond.instanceMethod yX10_casksOf, Cond.selects RX10 yX10_casksOf yX10_casksOf, Cond.code yX10_casksOf cX10_casksOf 5 (some .int), Cond.methodLink RL 129 yX9_lotOf, Cond.instanceMethod yX9_lotOf, Cond.selects RX9 yX9_lotOf yX9_lotOf, Cond.code yX9_lotOf cX9_lotOf 3 (some .int), Cond.fieldLink RX9 270 "CoastWatch$Lots" "boat" "[I", Cond.fieldLink RX9 273 "CoastWatch$Lots" "night" "[I", Cond.fieldLink RX9 275 "CoastWatch$Lots" "cove" "[I", Cond.fieldLink RX9 278 "CoastWatch$Lots" "hide" "[I", Cond.methodLink RL 132 yX10_lotOf, Cond.instanceMethod yX10_lotOf]
def wsL_law_r34 : List Cond := [Cond.selects RX10 yX10_lotOf yX10_lotOf, Cond.code yX10_lotOf cX10_lotOf 3 (some .int), Cond.methodLink RL 133 yX9_boatOf, Cond.instanceMethod yX9_boatOf, Cond.selects RX9 yX9_boatOf yX9_boatOf, Cond.code yX9_boatOf cX9_boatOf 3 (some .int), Cond.methodLink RL 136 yX10_boatOf, Cond.instanceMethod yX10_boatOf, Cond.selects RX10 yX10_boatOf yX10_boatOf, Cond.code yX10_boatOf cX10_boatOf 3 (some .int), Cond.methodLink RL 137 yX9_hideOf, Cond.instanceMethod yX9_hideOf, Cond.selects RX9 yX9_hideOf yX9_hideOf, Cond.code yX9_hideOf cX9_hideOf 3 (some .int), Cond.fieldLink RX9 290 "CoastWatch$Hides" "cove" "[I", Cond.methodLink RL 140 yX10_hideOf, Cond.instanceMethod yX10_hideOf, Cond.selects RX10 yX10_hideOf yX10_hideOf, Cond.code yX10_hideOf cX10_hideOf 3 (some .int), Cond.methodLink RL 141 yX9_watched, Cond.instanceMethod yX9_watched, Cond.selects RX9 yX9_watched yX9_watched, Cond.code yX9_watched cX9_watched 2 (some .int), Cond.methodLink RL 144 yX10_watched]
def wsL_law_r35 : List Cond := [Cond.instanceMethod yX10_watched, Cond.selects RX10 yX10_watched yX10_watched, Cond.code yX10_watched cX10_watched 2 (some .int), Cond.methodLink RL 145 yX9_coins, Cond.instanceMethod yX9_coins, Cond.selects RX9 yX9_coins yX9_coins, Cond.code yX9_coins cX9_coins 2 (some .int), Cond.methodLink RL 148 yX10_coins, Cond.instanceMethod yX10_coins, Cond.selects RX10 yX10_coins yX10_coins, Cond.code yX10_coins cX10_coins 2 (some .int), Cond.methodLink RL 149 yX9_count, Cond.instanceMethod yX9_count, Cond.selects RX9 yX9_count yX9_count, Cond.code yX9_count cX9_count 2 (some .int), Cond.constant RX9 304 (65535), Cond.methodLink RX9 294 yX8_rightOnes, Cond.instanceMethod yX8_rightOnes, Cond.selects RX8 yX8_rightOnes yX8_rightOnes, Cond.code yX8_rightOnes cX8_rightOnes 3 (some .int), Cond.methodLink RX9 298 yX8_wrongOnes, Cond.instanceMethod yX8_wrongOnes, Cond.selects RX8 yX8_wrongOnes yX8_wrongOnes, Cond.code yX8_wrongOnes cX8_wrongOnes 3 (some .int)]
def wsL_law_r36 : List Cond := [Cond.methodLink RL 152 yX10_count, Cond.instanceMethod yX10_count, Cond.selects RX10 yX10_count yX10_count, Cond.code yX10_count cX10_count 4 (some .int), Cond.constant RX10 263 (65535)]
def wsL_law : List Cond := (wsL_law_r1 ++ (wsL_law_r2 ++ (wsL_law_r3 ++ (wsL_law_r4 ++ (wsL_law_r5 ++ (wsL_law_r6 ++ (wsL_law_r7 ++ (wsL_law_r8 ++ (wsL_law_r9 ++ (wsL_law_r10 ++ (wsL_law_r11 ++ (wsL_law_r12 ++ (wsL_law_r13 ++ (wsL_law_r14 ++ (wsL_law_r15 ++ (wsL_law_r16 ++ (wsL_law_r17 ++ (wsL_law_r18 ++ (wsL_law_r19 ++ (wsL_law_r20 ++ (wsL_law_r21 ++ (wsL_law_r22 ++ (wsL_law_r23 ++ (wsL_law_r24 ++ (wsL_law_r25 ++ (wsL_law_r26 ++ (wsL_law_r27 ++ (wsL_law_r28 ++ (wsL_law_r29 ++ (wsL_law_r30 ++ (wsL_law_r31 ++ (wsL_law_r32 ++ (wsL_law_r33 ++ (wsL_law_r34 ++ (wsL_law_r35 ++ wsL_law_r36))))))))))))))))))))))))))))))))))) ++ wsX90 ++ wsX100 ++ wsX70 ++ wsX10 ++ wsX00 ++ wsX30 ++ wsX50 ++ wsX40 ++ wsX80 ++ wsX60 ++ wsX20 ++ ([] : List Cond)
set_option maxRecDepth 20000 in
theorem wsL_law_in : ∀ w ∈ wsL_law, w ∈ lw_tbl := fun w h => (goodIn_p wsL_law [54, 57, 62, 80, 116, 160, 193, 228, 250, 279, 298, 743, 361, 911, 365, 368, 372, 915, 918, 921, 925, 376, 379, 383, 929, 387, 391, 395, 933, 399, 937, 403, 407, 941, 414, 945, 419, 423, 950, 954, 427, 431, 958, 435, 439, 962, 443, 447, 966, 451, 970, 455, 974, 459, 978, 463, 982, 467, 986, 471, 475, 990, 479, 482, 486, 490, 494, 994, 498, 502, 506, 510, 514, 519, 523, 527, 531, 535, 539, 543, 547, 551, 555, 559, 563, 567, 570, 574, 578, 582, 586, 590, 594, 598, 602, 998, 1002, 1006, 1010, 1015, 1018, 1022, 1026, 1030, 1034, 1038, 1042, 1046, 1050, 1054, 607, 611, 615, 1058, 619, 623, 627, 1062, 1065, 632, 635, 639, 643, 647, 650, 653, 1069, 1072, 1075, 657, 1079, 662, 665, 670, 674, 1083, 1087, 1092, 678, 1096, 682, 685, 1100, 690, 694, 698, 701, 705, 1105, 1109, 709, 1113, 713, 1117, 717, 1121, 721, 1125, 725, 1129, 729, 733, 737, 1133] (by decide +kernel) (by decide +kernel) w h).1
theorem inlX0 : ∀ w ∈ wsX00, w ∈ wsL_law := fun _ h => List.mem_append_left _ (List.mem_append_left _ (List.mem_append_left _ (List.mem_append_left _ (List.mem_append_left _ (List.mem_append_left _ (List.mem_append_left _ (List.mem_append_right _ h)))))))
theorem inX0 : ∀ w ∈ wsX00, w ∈ lw_tbl := fun w h => wsL_law_in w (inlX0 w h)
theorem inlX1 : ∀ w ∈ wsX10, w ∈ wsL_law := fun _ h => List.mem_append_left _ (List.mem_append_left _ (List.mem_append_left _ (List.mem_append_left _ (List.mem_append_left _ (List.mem_append_left _ (List.mem_append_left _ (List.mem_append_left _ (List.mem_append_right _ h))))))))
theorem inX1 : ∀ w ∈ wsX10, w ∈ lw_tbl := fun w h => wsL_law_in w (inlX1 w h)
theorem inlX2 : ∀ w ∈ wsX20, w ∈ wsL_law := fun _ h => List.mem_append_left _ (List.mem_append_right _ h)
theorem inX2 : ∀ w ∈ wsX20, w ∈ lw_tbl := fun w h => wsL_law_in w (inlX2 w h)
theorem inlX3 : ∀ w ∈ wsX30, w ∈ wsL_law := fun _ h => List.mem_append_left _ (List.mem_append_left _ (List.mem_append_left _ (List.mem_append_left _ (List.mem_append_left _ (List.mem_append_left _ (List.mem_append_right _ h))))))
theorem inX3 : ∀ w ∈ wsX30, w ∈ lw_tbl := fun w h => wsL_law_in w (inlX3 w h)
theorem inlX4 : ∀ w ∈ wsX40, w ∈ wsL_law := fun _ h => List.mem_append_left _ (List.mem_append_left _ (List.mem_append_left _ (List.mem_append_left _ (List.mem_append_right _ h))))
theorem inX4 : ∀ w ∈ wsX40, w ∈ lw_tbl := fun w h => wsL_law_in w (inlX4 w h)
theorem inlX5 : ∀ w ∈ wsX50, w ∈ wsL_law := fun _ h => List.mem_append_left _ (List.mem_append_left _ (List.mem_append_left _ (List.mem_append_left _ (List.mem_append_left _ (List.mem_append_right _ h)))))
theorem inX5 : ∀ w ∈ wsX50, w ∈ lw_tbl := fun w h => wsL_law_in w (inlX5 w h)
theorem inlX6 : ∀ w ∈ wsX60, w ∈ wsL_law := fun _ h => List.mem_append_left _ (List.mem_append_left _ (List.mem_append_right _ h))
theorem inX6 : ∀ w ∈ wsX60, w ∈ lw_tbl := fun w h => wsL_law_in w (inlX6 w h)
theorem inlX7 : ∀ w ∈ wsX70, w ∈ wsL_law := fun _ h => List.mem_append_left _ (List.mem_append_left _ (List.mem_append_left _ (List.mem_append_left _ (List.mem_append_left _ (List.mem_append_left _ (List.mem_append_left _ (List.mem_append_left _ (List.mem_append_left _ (List.mem_append_right _ h)))))))))
theorem inX7 : ∀ w ∈ wsX70, w ∈ lw_tbl := fun w h => wsL_law_in w (inlX7 w h)
theorem inlX8 : ∀ w ∈ wsX80, w ∈ wsL_law := fun _ h => List.mem_append_left _ (List.mem_append_left _ (List.mem_append_left _ (List.mem_append_right _ h)))
theorem inX8 : ∀ w ∈ wsX80, w ∈ lw_tbl := fun w h => wsL_law_in w (inlX8 w h)
theorem inlX9 : ∀ w ∈ wsX90, w ∈ wsL_law := fun _ h => List.mem_append_left _ (List.mem_append_left _ (List.mem_append_left _ (List.mem_append_left _ (List.mem_append_left _ (List.mem_append_left _ (List.mem_append_left _ (List.mem_append_left _ (List.mem_append_left _ (List.mem_append_left _ (List.mem_append_left _ (List.mem_append_right _ h)))))))))))
theorem inX9 : ∀ w ∈ wsX90, w ∈ lw_tbl := fun w h => wsL_law_in w (inlX9 w h)
theorem inlX10 : ∀ w ∈ wsX100, w ∈ wsL_law := fun _ h => List.mem_append_left _ (List.mem_append_left _ (List.mem_append_left _ (List.mem_append_left _ (List.mem_append_left _ (List.mem_append_left _ (List.mem_append_left _ (List.mem_append_left _ (List.mem_append_left _ (List.mem_append_left _ (List.mem_append_right _ h))))))))))
theorem inX10 : ∀ w ∈ wsX100, w ∈ lw_tbl := fun w h => wsL_law_in w (inlX10 w h)
theorem inJ9 : ∀ w ∈ wsJ90, w ∈ lw_tbl := by decide +kernel
theorem inJ10 : ∀ w ∈ wsJ100, w ∈ lw_tbl := by decide +kernel
