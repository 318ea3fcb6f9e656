section
-- ===== PART A: goes FIRST, ahead of the names: the tables' words, and 'selects' of the private methods out of them =====
/-- a private method of a class that the tables say can be made, by its rows of tables_1 -/
def lw_okq (q : MethodName × Nat) : Prop := (q.1.cls ≠ "java/lang/invoke/MethodHandle" ∧ q.1.cls ≠ "java/lang/invoke/VarHandle") ∧ Cond.instantiable q.1.cls q.2 ∈ tables_1 ∧ Cond.privateMethod q.1 ∈ tables_1 ∧ Cond.instanceMethod q.1 ∈ tables_1
theorem lw_p0 : lw_okq (⟨"CoastWatch", "refuse", "(I)I"⟩, 15) := ⟨⟨by decide +kernel, by decide +kernel⟩, List.mem_of_getElem? (i := 15) (by decide +kernel), List.mem_of_getElem? (i := 334) (by decide +kernel), List.mem_of_getElem? (i := 335) (by decide +kernel)⟩
theorem lw_p1 : lw_okq (⟨"CoastWatch", "tideAt", "(II)I"⟩, 15) := ⟨⟨by decide +kernel, by decide +kernel⟩, List.mem_of_getElem? (i := 15) (by decide +kernel), List.mem_of_getElem? (i := 385) (by decide +kernel), List.mem_of_getElem? (i := 386) (by decide +kernel)⟩
theorem lw_p2 : lw_okq (⟨"CoastWatch", "isBoat", "(I)Z"⟩, 15) := ⟨⟨by decide +kernel, by decide +kernel⟩, List.mem_of_getElem? (i := 15) (by decide +kernel), List.mem_of_getElem? (i := 401) (by decide +kernel), List.mem_of_getElem? (i := 402) (by decide +kernel)⟩
theorem lw_p3 : lw_okq (⟨"CoastWatch", "passNight", "()V"⟩, 15) := ⟨⟨by decide +kernel, by decide +kernel⟩, List.mem_of_getElem? (i := 15) (by decide +kernel), List.mem_of_getElem? (i := 464) (by decide +kernel), List.mem_of_getElem? (i := 465) (by decide +kernel)⟩
theorem lw_p4 : lw_okq (⟨"CoastWatch", "placeWatchers", "()V"⟩, 15) := ⟨⟨by decide +kernel, by decide +kernel⟩, List.mem_of_getElem? (i := 15) (by decide +kernel), List.mem_of_getElem? (i := 468) (by decide +kernel), List.mem_of_getElem? (i := 469) (by decide +kernel)⟩
theorem lw_p5 : lw_okq (⟨"CoastWatch", "drawBelow", "(I)I"⟩, 15) := ⟨⟨by decide +kernel, by decide +kernel⟩, List.mem_of_getElem? (i := 15) (by decide +kernel), List.mem_of_getElem? (i := 476) (by decide +kernel), List.mem_of_getElem? (i := 477) (by decide +kernel)⟩
theorem lw_p6 : lw_okq (⟨"CoastWatch", "sendOut", "(I)V"⟩, 15) := ⟨⟨by decide +kernel, by decide +kernel⟩, List.mem_of_getElem? (i := 15) (by decide +kernel), List.mem_of_getElem? (i := 485) (by decide +kernel), List.mem_of_getElem? (i := 486) (by decide +kernel)⟩
theorem lw_p7 : lw_okq (⟨"CoastWatch", "light", "()I"⟩, 15) := ⟨⟨by decide +kernel, by decide +kernel⟩, List.mem_of_getElem? (i := 15) (by decide +kernel), List.mem_of_getElem? (i := 489) (by decide +kernel), List.mem_of_getElem? (i := 490) (by decide +kernel)⟩
theorem lw_p8 : lw_okq (⟨"CoastWatch", "chosenCove", "(I)I"⟩, 15) := ⟨⟨by decide +kernel, by decide +kernel⟩, List.mem_of_getElem? (i := 15) (by decide +kernel), List.mem_of_getElem? (i := 493) (by decide +kernel), List.mem_of_getElem? (i := 494) (by decide +kernel)⟩
theorem lw_p9 : lw_okq (⟨"CoastWatch", "isOpen", "(II)Z"⟩, 15) := ⟨⟨by decide +kernel, by decide +kernel⟩, List.mem_of_getElem? (i := 15) (by decide +kernel), List.mem_of_getElem? (i := 497) (by decide +kernel), List.mem_of_getElem? (i := 498) (by decide +kernel)⟩
theorem lw_p10 : lw_okq (⟨"CoastWatch", "isDearer", "(III)Z"⟩, 15) := ⟨⟨by decide +kernel, by decide +kernel⟩, List.mem_of_getElem? (i := 15) (by decide +kernel), List.mem_of_getElem? (i := 501) (by decide +kernel), List.mem_of_getElem? (i := 502) (by decide +kernel)⟩
theorem lw_p11 : lw_okq (⟨"CoastWatch", "meetWatchers", "(III)V"⟩, 15) := ⟨⟨by decide +kernel, by decide +kernel⟩, List.mem_of_getElem? (i := 15) (by decide +kernel), List.mem_of_getElem? (i := 509) (by decide +kernel), List.mem_of_getElem? (i := 510) (by decide +kernel)⟩
theorem lw_p12 : lw_okq (⟨"CoastWatch", "partSeized", "(II)V"⟩, 15) := ⟨⟨by decide +kernel, by decide +kernel⟩, List.mem_of_getElem? (i := 15) (by decide +kernel), List.mem_of_getElem? (i := 521) (by decide +kernel), List.mem_of_getElem? (i := 522) (by decide +kernel)⟩
theorem lw_p13 : lw_okq (⟨"CoastWatch", "bringAshore", "(II)V"⟩, 15) := ⟨⟨by decide +kernel, by decide +kernel⟩, List.mem_of_getElem? (i := 15) (by decide +kernel), List.mem_of_getElem? (i := 536) (by decide +kernel), List.mem_of_getElem? (i := 537) (by decide +kernel)⟩
theorem lw_p14 : lw_okq (⟨"CoastWatch", "lookAt", "(II)V"⟩, 15) := ⟨⟨by decide +kernel, by decide +kernel⟩, List.mem_of_getElem? (i := 15) (by decide +kernel), List.mem_of_getElem? (i := 544) (by decide +kernel), List.mem_of_getElem? (i := 545) (by decide +kernel)⟩
theorem lw_p15 : lw_okq (⟨"CoastWatch", "proveWords", "()V"⟩, 15) := ⟨⟨by decide +kernel, by decide +kernel⟩, List.mem_of_getElem? (i := 15) (by decide +kernel), List.mem_of_getElem? (i := 552) (by decide +kernel), List.mem_of_getElem? (i := 553) (by decide +kernel)⟩
def lw_privs_1 : List (MethodName × Nat) := [(⟨"CoastWatch", "refuse", "(I)I"⟩, 15), (⟨"CoastWatch", "tideAt", "(II)I"⟩, 15), (⟨"CoastWatch", "isBoat", "(I)Z"⟩, 15), (⟨"CoastWatch", "passNight", "()V"⟩, 15), (⟨"CoastWatch", "placeWatchers", "()V"⟩, 15), (⟨"CoastWatch", "drawBelow", "(I)I"⟩, 15), (⟨"CoastWatch", "sendOut", "(I)V"⟩, 15), (⟨"CoastWatch", "light", "()I"⟩, 15), (⟨"CoastWatch", "chosenCove", "(I)I"⟩, 15), (⟨"CoastWatch", "isOpen", "(II)Z"⟩, 15), (⟨"CoastWatch", "isDearer", "(III)Z"⟩, 15), (⟨"CoastWatch", "meetWatchers", "(III)V"⟩, 15), (⟨"CoastWatch", "partSeized", "(II)V"⟩, 15), (⟨"CoastWatch", "bringAshore", "(II)V"⟩, 15), (⟨"CoastWatch", "lookAt", "(II)V"⟩, 15), (⟨"CoastWatch", "proveWords", "()V"⟩, 15)]
theorem lw_r1 : ∀ q ∈ lw_privs_1, lw_okq q := List.forall_mem_cons.mpr ⟨lw_p0, List.forall_mem_cons.mpr ⟨lw_p1, List.forall_mem_cons.mpr ⟨lw_p2, List.forall_mem_cons.mpr ⟨lw_p3, List.forall_mem_cons.mpr ⟨lw_p4, List.forall_mem_cons.mpr ⟨lw_p5, List.forall_mem_cons.mpr ⟨lw_p6, List.forall_mem_cons.mpr ⟨lw_p7, List.forall_mem_cons.mpr ⟨lw_p8, List.forall_mem_cons.mpr ⟨lw_p9, List.forall_mem_cons.mpr ⟨lw_p10, List.forall_mem_cons.mpr ⟨lw_p11, List.forall_mem_cons.mpr ⟨lw_p12, List.forall_mem_cons.mpr ⟨lw_p13, List.forall_mem_cons.mpr ⟨lw_p14, List.forall_mem_cons.mpr ⟨lw_p15, fun _ h => absurd h List.not_mem_nil⟩⟩⟩⟩⟩⟩⟩⟩⟩⟩⟩⟩⟩⟩⟩⟩
theorem lw_p16 : lw_okq (⟨"CoastWatch", "isHide", "(I)Z"⟩, 15) := ⟨⟨by decide +kernel, by decide +kernel⟩, List.mem_of_getElem? (i := 15) (by decide +kernel), List.mem_of_getElem? (i := 573) (by decide +kernel), List.mem_of_getElem? (i := 574) (by decide +kernel)⟩
theorem lw_p17 : lw_okq (⟨"CoastWatch$Game", "sortDown", "([I)V"⟩, 3) := ⟨⟨by decide +kernel, by decide +kernel⟩, List.mem_of_getElem? (i := 259) (by decide +kernel), List.mem_of_getElem? (i := 636) (by decide +kernel), List.mem_of_getElem? (i := 637) (by decide +kernel)⟩
theorem lw_p18 : lw_okq (⟨"CoastWatchModel", "refuse", "(I)I"⟩, 54) := ⟨⟨by decide +kernel, by decide +kernel⟩, List.mem_of_getElem? (i := 704) (by decide +kernel), List.mem_of_getElem? (i := 887) (by decide +kernel), List.mem_of_getElem? (i := 888) (by decide +kernel)⟩
theorem lw_p19 : lw_okq (⟨"CoastWatchModel", "tideAt", "(II)I"⟩, 54) := ⟨⟨by decide +kernel, by decide +kernel⟩, List.mem_of_getElem? (i := 704) (by decide +kernel), List.mem_of_getElem? (i := 916) (by decide +kernel), List.mem_of_getElem? (i := 917) (by decide +kernel)⟩
theorem lw_p20 : lw_okq (⟨"CoastWatchModel", "pass", "()V"⟩, 54) := ⟨⟨by decide +kernel, by decide +kernel⟩, List.mem_of_getElem? (i := 704) (by decide +kernel), List.mem_of_getElem? (i := 964) (by decide +kernel), List.mem_of_getElem? (i := 965) (by decide +kernel)⟩
theorem lw_p21 : lw_okq (⟨"CoastWatchModel", "watch", "()V"⟩, 54) := ⟨⟨by decide +kernel, by decide +kernel⟩, List.mem_of_getElem? (i := 704) (by decide +kernel), List.mem_of_getElem? (i := 968) (by decide +kernel), List.mem_of_getElem? (i := 969) (by decide +kernel)⟩
theorem lw_p22 : lw_okq (⟨"CoastWatchModel", "drawBelow", "(I)I"⟩, 54) := ⟨⟨by decide +kernel, by decide +kernel⟩, List.mem_of_getElem? (i := 704) (by decide +kernel), List.mem_of_getElem? (i := 972) (by decide +kernel), List.mem_of_getElem? (i := 973) (by decide +kernel)⟩
theorem lw_p23 : lw_okq (⟨"CoastWatchModel", "choice", "(I)I"⟩, 54) := ⟨⟨by decide +kernel, by decide +kernel⟩, List.mem_of_getElem? (i := 704) (by decide +kernel), List.mem_of_getElem? (i := 977) (by decide +kernel), List.mem_of_getElem? (i := 978) (by decide +kernel)⟩
theorem lw_p24 : lw_okq (⟨"CoastWatchModel", "goes", "(II)V"⟩, 54) := ⟨⟨by decide +kernel, by decide +kernel⟩, List.mem_of_getElem? (i := 704) (by decide +kernel), List.mem_of_getElem? (i := 984) (by decide +kernel), List.mem_of_getElem? (i := 985) (by decide +kernel)⟩
theorem lw_p25 : lw_okq (⟨"CoastWatchModel", "counting", "(I)I"⟩, 54) := ⟨⟨by decide +kernel, by decide +kernel⟩, List.mem_of_getElem? (i := 704) (by decide +kernel), List.mem_of_getElem? (i := 988) (by decide +kernel), List.mem_of_getElem? (i := 989) (by decide +kernel)⟩
theorem lw_p26 : lw_okq (⟨"CoastWatchModel", "teller", "(I)I"⟩, 54) := ⟨⟨by decide +kernel, by decide +kernel⟩, List.mem_of_getElem? (i := 704) (by decide +kernel), List.mem_of_getElem? (i := 992) (by decide +kernel), List.mem_of_getElem? (i := 993) (by decide +kernel)⟩
theorem lw_p27 : lw_okq (⟨"CoastWatchModel", "partCasks", "(II)V"⟩, 54) := ⟨⟨by decide +kernel, by decide +kernel⟩, List.mem_of_getElem? (i := 704) (by decide +kernel), List.mem_of_getElem? (i := 996) (by decide +kernel), List.mem_of_getElem? (i := 997) (by decide +kernel)⟩
theorem lw_p28 : lw_okq (⟨"CoastWatchModel", "lot", "(IIII)V"⟩, 54) := ⟨⟨by decide +kernel, by decide +kernel⟩, List.mem_of_getElem? (i := 704) (by decide +kernel), List.mem_of_getElem? (i := 1000) (by decide +kernel), List.mem_of_getElem? (i := 1001) (by decide +kernel)⟩
theorem lw_p29 : lw_okq (⟨"CoastWatchModel", "moreFear", "(III)V"⟩, 54) := ⟨⟨by decide +kernel, by decide +kernel⟩, List.mem_of_getElem? (i := 704) (by decide +kernel), List.mem_of_getElem? (i := 1004) (by decide +kernel), List.mem_of_getElem? (i := 1005) (by decide +kernel)⟩
theorem lw_p30 : lw_okq (⟨"CoastWatchModel", "hideFor", "(II)I"⟩, 54) := ⟨⟨by decide +kernel, by decide +kernel⟩, List.mem_of_getElem? (i := 704) (by decide +kernel), List.mem_of_getElem? (i := 1008) (by decide +kernel), List.mem_of_getElem? (i := 1009) (by decide +kernel)⟩
theorem lw_p31 : lw_okq (⟨"CoastWatchModel", "liesIn", "(I)I"⟩, 54) := ⟨⟨by decide +kernel, by decide +kernel⟩, List.mem_of_getElem? (i := 704) (by decide +kernel), List.mem_of_getElem? (i := 1012) (by decide +kernel), List.mem_of_getElem? (i := 1013) (by decide +kernel)⟩
def lw_privs_2 : List (MethodName × Nat) := [(⟨"CoastWatch", "isHide", "(I)Z"⟩, 15), (⟨"CoastWatch$Game", "sortDown", "([I)V"⟩, 3), (⟨"CoastWatchModel", "refuse", "(I)I"⟩, 54), (⟨"CoastWatchModel", "tideAt", "(II)I"⟩, 54), (⟨"CoastWatchModel", "pass", "()V"⟩, 54), (⟨"CoastWatchModel", "watch", "()V"⟩, 54), (⟨"CoastWatchModel", "drawBelow", "(I)I"⟩, 54), (⟨"CoastWatchModel", "choice", "(I)I"⟩, 54), (⟨"CoastWatchModel", "goes", "(II)V"⟩, 54), (⟨"CoastWatchModel", "counting", "(I)I"⟩, 54), (⟨"CoastWatchModel", "teller", "(I)I"⟩, 54), (⟨"CoastWatchModel", "partCasks", "(II)V"⟩, 54), (⟨"CoastWatchModel", "lot", "(IIII)V"⟩, 54), (⟨"CoastWatchModel", "moreFear", "(III)V"⟩, 54), (⟨"CoastWatchModel", "hideFor", "(II)I"⟩, 54), (⟨"CoastWatchModel", "liesIn", "(I)I"⟩, 54)]
theorem lw_r2 : ∀ q ∈ lw_privs_2, lw_okq q := List.forall_mem_cons.mpr ⟨lw_p16, List.forall_mem_cons.mpr ⟨lw_p17, List.forall_mem_cons.mpr ⟨lw_p18, List.forall_mem_cons.mpr ⟨lw_p19, List.forall_mem_cons.mpr ⟨lw_p20, List.forall_mem_cons.mpr ⟨lw_p21, List.forall_mem_cons.mpr ⟨lw_p22, List.forall_mem_cons.mpr ⟨lw_p23, List.forall_mem_cons.mpr ⟨lw_p24, List.forall_mem_cons.mpr ⟨lw_p25, List.forall_mem_cons.mpr ⟨lw_p26, List.forall_mem_cons.mpr ⟨lw_p27, List.forall_mem_cons.mpr ⟨lw_p28, List.forall_mem_cons.mpr ⟨lw_p29, List.forall_mem_cons.mpr ⟨lw_p30, List.forall_mem_cons.mpr ⟨lw_p31, fun _ h => absurd h List.not_mem_nil⟩⟩⟩⟩⟩⟩⟩⟩⟩⟩⟩⟩⟩⟩⟩⟩
theorem lw_p32 : lw_okq (⟨"CoastWatchModel", "prove", "()V"⟩, 54) := ⟨⟨by decide +kernel, by decide +kernel⟩, List.mem_of_getElem? (i := 704) (by decide +kernel), List.mem_of_getElem? (i := 1016) (by decide +kernel), List.mem_of_getElem? (i := 1017) (by decide +kernel)⟩
theorem lw_p33 : lw_okq (⟨"CoastWatchModel", "refuseBig", "(I)J"⟩, 54) := ⟨⟨by decide +kernel, by decide +kernel⟩, List.mem_of_getElem? (i := 704) (by decide +kernel), List.mem_of_getElem? (i := 1049) (by decide +kernel), List.mem_of_getElem? (i := 1050) (by decide +kernel)⟩
theorem lw_p34 : lw_okq (⟨"CoastWatchModel", "play", "(II)V"⟩, 54) := ⟨⟨by decide +kernel, by decide +kernel⟩, List.mem_of_getElem? (i := 704) (by decide +kernel), List.mem_of_getElem? (i := 1054) (by decide +kernel), List.mem_of_getElem? (i := 1055) (by decide +kernel)⟩
theorem lw_p35 : lw_okq (⟨"CoastWatchModel", "casksOf", "(IZ)I"⟩, 54) := ⟨⟨by decide +kernel, by decide +kernel⟩, List.mem_of_getElem? (i := 704) (by decide +kernel), List.mem_of_getElem? (i := 1071) (by decide +kernel), List.mem_of_getElem? (i := 1072) (by decide +kernel)⟩
def lw_privs_3 : List (MethodName × Nat) := [(⟨"CoastWatchModel", "prove", "()V"⟩, 54), (⟨"CoastWatchModel", "refuseBig", "(I)J"⟩, 54), (⟨"CoastWatchModel", "play", "(II)V"⟩, 54), (⟨"CoastWatchModel", "casksOf", "(IZ)I"⟩, 54)]
theorem lw_r3 : ∀ q ∈ lw_privs_3, lw_okq q := List.forall_mem_cons.mpr ⟨lw_p32, List.forall_mem_cons.mpr ⟨lw_p33, List.forall_mem_cons.mpr ⟨lw_p34, List.forall_mem_cons.mpr ⟨lw_p35, fun _ h => absurd h List.not_mem_nil⟩⟩⟩⟩
def lw_privs : List (MethodName × Nat) := lw_privs_1 ++ (lw_privs_2 ++ (lw_privs_3))
def lw_tbl : List Cond := k2_sels lw_privs ++ tables_1
theorem lw_privs_ok : ∀ q ∈ lw_privs, lw_okq q := by
  show ∀ q ∈ lw_privs_1 ++ (lw_privs_2 ++ (lw_privs_3)), lw_okq q
  exact List.forall_mem_append.mpr ⟨lw_r1, List.forall_mem_append.mpr ⟨lw_r2, lw_r3⟩⟩
/-! ===== BEGIN words of one list among another's, by their places ===== -/
theorem goodIn_r {big : List Cond} (ws : List Cond) (ps : List Nat) (hp : ws = ps.filterMap (fun i => big[i]?)) (h : ws.all goodWord = true) : GoodIn big ws := by
  intro w hw
  have h1 := List.all_eq_true.mp h w hw
  rw [hp] at hw
  obtain ⟨i, -, hi⟩ := List.mem_filterMap.mp hw
  have hm : w ∈ big := by first | exact List.mem_of_getElem? hi | exact List.getElem?_mem hi
  exact ⟨hm, good_of_word h1⟩
theorem goodIn_app {big a b : List Cond} (ha : GoodIn big a) (hb : GoodIn big b) : GoodIn big (a ++ b) := fun w h => (List.mem_append.mp h).elim (ha w) (hb w)
theorem goodIn_ca {big a b : List Cond} {c : Cond} (ha : GoodIn big (c :: a)) (hb : GoodIn big b) : GoodIn big (c :: (a ++ b)) := fun w h => (List.mem_cons.mp h).elim (fun e => ha w (List.mem_cons.mpr (Or.inl e))) (fun h => (List.mem_append.mp h).elim (fun h => ha w (List.mem_cons.mpr (Or.inr h))) (hb w))
theorem goodIn_sub {big ws : List Cond} (hm : ∀ w ∈ ws, w ∈ big) (h : ws.all goodWord = true) : GoodIn big ws := fun w hw => ⟨hm w hw, good_of_word (List.all_eq_true.mp h w hw)⟩
/-! ===== END ===== -/
end
section
/-! ===== BEGIN printed: names, fields, word lists, decode rows ===== -/
def RX0 : String := "CoastWatch$Boats"
def TX0 : u_T := fun k => match k with
  | 0 => ("CoastWatch$Boats", "size", "I", false)
  | 1 => ("CoastWatch$Boats", "draught", "[I", true)
  | 2 => ("CoastWatch$Boats", "hold", "[I", true)
  | 3 => ("CoastWatch$Boats", "strength", "[I", true)
  | 4 => ("CoastWatch$Boats", "bold", "[I", true)
  | 5 => ("CoastWatch$Boats", "casks", "[I", true)
  | 6 => ("CoastWatch$Boats", "escapes", "[I", true)
  | 7 => ("CoastWatch$Boats", "returns", "[I", true)
  | _ => ("CoastWatch$Boats", "fear", "[[I", true)
def tyX0 : Nat → FieldType := fun k => match k with
  | 0 => .int
  | 1 => .array .int
  | 2 => .array .int
  | 3 => .array .int
  | 4 => .array .int
  | 5 => .array .int
  | 6 => .array .int
  | 7 => .array .int
  | _ => .array (.array .int)
abbrev wsX00 : List Cond := u_ws RX0 TX0 9
theorem nmX0 : ∀ a, a < 9 → ∀ b, b < 9 → a ≠ b → (TX0 a).2.1 ≠ (TX0 b).2.1 := by decide +kernel
theorem tyX0_ok : ∀ k, k < 9 → parseFieldDescriptor (TX0 k).2.2.1 = some (tyX0 k) := by decide +kernel
abbrev cX0_init : ByteArray := prog_2_method_1_code
def yX0_init : MethodName := ⟨RX0, "<init>", "()V"⟩
abbrev cX0_add : ByteArray := prog_2_method_2_code
def yX0_add : MethodName := ⟨RX0, "add", "(IIII)I"⟩
abbrev cX0_frighten : ByteArray := prog_2_method_3_code
def yX0_frighten : MethodName := ⟨RX0, "frighten", "(III)V"⟩
abbrev cX0_calm : ByteArray := prog_2_method_4_code
def yX0_calm : MethodName := ⟨RX0, "calm", "()V"⟩
def RX1 : String := "CoastWatch$Coves"
def TX1 : u_T := fun k => match k with
  | 0 => ("CoastWatch$Coves", "depth", "[I", true)
  | 1 => ("CoastWatch$Coves", "worth", "[I", true)
  | 2 => ("CoastWatch$Coves", "ledBy", "[I", true)
  | 3 => ("CoastWatch$Coves", "standing", "[I", true)
  | 4 => ("CoastWatch$Coves", "shares", "[I", true)
  | 5 => ("CoastWatch$Coves", "bribed", "[Z", true)
  | _ => ("CoastWatch$Coves", "watchers", "[I", true)
def tyX1 : Nat → FieldType := fun k => match k with
  | 0 => .array .int
  | 1 => .array .int
  | 2 => .array .int
  | 3 => .array .int
  | 4 => .array .int
  | 5 => .array .boolean
  | _ => .array .int
abbrev wsX10 : List Cond := u_ws RX1 TX1 7
theorem nmX1 : ∀ a, a < 7 → ∀ b, b < 7 → a ≠ b → (TX1 a).2.1 ≠ (TX1 b).2.1 := by decide +kernel
theorem tyX1_ok : ∀ k, k < 7 → parseFieldDescriptor (TX1 k).2.2.1 = some (tyX1 k) := by decide +kernel
abbrev cX1_init : ByteArray := prog_3_method_1_code
def yX1_init : MethodName := ⟨RX1, "<init>", "()V"⟩
abbrev cX1_sumOfShares : ByteArray := prog_3_method_2_code
def yX1_sumOfShares : MethodName := ⟨RX1, "sumOfShares", "()I"⟩
abbrev cX1_coveOfShare : ByteArray := prog_3_method_3_code
def yX1_coveOfShare : MethodName := ⟨RX1, "coveOfShare", "(I)I"⟩
abbrev cX1_countingAt : ByteArray := prog_3_method_4_code
def yX1_countingAt : MethodName := ⟨RX1, "countingAt", "(I)I"⟩
def RX2 : String := "CoastWatch$Game"
def TX2 : u_T := fun k => match k with
  | 0 => ("CoastWatch$Game", "worths", "[I", true)
  | 1 => ("CoastWatch$Game", "above", "J", false)
  | _ => ("CoastWatch$Game", "below", "J", false)
def tyX2 : Nat → FieldType := fun k => match k with
  | 0 => .array .int
  | 1 => .long
  | _ => .long
abbrev wsX20 : List Cond := u_ws RX2 TX2 3
theorem nmX2 : ∀ a, a < 3 → ∀ b, b < 3 → a ≠ b → (TX2 a).2.1 ≠ (TX2 b).2.1 := by decide +kernel
theorem tyX2_ok : ∀ k, k < 3 → parseFieldDescriptor (TX2 k).2.2.1 = some (tyX2 k) := by decide +kernel
abbrev cX2_init : ByteArray := prog_4_method_1_code
def yX2_init : MethodName := ⟨RX2, "<init>", "()V"⟩
abbrev cX2_solve : ByteArray := prog_4_method_2_code
def yX2_solve : MethodName := ⟨RX2, "solve", "([III)V"⟩
abbrev cX2_sortDown : ByteArray := prog_4_method_3_code
def yX2_sortDown : MethodName := ⟨RX2, "sortDown", "([I)V"⟩
def RX3 : String := "CoastWatch$Hides"
def TX3 : u_T := fun k => match k with
  | 0 => ("CoastWatch$Hides", "size", "I", false)
  | 1 => ("CoastWatch$Hides", "cove", "[I", true)
  | 2 => ("CoastWatch$Hides", "room", "[I", true)
  | 3 => ("CoastWatch$Hides", "cost", "[I", true)
  | 4 => ("CoastWatch$Hides", "guess", "[I", true)
  | 5 => ("CoastWatch$Hides", "lying", "[I", true)
  | _ => ("CoastWatch$Hides", "scores", "[J", true)
def tyX3 : Nat → FieldType := fun k => match k with
  | 0 => .int
  | 1 => .array .int
  | 2 => .array .int
  | 3 => .array .int
  | 4 => .array .int
  | 5 => .array .int
  | _ => .array .long
abbrev wsX30 : List Cond := u_ws RX3 TX3 7
theorem nmX3 : ∀ a, a < 7 → ∀ b, b < 7 → a ≠ b → (TX3 a).2.1 ≠ (TX3 b).2.1 := by decide +kernel
theorem tyX3_ok : ∀ k, k < 7 → parseFieldDescriptor (TX3 k).2.2.1 = some (tyX3 k) := by decide +kernel
abbrev cX3_init : ByteArray := prog_5_method_1_code
def yX3_init : MethodName := ⟨RX3, "<init>", "()V"⟩
abbrev cX3_add : ByteArray := prog_5_method_2_code
def yX3_add : MethodName := ⟨RX3, "add", "(III)I"⟩
abbrev cX3_firstWithRoom : ByteArray := prog_5_method_3_code
def yX3_firstWithRoom : MethodName := ⟨RX3, "firstWithRoom", "(II)I"⟩
abbrev cX3_suspect : ByteArray := prog_5_method_4_code
def yX3_suspect : MethodName := ⟨RX3, "suspect", "(I)V"⟩
abbrev cX3_bestSet : ByteArray := prog_5_method_5_code
def yX3_bestSet : MethodName := ⟨RX3, "bestSet", "(I)I"⟩
def RX4 : String := "CoastWatch$Laws"
def TX4 : u_T := fun k => match k with
  | 0 => ("CoastWatch$Laws", "size", "I", false)
  | 1 => ("CoastWatch$Laws", "crew", "[I", true)
  | 2 => ("CoastWatch$Laws", "informer", "[I", true)
  | _ => ("CoastWatch$Laws", "from", "[I", true)
def tyX4 : Nat → FieldType := fun k => match k with
  | 0 => .int
  | 1 => .array .int
  | 2 => .array .int
  | _ => .array .int
abbrev wsX40 : List Cond := u_ws RX4 TX4 4
theorem nmX4 : ∀ a, a < 4 → ∀ b, b < 4 → a ≠ b → (TX4 a).2.1 ≠ (TX4 b).2.1 := by decide +kernel
theorem tyX4_ok : ∀ k, k < 4 → parseFieldDescriptor (TX4 k).2.2.1 = some (tyX4 k) := by decide +kernel
abbrev cX4_init : ByteArray := prog_6_method_1_code
def yX4_init : MethodName := ⟨RX4, "<init>", "()V"⟩
abbrev cX4_add : ByteArray := prog_6_method_2_code
def yX4_add : MethodName := ⟨RX4, "add", "(III)I"⟩
abbrev cX4_inForceOn : ByteArray := prog_6_method_3_code
def yX4_inForceOn : MethodName := ⟨RX4, "inForceOn", "(I)I"⟩
def RX5 : String := "CoastWatch$Lots"
def TX5 : u_T := fun k => match k with
  | 0 => ("CoastWatch$Lots", "size", "I", false)
  | 1 => ("CoastWatch$Lots", "boat", "[I", true)
  | 2 => ("CoastWatch$Lots", "casks", "[I", true)
  | 3 => ("CoastWatch$Lots", "night", "[I", true)
  | 4 => ("CoastWatch$Lots", "cove", "[I", true)
  | 5 => ("CoastWatch$Lots", "place", "[I", true)
  | _ => ("CoastWatch$Lots", "hide", "[I", true)
def tyX5 : Nat → FieldType := fun k => match k with
  | 0 => .int
  | 1 => .array .int
  | 2 => .array .int
  | 3 => .array .int
  | 4 => .array .int
  | 5 => .array .int
  | _ => .array .int
abbrev wsX50 : List Cond := u_ws RX5 TX5 7
theorem nmX5 : ∀ a, a < 7 → ∀ b, b < 7 → a ≠ b → (TX5 a).2.1 ≠ (TX5 b).2.1 := by decide +kernel
theorem tyX5_ok : ∀ k, k < 7 → parseFieldDescriptor (TX5 k).2.2.1 = some (tyX5 k) := by decide +kernel
abbrev cX5_init : ByteArray := prog_7_method_1_code
def yX5_init : MethodName := ⟨RX5, "<init>", "()V"⟩
abbrev cX5_add : ByteArray := prog_7_method_2_code
def yX5_add : MethodName := ⟨RX5, "add", "(IIIIII)V"⟩
abbrev cX5_liesIn : ByteArray := prog_7_method_3_code
def yX5_liesIn : MethodName := ⟨RX5, "liesIn", "(II)Z"⟩
abbrev cX5_cameTo : ByteArray := prog_7_method_4_code
def yX5_cameTo : MethodName := ⟨RX5, "cameTo", "(II)Z"⟩
abbrev cX5_heldIn : ByteArray := prog_7_method_5_code
def yX5_heldIn : MethodName := ⟨RX5, "heldIn", "(I)I"⟩
abbrev cX5_seizedIn : ByteArray := prog_7_method_6_code
def yX5_seizedIn : MethodName := ⟨RX5, "seizedIn", "(I)I"⟩
def RX6 : String := "CoastWatch$Seasons"
def TX6 : u_T := fun k => match k with
  | 0 => ("CoastWatch$Seasons", "least", "[I", true)
  | 1 => ("CoastWatch$Seasons", "most", "[I", true)
  | _ => ("CoastWatch$Seasons", "byLaw", "[I", true)
def tyX6 : Nat → FieldType := fun k => match k with
  | 0 => .array .int
  | 1 => .array .int
  | _ => .array .int
abbrev wsX60 : List Cond := u_ws RX6 TX6 3
theorem nmX6 : ∀ a, a < 3 → ∀ b, b < 3 → a ≠ b → (TX6 a).2.1 ≠ (TX6 b).2.1 := by decide +kernel
theorem tyX6_ok : ∀ k, k < 3 → parseFieldDescriptor (TX6 k).2.2.1 = some (tyX6 k) := by decide +kernel
abbrev cX6_init : ByteArray := prog_8_method_1_code
def yX6_init : MethodName := ⟨RX6, "<init>", "()V"⟩
abbrev cX6_landedOf : ByteArray := prog_8_method_2_code
def yX6_landedOf : MethodName := ⟨RX6, "landedOf", "(III)I"⟩
def RX7 : String := "CoastWatch$Tables"
def TX7 : u_T := fun k => match k with
  | 0 => ("CoastWatch$Tables", "numbers", "[[I", true)
  | _ => ("CoastWatch$Tables", "length", "[I", true)
def tyX7 : Nat → FieldType := fun k => match k with
  | 0 => .array (.array .int)
  | _ => .array .int
abbrev wsX70 : List Cond := u_ws RX7 TX7 2
theorem nmX7 : ∀ a, a < 2 → ∀ b, b < 2 → a ≠ b → (TX7 a).2.1 ≠ (TX7 b).2.1 := by decide +kernel
theorem tyX7_ok : ∀ k, k < 2 → parseFieldDescriptor (TX7 k).2.2.1 = some (tyX7 k) := by decide +kernel
abbrev cX7_init : ByteArray := prog_9_method_1_code
def yX7_init : MethodName := ⟨RX7, "<init>", "()V"⟩
abbrev cX7_isMissing : ByteArray := prog_9_method_2_code
def yX7_isMissing : MethodName := ⟨RX7, "isMissing", "(I)Z"⟩
abbrev cX7_begin : ByteArray := prog_9_method_3_code
def yX7_begin : MethodName := ⟨RX7, "begin", "(II)V"⟩
abbrev cX7_forget : ByteArray := prog_9_method_4_code
def yX7_forget : MethodName := ⟨RX7, "forget", "(I)V"⟩
abbrev cX7_hasPlaces : ByteArray := prog_9_method_5_code
def yX7_hasPlaces : MethodName := ⟨RX7, "hasPlaces", "(III)Z"⟩
def RX8 : String := "CoastWatch$Words"
def TX8 : u_T := fun k => match k with
  | 0 => ("CoastWatch$Words", "size", "I", false)
  | 1 => ("CoastWatch$Words", "informer", "[I", true)
  | 2 => ("CoastWatch$Words", "night", "[I", true)
  | 3 => ("CoastWatch$Words", "cove", "[I", true)
  | 4 => ("CoastWatch$Words", "right", "[I", true)
  | _ => ("CoastWatch$Words", "wrong", "[I", true)
def tyX8 : Nat → FieldType := fun k => match k with
  | 0 => .int
  | 1 => .array .int
  | 2 => .array .int
  | 3 => .array .int
  | 4 => .array .int
  | _ => .array .int
abbrev wsX80 : List Cond := u_ws RX8 TX8 6
theorem nmX8 : ∀ a, a < 6 → ∀ b, b < 6 → a ≠ b → (TX8 a).2.1 ≠ (TX8 b).2.1 := by decide +kernel
theorem tyX8_ok : ∀ k, k < 6 → parseFieldDescriptor (TX8 k).2.2.1 = some (tyX8 k) := by decide +kernel
abbrev cX8_init : ByteArray := prog_10_method_1_code
def yX8_init : MethodName := ⟨RX8, "<init>", "()V"⟩
abbrev cX8_add : ByteArray := prog_10_method_2_code
def yX8_add : MethodName := ⟨RX8, "add", "(III)I"⟩
abbrev cX8_names : ByteArray := prog_10_method_3_code
def yX8_names : MethodName := ⟨RX8, "names", "(III)Z"⟩
abbrev cX8_isToldBy : ByteArray := prog_10_method_4_code
def yX8_isToldBy : MethodName := ⟨RX8, "isToldBy", "(III)Z"⟩
abbrev cX8_firstInformer : ByteArray := prog_10_method_5_code
def yX8_firstInformer : MethodName := ⟨RX8, "firstInformer", "(II)I"⟩
abbrev cX8_prove : ByteArray := prog_10_method_6_code
def yX8_prove : MethodName := ⟨RX8, "prove", "(IZ)V"⟩
abbrev cX8_provedOf : ByteArray := prog_10_method_7_code
def yX8_provedOf : MethodName := ⟨RX8, "provedOf", "(I)I"⟩
abbrev cX8_rightOnes : ByteArray := prog_10_method_8_code
def yX8_rightOnes : MethodName := ⟨RX8, "rightOnes", "()I"⟩
abbrev cX8_wrongOnes : ByteArray := prog_10_method_9_code
def yX8_wrongOnes : MethodName := ⟨RX8, "wrongOnes", "()I"⟩
abbrev cX8_doubtAbove : ByteArray := prog_10_method_10_code
def yX8_doubtAbove : MethodName := ⟨RX8, "doubtAbove", "(II)J"⟩
abbrev cX8_doubtBelow : ByteArray := prog_10_method_11_code
def yX8_doubtBelow : MethodName := ⟨RX8, "doubtBelow", "(II)J"⟩
def RX9 : String := "CoastWatch"
def TX9 : u_T := fun k => match k with
  | 0 => ("CoastWatch", "night", "I", false)
  | 1 => ("CoastWatch", "seed", "I", false)
  | 2 => ("CoastWatch", "drawCount", "I", false)
  | 3 => ("CoastWatch", "casksPrice", "I", false)
  | 4 => ("CoastWatch", "refusals", "[I", true)
  | 5 => ("CoastWatch", "purses", "[I", true)
  | 6 => ("CoastWatch", "tables", "LCoastWatch$Tables;", true)
  | 7 => ("CoastWatch", "coves", "LCoastWatch$Coves;", true)
  | 8 => ("CoastWatch", "boats", "LCoastWatch$Boats;", true)
  | 9 => ("CoastWatch", "hides", "LCoastWatch$Hides;", true)
  | 10 => ("CoastWatch", "lots", "LCoastWatch$Lots;", true)
  | 11 => ("CoastWatch", "laws", "LCoastWatch$Laws;", true)
  | 12 => ("CoastWatch", "words", "LCoastWatch$Words;", true)
  | 13 => ("CoastWatch", "seasons", "LCoastWatch$Seasons;", true)
  | _ => ("CoastWatch", "game", "LCoastWatch$Game;", true)
def tyX9 : Nat → FieldType := fun k => match k with
  | 0 => .int
  | 1 => .int
  | 2 => .int
  | 3 => .int
  | 4 => .array .int
  | 5 => .array .int
  | 6 => .object "CoastWatch$Tables"
  | 7 => .object "CoastWatch$Coves"
  | 8 => .object "CoastWatch$Boats"
  | 9 => .object "CoastWatch$Hides"
  | 10 => .object "CoastWatch$Lots"
  | 11 => .object "CoastWatch$Laws"
  | 12 => .object "CoastWatch$Words"
  | 13 => .object "CoastWatch$Seasons"
  | _ => .object "CoastWatch$Game"
abbrev wsX90 : List Cond := u_ws RX9 TX9 15
theorem nmX9 : ∀ a, a < 15 → ∀ b, b < 15 → a ≠ b → (TX9 a).2.1 ≠ (TX9 b).2.1 := by decide +kernel
theorem tyX9_ok : ∀ k, k < 15 → parseFieldDescriptor (TX9 k).2.2.1 = some (tyX9 k) := by decide +kernel
abbrev cX9_init : ByteArray := prog_1_method_1_code
def yX9_init : MethodName := ⟨RX9, "<init>", "()V"⟩
abbrev cX9_seed : ByteArray := prog_1_method_2_code
def yX9_seed : MethodName := ⟨RX9, "seed", "(I)I"⟩
abbrev cX9_cove : ByteArray := prog_1_method_3_code
def yX9_cove : MethodName := ⟨RX9, "cove", "(III)I"⟩
abbrev cX9_row : ByteArray := prog_1_method_4_code
def yX9_row : MethodName := ⟨RX9, "row", "(II)I"⟩
abbrev cX9_lose : ByteArray := prog_1_method_5_code
def yX9_lose : MethodName := ⟨RX9, "lose", "(I)I"⟩
abbrev cX9_put : ByteArray := prog_1_method_6_code
def yX9_put : MethodName := ⟨RX9, "put", "(III)I"⟩
abbrev cX9_copy : ByteArray := prog_1_method_7_code
def yX9_copy : MethodName := ⟨RX9, "copy", "(IIIII)I"⟩
abbrev cX9_lead : ByteArray := prog_1_method_8_code
def yX9_lead : MethodName := ⟨RX9, "lead", "(II)I"⟩
abbrev cX9_tide : ByteArray := prog_1_method_9_code
def yX9_tide : MethodName := ⟨RX9, "tide", "(II)I"⟩
abbrev cX9_boat : ByteArray := prog_1_method_10_code
def yX9_boat : MethodName := ⟨RX9, "boat", "(IIII)I"⟩
abbrev cX9_load : ByteArray := prog_1_method_11_code
def yX9_load : MethodName := ⟨RX9, "load", "(II)I"⟩
abbrev cX9_hide : ByteArray := prog_1_method_12_code
def yX9_hide : MethodName := ⟨RX9, "hide", "(III)I"⟩
abbrev cX9_stand : ByteArray := prog_1_method_13_code
def yX9_stand : MethodName := ⟨RX9, "stand", "(II)I"⟩
abbrev cX9_bribe : ByteArray := prog_1_method_14_code
def yX9_bribe : MethodName := ⟨RX9, "bribe", "(IZ)I"⟩
abbrev cX9_share : ByteArray := prog_1_method_15_code
def yX9_share : MethodName := ⟨RX9, "share", "(II)I"⟩
abbrev cX9_draws : ByteArray := prog_1_method_16_code
def yX9_draws : MethodName := ⟨RX9, "draws", "(I)I"⟩
abbrev cX9_price : ByteArray := prog_1_method_17_code
def yX9_price : MethodName := ⟨RX9, "price", "(I)I"⟩
abbrev cX9_law : ByteArray := prog_1_method_18_code
def yX9_law : MethodName := ⟨RX9, "law", "(III)I"⟩
abbrev cX9_word : ByteArray := prog_1_method_19_code
def yX9_word : MethodName := ⟨RX9, "word", "(III)I"⟩
abbrev cX9_nights : ByteArray := prog_1_method_20_code
def yX9_nights : MethodName := ⟨RX9, "nights", "(I)I"⟩
abbrev cX9_search : ByteArray := prog_1_method_21_code
def yX9_search : MethodName := ⟨RX9, "search", "(I)I"⟩
abbrev cX9_best : ByteArray := prog_1_method_22_code
def yX9_best : MethodName := ⟨RX9, "best", "(I)I"⟩
abbrev cX9_belief : ByteArray := prog_1_method_23_code
def yX9_belief : MethodName := ⟨RX9, "belief", "(III)J"⟩
abbrev cX9_weight : ByteArray := prog_1_method_24_code
def yX9_weight : MethodName := ⟨RX9, "weight", "(II)I"⟩
abbrev cX9_value : ByteArray := prog_1_method_25_code
def yX9_value : MethodName := ⟨RX9, "value", "(III)J"⟩
abbrev cX9_chance : ByteArray := prog_1_method_26_code
def yX9_chance : MethodName := ⟨RX9, "chance", "(IIII)J"⟩
abbrev cX9_used : ByteArray := prog_1_method_27_code
def yX9_used : MethodName := ⟨RX9, "used", "(IIII)I"⟩
abbrev cX9_landed : ByteArray := prog_1_method_28_code
def yX9_landed : MethodName := ⟨RX9, "landed", "(II)I"⟩
abbrev cX9_lotOf : ByteArray := prog_1_method_29_code
def yX9_lotOf : MethodName := ⟨RX9, "lotOf", "(II)I"⟩
abbrev cX9_boatOf : ByteArray := prog_1_method_30_code
def yX9_boatOf : MethodName := ⟨RX9, "boatOf", "(II)I"⟩
abbrev cX9_hideOf : ByteArray := prog_1_method_31_code
def yX9_hideOf : MethodName := ⟨RX9, "hideOf", "(II)I"⟩
abbrev cX9_watched : ByteArray := prog_1_method_32_code
def yX9_watched : MethodName := ⟨RX9, "watched", "(I)I"⟩
abbrev cX9_coins : ByteArray := prog_1_method_33_code
def yX9_coins : MethodName := ⟨RX9, "coins", "(I)I"⟩
abbrev cX9_count : ByteArray := prog_1_method_34_code
def yX9_count : MethodName := ⟨RX9, "count", "(I)I"⟩
abbrev cX9_refuse : ByteArray := prog_1_method_35_code
def yX9_refuse : MethodName := ⟨RX9, "refuse", "(I)I"⟩
abbrev cX9_isCove : ByteArray := prog_1_method_36_code
def yX9_isCove : MethodName := ⟨RX9, "isCove", "(I)Z"⟩
abbrev cX9_isTable : ByteArray := prog_1_method_37_code
def yX9_isTable : MethodName := ⟨RX9, "isTable", "(I)Z"⟩
abbrev cX9_isInformer : ByteArray := prog_1_method_38_code
def yX9_isInformer : MethodName := ⟨RX9, "isInformer", "(I)Z"⟩
abbrev cX9_isSeason : ByteArray := prog_1_method_39_code
def yX9_isSeason : MethodName := ⟨RX9, "isSeason", "(I)Z"⟩
abbrev cX9_isPart : ByteArray := prog_1_method_40_code
def yX9_isPart : MethodName := ⟨RX9, "isPart", "(I)Z"⟩
abbrev cX9_isBoat : ByteArray := prog_1_method_41_code
def yX9_isBoat : MethodName := ⟨RX9, "isBoat", "(I)Z"⟩
abbrev cX9_isHide : ByteArray := prog_1_method_42_code
def yX9_isHide : MethodName := ⟨RX9, "isHide", "(I)Z"⟩
abbrev cX9_gameRefusal : ByteArray := prog_1_method_43_code
def yX9_gameRefusal : MethodName := ⟨RX9, "gameRefusal", "(III)I"⟩
abbrev cX9_lowest : ByteArray := prog_1_method_44_code
def yX9_lowest : MethodName := ⟨RX9, "lowest", "(JJI)J"⟩
abbrev cX9_commonDivisor : ByteArray := prog_1_method_45_code
def yX9_commonDivisor : MethodName := ⟨RX9, "commonDivisor", "(JJ)J"⟩
abbrev cX9_passNight : ByteArray := prog_1_method_46_code
def yX9_passNight : MethodName := ⟨RX9, "passNight", "()V"⟩
abbrev cX9_placeWatchers : ByteArray := prog_1_method_47_code
def yX9_placeWatchers : MethodName := ⟨RX9, "placeWatchers", "()V"⟩
abbrev cX9_drawBelow : ByteArray := prog_1_method_48_code
def yX9_drawBelow : MethodName := ⟨RX9, "drawBelow", "(I)I"⟩
abbrev cX9_light : ByteArray := prog_1_method_49_code
def yX9_light : MethodName := ⟨RX9, "light", "()I"⟩
abbrev cX9_tideAt : ByteArray := prog_1_method_50_code
def yX9_tideAt : MethodName := ⟨RX9, "tideAt", "(II)I"⟩
abbrev cX9_sendOut : ByteArray := prog_1_method_51_code
def yX9_sendOut : MethodName := ⟨RX9, "sendOut", "(I)V"⟩
abbrev cX9_chosenCove : ByteArray := prog_1_method_52_code
def yX9_chosenCove : MethodName := ⟨RX9, "chosenCove", "(I)I"⟩
abbrev cX9_isOpen : ByteArray := prog_1_method_53_code
def yX9_isOpen : MethodName := ⟨RX9, "isOpen", "(II)Z"⟩
abbrev cX9_isDearer : ByteArray := prog_1_method_54_code
def yX9_isDearer : MethodName := ⟨RX9, "isDearer", "(III)Z"⟩
abbrev cX9_meetWatchers : ByteArray := prog_1_method_55_code
def yX9_meetWatchers : MethodName := ⟨RX9, "meetWatchers", "(III)V"⟩
abbrev cX9_bringAshore : ByteArray := prog_1_method_56_code
def yX9_bringAshore : MethodName := ⟨RX9, "bringAshore", "(II)V"⟩
abbrev cX9_lookAt : ByteArray := prog_1_method_57_code
def yX9_lookAt : MethodName := ⟨RX9, "lookAt", "(II)V"⟩
abbrev cX9_partSeized : ByteArray := prog_1_method_58_code
def yX9_partSeized : MethodName := ⟨RX9, "partSeized", "(II)V"⟩
abbrev cX9_proveWords : ByteArray := prog_1_method_59_code
def yX9_proveWords : MethodName := ⟨RX9, "proveWords", "()V"⟩
def RX10 : String := "CoastWatchModel"
def TX10 : u_T := fun k => match k with
  | 0 => ("CoastWatchModel", "seed", "I", false)
  | 1 => ("CoastWatchModel", "night", "I", false)
  | 2 => ("CoastWatchModel", "depth", "[I", true)
  | 3 => ("CoastWatchModel", "worth", "[I", true)
  | 4 => ("CoastWatchModel", "rowSize", "[I", true)
  | 5 => ("CoastWatchModel", "row", "[I", true)
  | 6 => ("CoastWatchModel", "led", "[I", true)
  | 7 => ("CoastWatchModel", "boats", "I", false)
  | 8 => ("CoastWatchModel", "draught", "[I", true)
  | 9 => ("CoastWatchModel", "hold", "[I", true)
  | 10 => ("CoastWatchModel", "strength", "[I", true)
  | 11 => ("CoastWatchModel", "bold", "[I", true)
  | 12 => ("CoastWatchModel", "aboard", "[I", true)
  | 13 => ("CoastWatchModel", "away", "[I", true)
  | 14 => ("CoastWatchModel", "home", "[I", true)
  | 15 => ("CoastWatchModel", "fear", "[I", true)
  | 16 => ("CoastWatchModel", "hides", "I", false)
  | 17 => ("CoastWatchModel", "hideCove", "[I", true)
  | 18 => ("CoastWatchModel", "hideRoom", "[I", true)
  | 19 => ("CoastWatchModel", "hideCost", "[I", true)
  | 20 => ("CoastWatchModel", "guess", "[I", true)
  | 21 => ("CoastWatchModel", "lots", "I", false)
  | 22 => ("CoastWatchModel", "lotBoat", "[I", true)
  | 23 => ("CoastWatchModel", "lotCasks", "[I", true)
  | 24 => ("CoastWatchModel", "lotNight", "[I", true)
  | 25 => ("CoastWatchModel", "lotCove", "[I", true)
  | 26 => ("CoastWatchModel", "lotLies", "[I", true)
  | 27 => ("CoastWatchModel", "lotHide", "[I", true)
  | 28 => ("CoastWatchModel", "standing", "[I", true)
  | 29 => ("CoastWatchModel", "shares", "[I", true)
  | 30 => ("CoastWatchModel", "bribed", "[Z", true)
  | 31 => ("CoastWatchModel", "there", "[I", true)
  | 32 => ("CoastWatchModel", "came", "[Z", true)
  | 33 => ("CoastWatchModel", "drawMany", "I", false)
  | 34 => ("CoastWatchModel", "price", "I", false)
  | 35 => ("CoastWatchModel", "laws", "I", false)
  | 36 => ("CoastWatchModel", "lawCrew", "[I", true)
  | 37 => ("CoastWatchModel", "lawInformer", "[I", true)
  | 38 => ("CoastWatchModel", "lawNight", "[I", true)
  | 39 => ("CoastWatchModel", "words", "I", false)
  | 40 => ("CoastWatchModel", "wordOf", "[I", true)
  | 41 => ("CoastWatchModel", "wordNight", "[I", true)
  | 42 => ("CoastWatchModel", "wordCove", "[I", true)
  | 43 => ("CoastWatchModel", "right", "[I", true)
  | 44 => ("CoastWatchModel", "wrong", "[I", true)
  | 45 => ("CoastWatchModel", "usedLeast", "[I", true)
  | 46 => ("CoastWatchModel", "usedMost", "[I", true)
  | 47 => ("CoastWatchModel", "usedLaw", "[I", true)
  | 48 => ("CoastWatchModel", "coins", "[I", true)
  | 49 => ("CoastWatchModel", "refused", "[I", true)
  | 50 => ("CoastWatchModel", "between", "[I", true)
  | 51 => ("CoastWatchModel", "sorted", "[I", true)
  | 52 => ("CoastWatchModel", "gameAbove", "J", false)
  | _ => ("CoastWatchModel", "gameBelow", "J", false)
def tyX10 : Nat → FieldType := fun k => match k with
  | 0 => .int
  | 1 => .int
  | 2 => .array .int
  | 3 => .array .int
  | 4 => .array .int
  | 5 => .array .int
  | 6 => .array .int
  | 7 => .int
  | 8 => .array .int
  | 9 => .array .int
  | 10 => .array .int
  | 11 => .array .int
  | 12 => .array .int
  | 13 => .array .int
  | 14 => .array .int
  | 15 => .array .int
  | 16 => .int
  | 17 => .array .int
  | 18 => .array .int
  | 19 => .array .int
  | 20 => .array .int
  | 21 => .int
  | 22 => .array .int
  | 23 => .array .int
  | 24 => .array .int
  | 25 => .array .int
  | 26 => .array .int
  | 27 => .array .int
  | 28 => .array .int
  | 29 => .array .int
  | 30 => .array .boolean
  | 31 => .array .int
  | 32 => .array .boolean
  | 33 => .int
  | 34 => .int
  | 35 => .int
  | 36 => .array .int
  | 37 => .array .int
  | 38 => .array .int
  | 39 => .int
  | 40 => .array .int
  | 41 => .array .int
  | 42 => .array .int
  | 43 => .array .int
  | 44 => .array .int
  | 45 => .array .int
  | 46 => .array .int
  | 47 => .array .int
  | 48 => .array .int
  | 49 => .array .int
  | 50 => .array .int
  | 51 => .array .int
  | 52 => .long
  | _ => .long
abbrev wsX100 : List Cond := u_ws RX10 TX10 54
theorem nmX10 : ∀ a, a < 54 → ∀ b, b < 54 → a ≠ b → (TX10 a).2.1 ≠ (TX10 b).2.1 := by decide +kernel
theorem tyX10_ok : ∀ k, k < 54 → parseFieldDescriptor (TX10 k).2.2.1 = some (tyX10 k) := by decide +kernel
abbrev cX10_init : ByteArray := prog_12_method_1_code
def yX10_init : MethodName := ⟨RX10, "<init>", "()V"⟩
abbrev cX10_in : ByteArray := prog_12_method_3_code
def yX10_in : MethodName := ⟨RX10, "in", "(III)Z"⟩
abbrev cX10_refuse : ByteArray := prog_12_method_4_code
def yX10_refuse : MethodName := ⟨RX10, "refuse", "(I)I"⟩
abbrev cX10_isCove : ByteArray := prog_12_method_5_code
def yX10_isCove : MethodName := ⟨RX10, "isCove", "(I)Z"⟩
abbrev cX10_seed : ByteArray := prog_12_method_6_code
def yX10_seed : MethodName := ⟨RX10, "seed", "(I)I"⟩
abbrev cX10_cove : ByteArray := prog_12_method_7_code
def yX10_cove : MethodName := ⟨RX10, "cove", "(III)I"⟩
abbrev cX10_row : ByteArray := prog_12_method_8_code
def yX10_row : MethodName := ⟨RX10, "row", "(II)I"⟩
abbrev cX10_lose : ByteArray := prog_12_method_9_code
def yX10_lose : MethodName := ⟨RX10, "lose", "(I)I"⟩
abbrev cX10_put : ByteArray := prog_12_method_10_code
def yX10_put : MethodName := ⟨RX10, "put", "(III)I"⟩
abbrev cX10_copy : ByteArray := prog_12_method_11_code
def yX10_copy : MethodName := ⟨RX10, "copy", "(IIIII)I"⟩
abbrev cX10_lead : ByteArray := prog_12_method_12_code
def yX10_lead : MethodName := ⟨RX10, "lead", "(II)I"⟩
abbrev cX10_tideAt : ByteArray := prog_12_method_13_code
def yX10_tideAt : MethodName := ⟨RX10, "tideAt", "(II)I"⟩
abbrev cX10_tide : ByteArray := prog_12_method_14_code
def yX10_tide : MethodName := ⟨RX10, "tide", "(II)I"⟩
abbrev cX10_lightAt : ByteArray := prog_12_method_15_code
def yX10_lightAt : MethodName := ⟨RX10, "lightAt", "(I)I"⟩
abbrev cX10_boat : ByteArray := prog_12_method_16_code
def yX10_boat : MethodName := ⟨RX10, "boat", "(IIII)I"⟩
abbrev cX10_load : ByteArray := prog_12_method_17_code
def yX10_load : MethodName := ⟨RX10, "load", "(II)I"⟩
abbrev cX10_hide : ByteArray := prog_12_method_18_code
def yX10_hide : MethodName := ⟨RX10, "hide", "(III)I"⟩
abbrev cX10_stand : ByteArray := prog_12_method_19_code
def yX10_stand : MethodName := ⟨RX10, "stand", "(II)I"⟩
abbrev cX10_bribe : ByteArray := prog_12_method_20_code
def yX10_bribe : MethodName := ⟨RX10, "bribe", "(IZ)I"⟩
abbrev cX10_share : ByteArray := prog_12_method_21_code
def yX10_share : MethodName := ⟨RX10, "share", "(II)I"⟩
abbrev cX10_draws : ByteArray := prog_12_method_22_code
def yX10_draws : MethodName := ⟨RX10, "draws", "(I)I"⟩
abbrev cX10_price : ByteArray := prog_12_method_23_code
def yX10_price : MethodName := ⟨RX10, "price", "(I)I"⟩
abbrev cX10_law : ByteArray := prog_12_method_24_code
def yX10_law : MethodName := ⟨RX10, "law", "(III)I"⟩
abbrev cX10_word : ByteArray := prog_12_method_25_code
def yX10_word : MethodName := ⟨RX10, "word", "(III)I"⟩
abbrev cX10_drawBelow : ByteArray := prog_12_method_26_code
def yX10_drawBelow : MethodName := ⟨RX10, "drawBelow", "(I)I"⟩
abbrev cX10_watch : ByteArray := prog_12_method_27_code
def yX10_watch : MethodName := ⟨RX10, "watch", "()V"⟩
abbrev cX10_counting : ByteArray := prog_12_method_28_code
def yX10_counting : MethodName := ⟨RX10, "counting", "(I)I"⟩
abbrev cX10_choice : ByteArray := prog_12_method_29_code
def yX10_choice : MethodName := ⟨RX10, "choice", "(I)I"⟩
abbrev cX10_partCasks : ByteArray := prog_12_method_30_code
def yX10_partCasks : MethodName := ⟨RX10, "partCasks", "(II)V"⟩
abbrev cX10_teller : ByteArray := prog_12_method_31_code
def yX10_teller : MethodName := ⟨RX10, "teller", "(I)I"⟩
abbrev cX10_liesIn : ByteArray := prog_12_method_32_code
def yX10_liesIn : MethodName := ⟨RX10, "liesIn", "(I)I"⟩
abbrev cX10_hideFor : ByteArray := prog_12_method_33_code
def yX10_hideFor : MethodName := ⟨RX10, "hideFor", "(II)I"⟩
abbrev cX10_lot : ByteArray := prog_12_method_34_code
def yX10_lot : MethodName := ⟨RX10, "lot", "(IIII)V"⟩
abbrev cX10_moreFear : ByteArray := prog_12_method_35_code
def yX10_moreFear : MethodName := ⟨RX10, "moreFear", "(III)V"⟩
abbrev cX10_goes : ByteArray := prog_12_method_36_code
def yX10_goes : MethodName := ⟨RX10, "goes", "(II)V"⟩
abbrev cX10_prove : ByteArray := prog_12_method_37_code
def yX10_prove : MethodName := ⟨RX10, "prove", "()V"⟩
abbrev cX10_pass : ByteArray := prog_12_method_38_code
def yX10_pass : MethodName := ⟨RX10, "pass", "()V"⟩
abbrev cX10_nights : ByteArray := prog_12_method_39_code
def yX10_nights : MethodName := ⟨RX10, "nights", "(I)I"⟩
abbrev cX10_search : ByteArray := prog_12_method_40_code
def yX10_search : MethodName := ⟨RX10, "search", "(I)I"⟩
abbrev cX10_ones : ByteArray := prog_12_method_41_code
def yX10_ones : MethodName := ⟨RX10, "ones", "(I)I"⟩
abbrev cX10_best : ByteArray := prog_12_method_42_code
def yX10_best : MethodName := ⟨RX10, "best", "(I)I"⟩
abbrev cX10_divisor : ByteArray := prog_12_method_43_code
def yX10_divisor : MethodName := ⟨RX10, "divisor", "(JJ)J"⟩
abbrev cX10_side : ByteArray := prog_12_method_44_code
def yX10_side : MethodName := ⟨RX10, "side", "(JJI)J"⟩
abbrev cX10_belief : ByteArray := prog_12_method_45_code
def yX10_belief : MethodName := ⟨RX10, "belief", "(III)J"⟩
abbrev cX10_weight : ByteArray := prog_12_method_46_code
def yX10_weight : MethodName := ⟨RX10, "weight", "(II)I"⟩
abbrev cX10_play : ByteArray := prog_12_method_47_code
def yX10_play : MethodName := ⟨RX10, "play", "(II)V"⟩
abbrev cX10_refuseBig : ByteArray := prog_12_method_48_code
def yX10_refuseBig : MethodName := ⟨RX10, "refuseBig", "(I)J"⟩
abbrev cX10_value : ByteArray := prog_12_method_49_code
def yX10_value : MethodName := ⟨RX10, "value", "(III)J"⟩
abbrev cX10_chance : ByteArray := prog_12_method_50_code
def yX10_chance : MethodName := ⟨RX10, "chance", "(IIII)J"⟩
abbrev cX10_used : ByteArray := prog_12_method_51_code
def yX10_used : MethodName := ⟨RX10, "used", "(IIII)I"⟩
abbrev cX10_casksOf : ByteArray := prog_12_method_52_code
def yX10_casksOf : MethodName := ⟨RX10, "casksOf", "(IZ)I"⟩
abbrev cX10_landed : ByteArray := prog_12_method_53_code
def yX10_landed : MethodName := ⟨RX10, "landed", "(II)I"⟩
abbrev cX10_lotOf : ByteArray := prog_12_method_54_code
def yX10_lotOf : MethodName := ⟨RX10, "lotOf", "(II)I"⟩
abbrev cX10_boatOf : ByteArray := prog_12_method_55_code
def yX10_boatOf : MethodName := ⟨RX10, "boatOf", "(II)I"⟩
abbrev cX10_hideOf : ByteArray := prog_12_method_56_code
def yX10_hideOf : MethodName := ⟨RX10, "hideOf", "(II)I"⟩
abbrev cX10_watched : ByteArray := prog_12_method_57_code
def yX10_watched : MethodName := ⟨RX10, "watched", "(I)I"⟩
abbrev cX10_coins : ByteArray := prog_12_method_58_code
def yX10_coins : MethodName := ⟨RX10, "coins", "(I)I"⟩
abbrev cX10_count : ByteArray := prog_12_method_59_code
def yX10_count : MethodName := ⟨RX10, "count", "(I)I"⟩
def RJ9 : String := "java/lang/Math"
def TJ9 : u_T := fun k => match k with
  | _ => ("", "", "", false)
def tyJ9 : Nat → FieldType := fun k => match k with
  | _ => .int
abbrev wsJ90 : List Cond := u_ws RJ9 TJ9 0
theorem nmJ9 : ∀ a, a < 0 → ∀ b, b < 0 → a ≠ b → (TJ9 a).2.1 ≠ (TJ9 b).2.1 := by decide +kernel
theorem tyJ9_ok : ∀ k, k < 0 → parseFieldDescriptor (TJ9 k).2.2.1 = some (tyJ9 k) := by decide +kernel
abbrev cJ9_max_7cf53 : ByteArray := prog_13_method_65_code
def yJ9_max_7cf53 : MethodName := ⟨RJ9, "max", "(II)I"⟩
abbrev cJ9_max_f86c9 : ByteArray := prog_13_method_66_code
def yJ9_max_f86c9 : MethodName := ⟨RJ9, "max", "(JJ)J"⟩
abbrev cJ9_min_7cf53 : ByteArray := prog_13_method_69_code
def yJ9_min_7cf53 : MethodName := ⟨RJ9, "min", "(II)I"⟩
def RJ10 : String := "java/lang/System"
def TJ10 : u_T := fun k => match k with
  | _ => ("", "", "", false)
def tyJ10 : Nat → FieldType := fun k => match k with
  | _ => .int
abbrev wsJ100 : List Cond := u_ws RJ10 TJ10 0
theorem nmJ10 : ∀ a, a < 0 → ∀ b, b < 0 → a ≠ b → (TJ10 a).2.1 ≠ (TJ10 b).2.1 := by decide +kernel
theorem tyJ10_ok : ∀ k, k < 0 → parseFieldDescriptor (TJ10 k).2.2.1 = some (tyJ10 k) := by decide +kernel
def RL : String := "CoastWatchLaw"
abbrev cL_law : ByteArray := code
def yL_law : MethodName := ⟨RL, "law", "([I)Z"⟩
def wsX0_init : List Cond := .code yX0_init cX0_init 1 none :: ([.methodLink RX0 3 objectInit, .instanceMethod objectInit, .code objectInit ⟨#[0xb1]⟩ 1 none, .fieldLink RX0 9 "CoastWatch$Boats" "size" "I", .arrayClass .int, .fieldLink RX0 15 "CoastWatch$Boats" "draught" "[I", .fieldLink RX0 19 "CoastWatch$Boats" "hold" "[I", .fieldLink RX0 22 "CoastWatch$Boats" "strength" "[I", .fieldLink RX0 25 "CoastWatch$Boats" "bold" "[I", .fieldLink RX0 28 "CoastWatch$Boats" "casks" "[I", .fieldLink RX0 31 "CoastWatch$Boats" "escapes" "[I", .fieldLink RX0 34 "CoastWatch$Boats" "returns" "[I", .classLink RX0 37 "[[I", .fieldLink RX0 39 "CoastWatch$Boats" "fear" "[[I"] ++ wsX00)
def wsX0_add : List Cond := .code yX0_add cX0_add 6 (some .int) :: ([.fieldLink RX0 9 "CoastWatch$Boats" "size" "I", .fieldLink RX0 15 "CoastWatch$Boats" "draught" "[I", .fieldLink RX0 19 "CoastWatch$Boats" "hold" "[I", .fieldLink RX0 22 "CoastWatch$Boats" "strength" "[I", .fieldLink RX0 25 "CoastWatch$Boats" "bold" "[I"] ++ wsX00)
def wsX0_frighten : List Cond := .code yX0_frighten cX0_frighten 4 none :: ([.fieldLink RX0 39 "CoastWatch$Boats" "fear" "[[I", .methodLink RX0 42 Lib.Math.min.name, .static Lib.Math.min.name, .initialized "java/lang/Math", .code Lib.Math.min.name Lib.Math.min.code 2 (some .int)] ++ wsX00)
def wsX0_calm : List Cond := .code yX0_calm cX0_calm 3 none :: ([.fieldLink RX0 9 "CoastWatch$Boats" "size" "I", .fieldLink RX0 39 "CoastWatch$Boats" "fear" "[[I"] ++ wsX00)
def wsX1_init : List Cond := .code yX1_init cX1_init 2 none :: ([.methodLink RX1 3 objectInit, .instanceMethod objectInit, .code objectInit ⟨#[0xb1]⟩ 1 none, .arrayClass .int, .fieldLink RX1 9 "CoastWatch$Coves" "depth" "[I", .fieldLink RX1 15 "CoastWatch$Coves" "worth" "[I", .fieldLink RX1 18 "CoastWatch$Coves" "ledBy" "[I", .fieldLink RX1 21 "CoastWatch$Coves" "standing" "[I", .fieldLink RX1 24 "CoastWatch$Coves" "shares" "[I", .arrayClass .boolean, .fieldLink RX1 27 "CoastWatch$Coves" "bribed" "[Z", .fieldLink RX1 31 "CoastWatch$Coves" "watchers" "[I"] ++ wsX10)
def wsX1_sumOfShares : List Cond := .code yX1_sumOfShares cX1_sumOfShares 3 (some .int) :: ([.fieldLink RX1 24 "CoastWatch$Coves" "shares" "[I"] ++ wsX10)
def wsX1_coveOfShare : List Cond := .code yX1_coveOfShare cX1_coveOfShare 4 (some .int) :: ([.fieldLink RX1 24 "CoastWatch$Coves" "shares" "[I"] ++ wsX10)
def wsX1_countingAt : List Cond := .code yX1_countingAt cX1_countingAt 2 (some .int) :: ([.fieldLink RX1 27 "CoastWatch$Coves" "bribed" "[Z", .fieldLink RX1 31 "CoastWatch$Coves" "watchers" "[I"] ++ wsX10)
def wsX2_init : List Cond := .code yX2_init cX2_init 1 none :: ([.methodLink RX2 3 objectInit, .instanceMethod objectInit, .code objectInit ⟨#[0xb1]⟩ 1 none, .arrayClass .int, .fieldLink RX2 9 "CoastWatch$Game" "worths" "[I", .fieldLink RX2 15 "CoastWatch$Game" "above" "J", .fieldLink RX2 19 "CoastWatch$Game" "below" "J"] ++ wsX20)
def wsX2_sortDown : List Cond := .code yX2_sortDown cX2_sortDown 5 none :: ([.fieldLink RX2 9 "CoastWatch$Game" "worths" "[I"] ++ wsX20)
def wsX2_solve : List Cond := .code yX2_solve cX2_solve 13 none :: ([.fieldLink RX2 9 "CoastWatch$Game" "worths" "[I", .fieldLink RX2 15 "CoastWatch$Game" "above" "J", .fieldLink RX2 19 "CoastWatch$Game" "below" "J", .methodLink RX2 22 yX2_sortDown, .instanceMethod yX2_sortDown, .selects RX2 yX2_sortDown yX2_sortDown, .initialized RX2, .code yX2_sortDown cX2_sortDown 5 none] ++ wsX20)
def wsX3_init : List Cond := .code yX3_init cX3_init 1 none :: ([.methodLink RX3 5 objectInit, .instanceMethod objectInit, .code objectInit ⟨#[0xb1]⟩ 1 none, .fieldLink RX3 11 "CoastWatch$Hides" "size" "I", .arrayClass .int, .fieldLink RX3 15 "CoastWatch$Hides" "cove" "[I", .fieldLink RX3 19 "CoastWatch$Hides" "room" "[I", .fieldLink RX3 22 "CoastWatch$Hides" "cost" "[I", .fieldLink RX3 25 "CoastWatch$Hides" "guess" "[I", .fieldLink RX3 28 "CoastWatch$Hides" "lying" "[I", .arrayClass .long, .fieldLink RX3 31 "CoastWatch$Hides" "scores" "[J"] ++ wsX30)
def wsX3_add : List Cond := .code yX3_add cX3_add 5 (some .int) :: ([.fieldLink RX3 11 "CoastWatch$Hides" "size" "I", .fieldLink RX3 15 "CoastWatch$Hides" "cove" "[I", .fieldLink RX3 19 "CoastWatch$Hides" "room" "[I", .fieldLink RX3 22 "CoastWatch$Hides" "cost" "[I"] ++ wsX30)
def wsX3_firstWithRoom : List Cond := .code yX3_firstWithRoom cX3_firstWithRoom 4 (some .int) :: ([.fieldLink RX3 11 "CoastWatch$Hides" "size" "I", .fieldLink RX3 15 "CoastWatch$Hides" "cove" "[I", .fieldLink RX3 19 "CoastWatch$Hides" "room" "[I", .fieldLink RX3 28 "CoastWatch$Hides" "lying" "[I"] ++ wsX30)
def wsX3_suspect : List Cond := .code yX3_suspect cX3_suspect 3 none :: ([.fieldLink RX3 11 "CoastWatch$Hides" "size" "I", .fieldLink RX3 15 "CoastWatch$Hides" "cove" "[I", .fieldLink RX3 25 "CoastWatch$Hides" "guess" "[I", .methodLink RX3 35 Lib.Math.min.name, .static Lib.Math.min.name, .initialized "java/lang/Math", .code Lib.Math.min.name Lib.Math.min.code 2 (some .int)] ++ wsX30)
def wsX3_bestSet : List Cond := .code yX3_bestSet cX3_bestSet 7 (some .int) :: ([.methodLink RX3 35 Lib.Math.min.name, .static Lib.Math.min.name, .initialized "java/lang/Math", .code Lib.Math.min.name Lib.Math.min.code 2 (some .int), .fieldLink RX3 31 "CoastWatch$Hides" "scores" "[J", .fieldLink RX3 11 "CoastWatch$Hides" "size" "I", .fieldLink RX3 25 "CoastWatch$Hides" "guess" "[I", .constantLong RX3 41 (8192), .fieldLink RX3 22 "CoastWatch$Hides" "cost" "[I", .methodLink RX3 43 Lib.MathLoose.max_long.x, .static Lib.MathLoose.max_long.x, .code Lib.MathLoose.max_long.x Lib.MathLoose.max_long.code 4 (some .long), .constantLong RX3 47 (8191)] ++ wsX30)
def wsX4_init : List Cond := .code yX4_init cX4_init 1 none :: ([.methodLink RX4 3 objectInit, .instanceMethod objectInit, .code objectInit ⟨#[0xb1]⟩ 1 none, .fieldLink RX4 9 "CoastWatch$Laws" "size" "I", .arrayClass .int, .fieldLink RX4 15 "CoastWatch$Laws" "crew" "[I", .fieldLink RX4 19 "CoastWatch$Laws" "informer" "[I", .fieldLink RX4 22 "CoastWatch$Laws" "from" "[I"] ++ wsX40)
def wsX4_add : List Cond := .code yX4_add cX4_add 5 (some .int) :: ([.fieldLink RX4 9 "CoastWatch$Laws" "size" "I", .fieldLink RX4 15 "CoastWatch$Laws" "crew" "[I", .fieldLink RX4 19 "CoastWatch$Laws" "informer" "[I", .fieldLink RX4 22 "CoastWatch$Laws" "from" "[I"] ++ wsX40)
def wsX4_inForceOn : List Cond := .code yX4_inForceOn cX4_inForceOn 4 (some .int) :: ([.fieldLink RX4 9 "CoastWatch$Laws" "size" "I", .fieldLink RX4 22 "CoastWatch$Laws" "from" "[I"] ++ wsX40)
def wsX5_init : List Cond := .code yX5_init cX5_init 1 none :: ([.methodLink RX5 3 objectInit, .instanceMethod objectInit, .code objectInit ⟨#[0xb1]⟩ 1 none, .fieldLink RX5 9 "CoastWatch$Lots" "size" "I", .arrayClass .int, .fieldLink RX5 15 "CoastWatch$Lots" "boat" "[I", .fieldLink RX5 19 "CoastWatch$Lots" "casks" "[I", .fieldLink RX5 22 "CoastWatch$Lots" "night" "[I", .fieldLink RX5 25 "CoastWatch$Lots" "cove" "[I", .fieldLink RX5 28 "CoastWatch$Lots" "place" "[I", .fieldLink RX5 31 "CoastWatch$Lots" "hide" "[I"] ++ wsX50)
def wsX5_add : List Cond := .code yX5_add cX5_add 7 none :: ([.fieldLink RX5 9 "CoastWatch$Lots" "size" "I", .fieldLink RX5 15 "CoastWatch$Lots" "boat" "[I", .fieldLink RX5 19 "CoastWatch$Lots" "casks" "[I", .fieldLink RX5 22 "CoastWatch$Lots" "night" "[I", .fieldLink RX5 25 "CoastWatch$Lots" "cove" "[I", .fieldLink RX5 28 "CoastWatch$Lots" "place" "[I", .fieldLink RX5 31 "CoastWatch$Lots" "hide" "[I"] ++ wsX50)
def wsX5_liesIn : List Cond := .code yX5_liesIn cX5_liesIn 3 (some .boolean) :: ([.fieldLink RX5 28 "CoastWatch$Lots" "place" "[I", .fieldLink RX5 31 "CoastWatch$Lots" "hide" "[I"] ++ wsX50)
def wsX5_cameTo : List Cond := .code yX5_cameTo cX5_cameTo 4 (some .boolean) :: ([.fieldLink RX5 9 "CoastWatch$Lots" "size" "I", .fieldLink RX5 25 "CoastWatch$Lots" "cove" "[I", .fieldLink RX5 22 "CoastWatch$Lots" "night" "[I"] ++ wsX50)
def wsX5_heldIn : List Cond := .code yX5_heldIn cX5_heldIn 4 (some .int) :: ([.fieldLink RX5 9 "CoastWatch$Lots" "size" "I", .fieldLink RX5 22 "CoastWatch$Lots" "night" "[I", .fieldLink RX5 28 "CoastWatch$Lots" "place" "[I", .fieldLink RX5 19 "CoastWatch$Lots" "casks" "[I"] ++ wsX50)
def wsX5_seizedIn : List Cond := .code yX5_seizedIn cX5_seizedIn 4 (some .int) :: ([.fieldLink RX5 9 "CoastWatch$Lots" "size" "I", .fieldLink RX5 22 "CoastWatch$Lots" "night" "[I", .fieldLink RX5 28 "CoastWatch$Lots" "place" "[I", .fieldLink RX5 19 "CoastWatch$Lots" "casks" "[I"] ++ wsX50)
def wsX6_init : List Cond := .code yX6_init cX6_init 1 none :: ([.methodLink RX6 3 objectInit, .instanceMethod objectInit, .code objectInit ⟨#[0xb1]⟩ 1 none, .arrayClass .int, .fieldLink RX6 9 "CoastWatch$Seasons" "least" "[I", .fieldLink RX6 15 "CoastWatch$Seasons" "most" "[I", .fieldLink RX6 18 "CoastWatch$Seasons" "byLaw" "[I"] ++ wsX60)
def wsX6_landedOf : List Cond := .code yX6_landedOf cX6_landedOf 4 (some .int) :: ([.fieldLink RX6 18 "CoastWatch$Seasons" "byLaw" "[I", .methodLink RX6 21 Lib.Math.max.name, .static Lib.Math.max.name, .initialized "java/lang/Math", .code Lib.Math.max.name Lib.Math.max.code 2 (some .int)] ++ wsX60)
def wsX7_init : List Cond := .code yX7_init cX7_init 2 none :: ([.methodLink RX7 3 objectInit, .instanceMethod objectInit, .code objectInit ⟨#[0xb1]⟩ 1 none, .classLink RX7 9 "[[I", .arrayClass .int, .fieldLink RX7 11 "CoastWatch$Tables" "numbers" "[[I", .fieldLink RX7 16 "CoastWatch$Tables" "length" "[I"] ++ wsX70)
def wsX7_isMissing : List Cond := .code yX7_isMissing cX7_isMissing 2 (some .boolean) :: ([.fieldLink RX7 16 "CoastWatch$Tables" "length" "[I"] ++ wsX70)
def wsX7_begin : List Cond := .code yX7_begin cX7_begin 4 none :: ([.fieldLink RX7 16 "CoastWatch$Tables" "length" "[I", .fieldLink RX7 11 "CoastWatch$Tables" "numbers" "[[I"] ++ wsX70)
def wsX7_forget : List Cond := .code yX7_forget cX7_forget 2 none :: ([.fieldLink RX7 16 "CoastWatch$Tables" "length" "[I"] ++ wsX70)
def wsX7_hasPlaces : List Cond := .code yX7_hasPlaces cX7_hasPlaces 4 (some .boolean) :: ([.fieldLink RX7 16 "CoastWatch$Tables" "length" "[I"] ++ wsX70)
def wsX8_init : List Cond := .code yX8_init cX8_init 1 none :: ([.methodLink RX8 3 objectInit, .instanceMethod objectInit, .code objectInit ⟨#[0xb1]⟩ 1 none, .fieldLink RX8 9 "CoastWatch$Words" "size" "I", .arrayClass .int, .fieldLink RX8 15 "CoastWatch$Words" "informer" "[I", .fieldLink RX8 19 "CoastWatch$Words" "night" "[I", .fieldLink RX8 22 "CoastWatch$Words" "cove" "[I", .fieldLink RX8 25 "CoastWatch$Words" "right" "[I", .fieldLink RX8 28 "CoastWatch$Words" "wrong" "[I"] ++ wsX80)
def wsX8_add : List Cond := .code yX8_add cX8_add 5 (some .int) :: ([.fieldLink RX8 9 "CoastWatch$Words" "size" "I", .fieldLink RX8 15 "CoastWatch$Words" "informer" "[I", .fieldLink RX8 19 "CoastWatch$Words" "night" "[I", .fieldLink RX8 22 "CoastWatch$Words" "cove" "[I"] ++ wsX80)
def wsX8_names : List Cond := .code yX8_names cX8_names 4 (some .boolean) :: ([.fieldLink RX8 19 "CoastWatch$Words" "night" "[I", .fieldLink RX8 22 "CoastWatch$Words" "cove" "[I"] ++ wsX80)
def wsX8_isToldBy : List Cond := .code yX8_isToldBy cX8_isToldBy 5 (some .boolean) :: ([.fieldLink RX8 9 "CoastWatch$Words" "size" "I", .fieldLink RX8 15 "CoastWatch$Words" "informer" "[I", .methodLink RX8 31 yX8_names, .instanceMethod yX8_names, .selects RX8 yX8_names yX8_names, .initialized RX8, .code yX8_names cX8_names 4 (some .boolean), .fieldLink RX8 19 "CoastWatch$Words" "night" "[I", .fieldLink RX8 22 "CoastWatch$Words" "cove" "[I"] ++ wsX80)
def wsX8_firstInformer : List Cond := .code yX8_firstInformer cX8_firstInformer 4 (some .int) :: ([.fieldLink RX8 9 "CoastWatch$Words" "size" "I", .fieldLink RX8 15 "CoastWatch$Words" "informer" "[I", .methodLink RX8 31 yX8_names, .instanceMethod yX8_names, .selects RX8 yX8_names yX8_names, .initialized RX8, .code yX8_names cX8_names 4 (some .boolean), .fieldLink RX8 19 "CoastWatch$Words" "night" "[I", .fieldLink RX8 22 "CoastWatch$Words" "cove" "[I"] ++ wsX80)
def wsX8_prove : List Cond := .code yX8_prove cX8_prove 3 none :: ([.fieldLink RX8 25 "CoastWatch$Words" "right" "[I", .fieldLink RX8 15 "CoastWatch$Words" "informer" "[I", .fieldLink RX8 28 "CoastWatch$Words" "wrong" "[I"] ++ wsX80)
def wsX8_provedOf : List Cond := .code yX8_provedOf cX8_provedOf 2 (some .int) :: ([.fieldLink RX8 25 "CoastWatch$Words" "right" "[I", .fieldLink RX8 28 "CoastWatch$Words" "wrong" "[I"] ++ wsX80)
def wsX8_rightOnes : List Cond := .code yX8_rightOnes cX8_rightOnes 3 (some .int) :: ([.fieldLink RX8 25 "CoastWatch$Words" "right" "[I"] ++ wsX80)
def wsX8_wrongOnes : List Cond := .code yX8_wrongOnes cX8_wrongOnes 3 (some .int) :: ([.fieldLink RX8 28 "CoastWatch$Words" "wrong" "[I"] ++ wsX80)
def wsX8_doubtAbove : List Cond := .code yX8_doubtAbove cX8_doubtAbove 6 (some .long) :: ([.fieldLink RX8 9 "CoastWatch$Words" "size" "I", .fieldLink RX8 28 "CoastWatch$Words" "wrong" "[I", .fieldLink RX8 15 "CoastWatch$Words" "informer" "[I", .methodLink RX8 31 yX8_names, .instanceMethod yX8_names, .selects RX8 yX8_names yX8_names, .initialized RX8, .code yX8_names cX8_names 4 (some .boolean), .fieldLink RX8 19 "CoastWatch$Words" "night" "[I", .fieldLink RX8 22 "CoastWatch$Words" "cove" "[I"] ++ wsX80)
def wsX8_doubtBelow : List Cond := .code yX8_doubtBelow cX8_doubtBelow 6 (some .long) :: ([.fieldLink RX8 9 "CoastWatch$Words" "size" "I", .fieldLink RX8 15 "CoastWatch$Words" "informer" "[I", .methodLink RX8 31 yX8_names, .instanceMethod yX8_names, .selects RX8 yX8_names yX8_names, .initialized RX8, .code yX8_names cX8_names 4 (some .boolean), .fieldLink RX8 19 "CoastWatch$Words" "night" "[I", .fieldLink RX8 22 "CoastWatch$Words" "cove" "[I", .methodLink RX8 35 yX8_provedOf, .instanceMethod yX8_provedOf, .selects RX8 yX8_provedOf yX8_provedOf, .code yX8_provedOf cX8_provedOf 2 (some .int), .fieldLink RX8 25 "CoastWatch$Words" "right" "[I", .fieldLink RX8 28 "CoastWatch$Words" "wrong" "[I"] ++ wsX80)
def wsX9_init_r1 : List Cond := [Cond.methodLink RX9 1 objectInit, Cond.instanceMethod objectInit, Cond.code objectInit ⟨#[0xb1]⟩ 1 none, Cond.fieldLink RX9 7 "CoastWatch" "night" "I", Cond.fieldLink RX9 13 "CoastWatch" "seed" "I", Cond.fieldLink RX9 16 "CoastWatch" "drawCount" "I", Cond.fieldLink RX9 19 "CoastWatch" "casksPrice" "I", Cond.arrayClass .int, Cond.fieldLink RX9 22 "CoastWatch" "refusals" "[I", Cond.fieldLink RX9 26 "CoastWatch" "purses" "[I", Cond.classLink RX9 29 RX7, Cond.instantiable RX7 2, Cond.initialized RX7, Cond.fieldLink RX9 32 "CoastWatch" "tables" "LCoastWatch$Tables;", Cond.classLink RX9 36 RX1, Cond.instantiable RX1 7, Cond.initialized RX1, Cond.fieldLink RX9 39 "CoastWatch" "coves" "LCoastWatch$Coves;", Cond.classLink RX9 43 RX0, Cond.instantiable RX0 9, Cond.initialized RX0, Cond.fieldLink RX9 46 "CoastWatch" "boats" "LCoastWatch$Boats;", Cond.classLink RX9 50 RX3, Cond.instantiable RX3 7]
def wsX9_init_r2 : List Cond := [Cond.initialized RX3, Cond.fieldLink RX9 53 "CoastWatch" "hides" "LCoastWatch$Hides;", Cond.classLink RX9 57 RX5, Cond.instantiable RX5 7, Cond.initialized RX5, Cond.fieldLink RX9 60 "CoastWatch" "lots" "LCoastWatch$Lots;", Cond.classLink RX9 64 RX4, Cond.instantiable RX4 4, Cond.initialized RX4, Cond.fieldLink RX9 67 "CoastWatch" "laws" "LCoastWatch$Laws;", Cond.classLink RX9 71 RX8, Cond.instantiable RX8 6, Cond.initialized RX8, Cond.fieldLink RX9 74 "CoastWatch" "words" "LCoastWatch$Words;", Cond.classLink RX9 78 RX6, Cond.instantiable RX6 3, Cond.initialized RX6, Cond.fieldLink RX9 81 "CoastWatch" "seasons" "LCoastWatch$Seasons;", Cond.classLink RX9 85 RX2, Cond.instantiable RX2 3, Cond.initialized RX2, Cond.fieldLink RX9 88 "CoastWatch" "game" "LCoastWatch$Game;", Cond.methodLink RX9 31 yX7_init, Cond.instanceMethod yX7_init]
def wsX9_init_r3 : List Cond := [Cond.code yX7_init cX7_init 2 none, Cond.methodLink RX7 3 objectInit, Cond.classLink RX7 9 "[[I", Cond.fieldLink RX7 11 "CoastWatch$Tables" "numbers" "[[I", Cond.fieldLink RX7 16 "CoastWatch$Tables" "length" "[I", Cond.methodLink RX9 38 yX1_init, Cond.instanceMethod yX1_init, Cond.code yX1_init cX1_init 2 none, Cond.methodLink RX1 3 objectInit, Cond.fieldLink RX1 9 "CoastWatch$Coves" "depth" "[I", Cond.fieldLink RX1 15 "CoastWatch$Coves" "worth" "[I", Cond.fieldLink RX1 18 "CoastWatch$Coves" "ledBy" "[I", Cond.fieldLink RX1 21 "CoastWatch$Coves" "standing" "[I", Cond.fieldLink RX1 24 "CoastWatch$Coves" "shares" "[I", Cond.arrayClass .boolean, Cond.fieldLink RX1 27 "CoastWatch$Coves" "bribed" "[Z", Cond.fieldLink RX1 31 "CoastWatch$Coves" "watchers" "[I", Cond.instanceMethod yX0_init, Cond.code yX0_init cX0_init 1 none, Cond.methodLink RX0 3 objectInit, Cond.fieldLink RX0 9 "CoastWatch$Boats" "size" "I", Cond.fieldLink RX0 15 "CoastWatch$Boats" "draught" "[I", Cond.fieldLink RX0 19 "CoastWatch$Boats" "hold" "[I", Cond.fieldLink RX0 22 "CoastWatch$Boats" "strength" "[I"]
def wsX9_init_r4 : List Cond := [Cond.fieldLink RX0 25 "CoastWatch$Boats" "bold" "[I", Cond.fieldLink RX0 28 "CoastWatch$Boats" "casks" "[I", Cond.fieldLink RX0 31 "CoastWatch$Boats" "escapes" "[I", Cond.fieldLink RX0 34 "CoastWatch$Boats" "returns" "[I", Cond.classLink RX0 37 "[[I", Cond.fieldLink RX0 39 "CoastWatch$Boats" "fear" "[[I", Cond.instanceMethod yX3_init, Cond.code yX3_init cX3_init 1 none, Cond.methodLink RX3 5 objectInit, Cond.fieldLink RX3 11 "CoastWatch$Hides" "size" "I", Cond.fieldLink RX3 15 "CoastWatch$Hides" "cove" "[I", Cond.fieldLink RX3 19 "CoastWatch$Hides" "room" "[I", Cond.fieldLink RX3 22 "CoastWatch$Hides" "cost" "[I", Cond.fieldLink RX3 25 "CoastWatch$Hides" "guess" "[I", Cond.fieldLink RX3 28 "CoastWatch$Hides" "lying" "[I", Cond.arrayClass .long, Cond.fieldLink RX3 31 "CoastWatch$Hides" "scores" "[J", Cond.instanceMethod yX5_init, Cond.code yX5_init cX5_init 1 none, Cond.methodLink RX5 3 objectInit, Cond.fieldLink RX5 9 "CoastWatch$Lots" "size" "I", Cond.fieldLink RX5 15 "CoastWatch$Lots" "boat" "[I", Cond.fieldLink RX5 19 "CoastWatch$Lots" "casks" "[I", Cond.fieldLink RX5 22 "CoastWatch$Lots" "night" "[I"]
def wsX9_init_r5 : List Cond := [Cond.fieldLink RX5 25 "CoastWatch$Lots" "cove" "[I", Cond.fieldLink RX5 28 "CoastWatch$Lots" "place" "[I", Cond.fieldLink RX5 31 "CoastWatch$Lots" "hide" "[I", Cond.instanceMethod yX4_init, Cond.code yX4_init cX4_init 1 none, Cond.methodLink RX4 3 objectInit, Cond.fieldLink RX4 9 "CoastWatch$Laws" "size" "I", Cond.fieldLink RX4 15 "CoastWatch$Laws" "crew" "[I", Cond.fieldLink RX4 19 "CoastWatch$Laws" "informer" "[I", Cond.fieldLink RX4 22 "CoastWatch$Laws" "from" "[I", Cond.instanceMethod yX8_init, Cond.code yX8_init cX8_init 1 none, Cond.methodLink RX8 3 objectInit, Cond.fieldLink RX8 9 "CoastWatch$Words" "size" "I", Cond.fieldLink RX8 15 "CoastWatch$Words" "informer" "[I", Cond.fieldLink RX8 19 "CoastWatch$Words" "night" "[I", Cond.fieldLink RX8 22 "CoastWatch$Words" "cove" "[I", Cond.fieldLink RX8 25 "CoastWatch$Words" "right" "[I", Cond.fieldLink RX8 28 "CoastWatch$Words" "wrong" "[I", Cond.instanceMethod yX6_init, Cond.code yX6_init cX6_init 1 none, Cond.methodLink RX6 3 objectInit, Cond.fieldLink RX6 9 "CoastWatch$Seasons" "least" "[I", Cond.fieldLink RX6 15 "CoastWatch$Seasons" "most" "[I"]
def wsX9_init_r6 : List Cond := [Cond.fieldLink RX6 18 "CoastWatch$Seasons" "byLaw" "[I", Cond.instanceMethod yX2_init, Cond.code yX2_init cX2_init 1 none, Cond.methodLink RX2 3 objectInit, Cond.fieldLink RX2 9 "CoastWatch$Game" "worths" "[I", Cond.fieldLink RX2 15 "CoastWatch$Game" "above" "J", Cond.fieldLink RX2 19 "CoastWatch$Game" "below" "J"]
def wsX9_init : List Cond := .code yX9_init cX9_init 1 none :: ((wsX9_init_r1 ++ (wsX9_init_r2 ++ (wsX9_init_r3 ++ (wsX9_init_r4 ++ (wsX9_init_r5 ++ wsX9_init_r6))))) ++ wsX90 ++ wsX70 ++ wsX10 ++ wsX00 ++ wsX30 ++ wsX50 ++ wsX40 ++ wsX80 ++ wsX60 ++ wsX20)
def wsX9_seed : List Cond := .code yX9_seed cX9_seed 3 (some .int) :: ([.fieldLink RX9 13 "CoastWatch" "seed" "I"] ++ wsX90)
def wsX9_isCove : List Cond := .code yX9_isCove cX9_isCove 1 (some .boolean) :: ([])
def wsX9_refuse : List Cond := .code yX9_refuse cX9_refuse 3 (some .int) :: ([.fieldLink RX9 22 "CoastWatch" "refusals" "[I"] ++ wsX90)
def wsX9_cove : List Cond := .code yX9_cove cX9_cove 4 (some .int) :: ([.fieldLink RX9 39 "CoastWatch" "coves" "LCoastWatch$Coves;", .fieldLink RX9 100 "CoastWatch$Coves" "depth" "[I", .fieldLink RX9 103 "CoastWatch$Coves" "worth" "[I", .methodLink RX9 92 yX9_isCove, .static yX9_isCove, .initialized RX9, .code yX9_isCove cX9_isCove 1 (some .boolean), .methodLink RX9 96 yX9_refuse, .instanceMethod yX9_refuse, .selects RX9 yX9_refuse yX9_refuse, .code yX9_refuse cX9_refuse 3 (some .int), .fieldLink RX9 22 "CoastWatch" "refusals" "[I"] ++ wsX90 ++ wsX10)
def wsX9_isTable : List Cond := .code yX9_isTable cX9_isTable 1 (some .boolean) :: ([])
def wsX9_row : List Cond := .code yX9_row cX9_row 3 (some .int) :: ([.fieldLink RX9 32 "CoastWatch" "tables" "LCoastWatch$Tables;", .methodLink RX9 106 yX9_isTable, .static yX9_isTable, .initialized RX9, .code yX9_isTable cX9_isTable 1 (some .boolean), .methodLink RX9 96 yX9_refuse, .instanceMethod yX9_refuse, .selects RX9 yX9_refuse yX9_refuse, .code yX9_refuse cX9_refuse 3 (some .int), .fieldLink RX9 22 "CoastWatch" "refusals" "[I", .methodLink RX9 109 yX7_begin, .instanceMethod yX7_begin, .selects RX7 yX7_begin yX7_begin, .initialized RX7, .code yX7_begin cX7_begin 4 none, .fieldLink RX7 16 "CoastWatch$Tables" "length" "[I", .fieldLink RX7 11 "CoastWatch$Tables" "numbers" "[[I"] ++ wsX90 ++ wsX70)
def wsX9_lose : List Cond := .code yX9_lose cX9_lose 2 (some .int) :: ([.fieldLink RX9 32 "CoastWatch" "tables" "LCoastWatch$Tables;", .methodLink RX9 106 yX9_isTable, .static yX9_isTable, .initialized RX9, .code yX9_isTable cX9_isTable 1 (some .boolean), .methodLink RX9 96 yX9_refuse, .instanceMethod yX9_refuse, .selects RX9 yX9_refuse yX9_refuse, .code yX9_refuse cX9_refuse 3 (some .int), .fieldLink RX9 22 "CoastWatch" "refusals" "[I", .methodLink RX9 113 yX7_isMissing, .instanceMethod yX7_isMissing, .selects RX7 yX7_isMissing yX7_isMissing, .initialized RX7, .code yX7_isMissing cX7_isMissing 2 (some .boolean), .fieldLink RX7 16 "CoastWatch$Tables" "length" "[I", .methodLink RX9 116 yX7_forget, .instanceMethod yX7_forget, .selects RX7 yX7_forget yX7_forget, .code yX7_forget cX7_forget 2 none] ++ wsX90 ++ wsX70)
def wsX9_put : List Cond := .code yX9_put cX9_put 5 (some .int) :: ([.fieldLink RX9 32 "CoastWatch" "tables" "LCoastWatch$Tables;", .fieldLink RX9 120 "CoastWatch$Tables" "length" "[I", .fieldLink RX9 123 "CoastWatch$Tables" "numbers" "[[I", .methodLink RX9 106 yX9_isTable, .static yX9_isTable, .initialized RX9, .code yX9_isTable cX9_isTable 1 (some .boolean), .methodLink RX9 96 yX9_refuse, .instanceMethod yX9_refuse, .selects RX9 yX9_refuse yX9_refuse, .code yX9_refuse cX9_refuse 3 (some .int), .fieldLink RX9 22 "CoastWatch" "refusals" "[I", .methodLink RX9 113 yX7_isMissing, .instanceMethod yX7_isMissing, .selects RX7 yX7_isMissing yX7_isMissing, .initialized RX7, .code yX7_isMissing cX7_isMissing 2 (some .boolean), .fieldLink RX7 16 "CoastWatch$Tables" "length" "[I"] ++ wsX90 ++ wsX70)
def wsX9_copy_r1 : List Cond := [Cond.fieldLink RX9 32 "CoastWatch" "tables" "LCoastWatch$Tables;", Cond.fieldLink RX9 123 "CoastWatch$Tables" "numbers" "[[I", Cond.methodLink RX9 131 arraycopyName, Cond.native arraycopyName, Cond.static arraycopyName, Cond.initialized "java/lang/System", Cond.methodLink RX9 106 yX9_isTable, Cond.static yX9_isTable, Cond.initialized RX9, Cond.code yX9_isTable cX9_isTable 1 (some .boolean), Cond.methodLink RX9 96 yX9_refuse, Cond.instanceMethod yX9_refuse, Cond.selects RX9 yX9_refuse yX9_refuse, Cond.code yX9_refuse cX9_refuse 3 (some .int), Cond.fieldLink RX9 22 "CoastWatch" "refusals" "[I", Cond.methodLink RX9 113 yX7_isMissing, Cond.instanceMethod yX7_isMissing, Cond.selects RX7 yX7_isMissing yX7_isMissing, Cond.initialized RX7, Cond.code yX7_isMissing cX7_isMissing 2 (some .boolean), Cond.fieldLink RX7 16 "CoastWatch$Tables" "length" "[I", Cond.methodLink RX9 127 yX7_hasPlaces, Cond.instanceMethod yX7_hasPlaces, Cond.selects RX7 yX7_hasPlaces yX7_hasPlaces]
def wsX9_copy_r2 : List Cond := [Cond.code yX7_hasPlaces cX7_hasPlaces 4 (some .boolean)]
def wsX9_copy : List Cond := .code yX9_copy cX9_copy 6 (some .int) :: ((wsX9_copy_r1 ++ wsX9_copy_r2) ++ wsX90 ++ wsX70)
def wsX9_lead : List Cond := .code yX9_lead cX9_lead 4 (some .int) :: ([.constant RX9 137 (2000000000), .fieldLink RX9 39 "CoastWatch" "coves" "LCoastWatch$Coves;", .fieldLink RX9 138 "CoastWatch$Coves" "ledBy" "[I", .methodLink RX9 92 yX9_isCove, .static yX9_isCove, .initialized RX9, .code yX9_isCove cX9_isCove 1 (some .boolean), .methodLink RX9 106 yX9_isTable, .static yX9_isTable, .code yX9_isTable cX9_isTable 1 (some .boolean), .methodLink RX9 96 yX9_refuse, .instanceMethod yX9_refuse, .selects RX9 yX9_refuse yX9_refuse, .code yX9_refuse cX9_refuse 3 (some .int), .fieldLink RX9 22 "CoastWatch" "refusals" "[I"] ++ wsX90 ++ wsX10)
def wsX9_tideAt : List Cond := .code yX9_tideAt cX9_tideAt 5 (some .int) :: ([.fieldLink RX9 39 "CoastWatch" "coves" "LCoastWatch$Coves;", .fieldLink RX9 138 "CoastWatch$Coves" "ledBy" "[I", .fieldLink RX9 32 "CoastWatch" "tables" "LCoastWatch$Tables;", .fieldLink RX9 120 "CoastWatch$Tables" "length" "[I", .fieldLink RX9 123 "CoastWatch$Tables" "numbers" "[[I", .methodLink RX9 106 yX9_isTable, .static yX9_isTable, .initialized RX9, .code yX9_isTable cX9_isTable 1 (some .boolean)] ++ wsX90 ++ wsX10 ++ wsX70)
def wsX9_tide : List Cond := .code yX9_tide cX9_tide 3 (some .int) :: ([.methodLink RX9 92 yX9_isCove, .static yX9_isCove, .initialized RX9, .code yX9_isCove cX9_isCove 1 (some .boolean), .methodLink RX9 96 yX9_refuse, .instanceMethod yX9_refuse, .selects RX9 yX9_refuse yX9_refuse, .code yX9_refuse cX9_refuse 3 (some .int), .fieldLink RX9 22 "CoastWatch" "refusals" "[I", .methodLink RX9 141 yX9_tideAt, .instanceMethod yX9_tideAt, .selects RX9 yX9_tideAt yX9_tideAt, .code yX9_tideAt cX9_tideAt 5 (some .int), .fieldLink RX9 39 "CoastWatch" "coves" "LCoastWatch$Coves;", .fieldLink RX9 138 "CoastWatch$Coves" "ledBy" "[I", .fieldLink RX9 32 "CoastWatch" "tables" "LCoastWatch$Tables;", .fieldLink RX9 120 "CoastWatch$Tables" "length" "[I", .fieldLink RX9 123 "CoastWatch$Tables" "numbers" "[[I", .methodLink RX9 106 yX9_isTable, .static yX9_isTable, .code yX9_isTable cX9_isTable 1 (some .boolean)] ++ wsX90 ++ wsX10 ++ wsX70)
def wsX9_boat : List Cond := .code yX9_boat cX9_boat 5 (some .int) :: ([.fieldLink RX9 46 "CoastWatch" "boats" "LCoastWatch$Boats;", .fieldLink RX9 145 "CoastWatch$Boats" "size" "I", .methodLink RX9 96 yX9_refuse, .instanceMethod yX9_refuse, .selects RX9 yX9_refuse yX9_refuse, .initialized RX9, .code yX9_refuse cX9_refuse 3 (some .int), .fieldLink RX9 22 "CoastWatch" "refusals" "[I", .methodLink RX9 148 yX0_add, .instanceMethod yX0_add, .selects RX0 yX0_add yX0_add, .initialized RX0, .code yX0_add cX0_add 6 (some .int), .fieldLink RX0 9 "CoastWatch$Boats" "size" "I", .fieldLink RX0 15 "CoastWatch$Boats" "draught" "[I", .fieldLink RX0 19 "CoastWatch$Boats" "hold" "[I", .fieldLink RX0 22 "CoastWatch$Boats" "strength" "[I", .fieldLink RX0 25 "CoastWatch$Boats" "bold" "[I"] ++ wsX90 ++ wsX00)
def wsX9_isBoat : List Cond := .code yX9_isBoat cX9_isBoat 2 (some .boolean) :: ([.fieldLink RX9 46 "CoastWatch" "boats" "LCoastWatch$Boats;", .fieldLink RX9 145 "CoastWatch$Boats" "size" "I"] ++ wsX90 ++ wsX00)
def wsX9_load : List Cond := .code yX9_load cX9_load 3 (some .int) :: ([.fieldLink RX9 46 "CoastWatch" "boats" "LCoastWatch$Boats;", .fieldLink RX9 155 "CoastWatch$Boats" "hold" "[I", .fieldLink RX9 158 "CoastWatch$Boats" "casks" "[I", .methodLink RX9 152 yX9_isBoat, .instanceMethod yX9_isBoat, .selects RX9 yX9_isBoat yX9_isBoat, .initialized RX9, .code yX9_isBoat cX9_isBoat 2 (some .boolean), .fieldLink RX9 145 "CoastWatch$Boats" "size" "I", .methodLink RX9 96 yX9_refuse, .instanceMethod yX9_refuse, .selects RX9 yX9_refuse yX9_refuse, .code yX9_refuse cX9_refuse 3 (some .int), .fieldLink RX9 22 "CoastWatch" "refusals" "[I"] ++ wsX90 ++ wsX00)
def wsX9_hide : List Cond := .code yX9_hide cX9_hide 4 (some .int) :: ([.fieldLink RX9 53 "CoastWatch" "hides" "LCoastWatch$Hides;", .fieldLink RX9 161 "CoastWatch$Hides" "size" "I", .methodLink RX9 92 yX9_isCove, .static yX9_isCove, .initialized RX9, .code yX9_isCove cX9_isCove 1 (some .boolean), .methodLink RX9 96 yX9_refuse, .instanceMethod yX9_refuse, .selects RX9 yX9_refuse yX9_refuse, .code yX9_refuse cX9_refuse 3 (some .int), .fieldLink RX9 22 "CoastWatch" "refusals" "[I", .methodLink RX9 162 yX3_add, .instanceMethod yX3_add, .selects RX3 yX3_add yX3_add, .initialized RX3, .code yX3_add cX3_add 5 (some .int), .fieldLink RX3 11 "CoastWatch$Hides" "size" "I", .fieldLink RX3 15 "CoastWatch$Hides" "cove" "[I", .fieldLink RX3 19 "CoastWatch$Hides" "room" "[I", .fieldLink RX3 22 "CoastWatch$Hides" "cost" "[I"] ++ wsX90 ++ wsX30)
def wsX9_stand : List Cond := .code yX9_stand cX9_stand 4 (some .int) :: ([.fieldLink RX9 39 "CoastWatch" "coves" "LCoastWatch$Coves;", .fieldLink RX9 165 "CoastWatch$Coves" "standing" "[I", .methodLink RX9 92 yX9_isCove, .static yX9_isCove, .initialized RX9, .code yX9_isCove cX9_isCove 1 (some .boolean), .methodLink RX9 96 yX9_refuse, .instanceMethod yX9_refuse, .selects RX9 yX9_refuse yX9_refuse, .code yX9_refuse cX9_refuse 3 (some .int), .fieldLink RX9 22 "CoastWatch" "refusals" "[I"] ++ wsX90 ++ wsX10)
def wsX9_bribe : List Cond := .code yX9_bribe cX9_bribe 3 (some .int) :: ([.fieldLink RX9 39 "CoastWatch" "coves" "LCoastWatch$Coves;", .fieldLink RX9 168 "CoastWatch$Coves" "bribed" "[Z", .methodLink RX9 92 yX9_isCove, .static yX9_isCove, .initialized RX9, .code yX9_isCove cX9_isCove 1 (some .boolean), .methodLink RX9 96 yX9_refuse, .instanceMethod yX9_refuse, .selects RX9 yX9_refuse yX9_refuse, .code yX9_refuse cX9_refuse 3 (some .int), .fieldLink RX9 22 "CoastWatch" "refusals" "[I"] ++ wsX90 ++ wsX10)
def wsX9_share : List Cond := .code yX9_share cX9_share 4 (some .int) :: ([.fieldLink RX9 39 "CoastWatch" "coves" "LCoastWatch$Coves;", .fieldLink RX9 172 "CoastWatch$Coves" "shares" "[I", .methodLink RX9 92 yX9_isCove, .static yX9_isCove, .initialized RX9, .code yX9_isCove cX9_isCove 1 (some .boolean), .methodLink RX9 96 yX9_refuse, .instanceMethod yX9_refuse, .selects RX9 yX9_refuse yX9_refuse, .code yX9_refuse cX9_refuse 3 (some .int), .fieldLink RX9 22 "CoastWatch" "refusals" "[I"] ++ wsX90 ++ wsX10)
def wsX9_draws : List Cond := .code yX9_draws cX9_draws 3 (some .int) :: ([.fieldLink RX9 16 "CoastWatch" "drawCount" "I", .methodLink RX9 96 yX9_refuse, .instanceMethod yX9_refuse, .selects RX9 yX9_refuse yX9_refuse, .initialized RX9, .code yX9_refuse cX9_refuse 3 (some .int), .fieldLink RX9 22 "CoastWatch" "refusals" "[I"] ++ wsX90)
def wsX9_price : List Cond := .code yX9_price cX9_price 3 (some .int) :: ([.fieldLink RX9 19 "CoastWatch" "casksPrice" "I", .methodLink RX9 96 yX9_refuse, .instanceMethod yX9_refuse, .selects RX9 yX9_refuse yX9_refuse, .initialized RX9, .code yX9_refuse cX9_refuse 3 (some .int), .fieldLink RX9 22 "CoastWatch" "refusals" "[I"] ++ wsX90)
def wsX9_law : List Cond := .code yX9_law cX9_law 4 (some .int) :: ([.fieldLink RX9 7 "CoastWatch" "night" "I", .fieldLink RX9 67 "CoastWatch" "laws" "LCoastWatch$Laws;", .fieldLink RX9 175 "CoastWatch$Laws" "size" "I", .methodLink RX9 96 yX9_refuse, .instanceMethod yX9_refuse, .selects RX9 yX9_refuse yX9_refuse, .initialized RX9, .code yX9_refuse cX9_refuse 3 (some .int), .fieldLink RX9 22 "CoastWatch" "refusals" "[I", .methodLink RX9 176 yX4_add, .instanceMethod yX4_add, .selects RX4 yX4_add yX4_add, .initialized RX4, .code yX4_add cX4_add 5 (some .int), .fieldLink RX4 9 "CoastWatch$Laws" "size" "I", .fieldLink RX4 15 "CoastWatch$Laws" "crew" "[I", .fieldLink RX4 19 "CoastWatch$Laws" "informer" "[I", .fieldLink RX4 22 "CoastWatch$Laws" "from" "[I"] ++ wsX90 ++ wsX40)
def wsX9_isInformer : List Cond := .code yX9_isInformer cX9_isInformer 1 (some .boolean) :: ([])
def wsX9_word_r1 : List Cond := [Cond.fieldLink RX9 7 "CoastWatch" "night" "I", Cond.fieldLink RX9 74 "CoastWatch" "words" "LCoastWatch$Words;", Cond.fieldLink RX9 180 "CoastWatch$Words" "size" "I", Cond.methodLink RX9 177 yX9_isInformer, Cond.static yX9_isInformer, Cond.initialized RX9, Cond.code yX9_isInformer cX9_isInformer 1 (some .boolean), Cond.methodLink RX9 92 yX9_isCove, Cond.static yX9_isCove, Cond.code yX9_isCove cX9_isCove 1 (some .boolean), Cond.methodLink RX9 96 yX9_refuse, Cond.instanceMethod yX9_refuse, Cond.selects RX9 yX9_refuse yX9_refuse, Cond.code yX9_refuse cX9_refuse 3 (some .int), Cond.fieldLink RX9 22 "CoastWatch" "refusals" "[I", Cond.methodLink RX9 181 yX8_isToldBy, Cond.instanceMethod yX8_isToldBy, Cond.selects RX8 yX8_isToldBy yX8_isToldBy, Cond.initialized RX8, Cond.code yX8_isToldBy cX8_isToldBy 5 (some .boolean), Cond.fieldLink RX8 9 "CoastWatch$Words" "size" "I", Cond.fieldLink RX8 15 "CoastWatch$Words" "informer" "[I", Cond.methodLink RX8 31 yX8_names, Cond.instanceMethod yX8_names]
def wsX9_word_r2 : List Cond := [Cond.selects RX8 yX8_names yX8_names, Cond.code yX8_names cX8_names 4 (some .boolean), Cond.fieldLink RX8 19 "CoastWatch$Words" "night" "[I", Cond.fieldLink RX8 22 "CoastWatch$Words" "cove" "[I", Cond.methodLink RX9 184 yX8_add, Cond.instanceMethod yX8_add, Cond.selects RX8 yX8_add yX8_add, Cond.code yX8_add cX8_add 5 (some .int)]
def wsX9_word : List Cond := .code yX9_word cX9_word 4 (some .int) :: ((wsX9_word_r1 ++ wsX9_word_r2) ++ wsX90 ++ wsX80)
def wsX9_drawBelow : List Cond := .code yX9_drawBelow cX9_drawBelow 2 (some .int) :: ([.fieldLink RX9 13 "CoastWatch" "seed" "I", .constant RX9 330 (1103515245)] ++ wsX90)
def wsX9_placeWatchers : List Cond := .code yX9_placeWatchers cX9_placeWatchers 3 none :: ([.fieldLink RX9 39 "CoastWatch" "coves" "LCoastWatch$Coves;", .fieldLink RX9 291 "CoastWatch$Coves" "watchers" "[I", .fieldLink RX9 165 "CoastWatch$Coves" "standing" "[I", .fieldLink RX9 16 "CoastWatch" "drawCount" "I", .methodLink RX9 321 yX1_sumOfShares, .instanceMethod yX1_sumOfShares, .selects RX1 yX1_sumOfShares yX1_sumOfShares, .initialized RX1, .code yX1_sumOfShares cX1_sumOfShares 3 (some .int), .fieldLink RX1 24 "CoastWatch$Coves" "shares" "[I", .methodLink RX9 324 yX9_drawBelow, .instanceMethod yX9_drawBelow, .selects RX9 yX9_drawBelow yX9_drawBelow, .initialized RX9, .code yX9_drawBelow cX9_drawBelow 2 (some .int), .fieldLink RX9 13 "CoastWatch" "seed" "I", .constant RX9 330 (1103515245), .methodLink RX9 327 yX1_coveOfShare, .instanceMethod yX1_coveOfShare, .selects RX1 yX1_coveOfShare yX1_coveOfShare, .code yX1_coveOfShare cX1_coveOfShare 4 (some .int)] ++ wsX90 ++ wsX10)
def wsX9_light : List Cond := .code yX9_light cX9_light 2 (some .int) :: ([.fieldLink RX9 7 "CoastWatch" "night" "I"] ++ wsX90)
def wsX9_isOpen : List Cond := .code yX9_isOpen cX9_isOpen 3 (some .boolean) :: ([.fieldLink RX9 7 "CoastWatch" "night" "I", .fieldLink RX9 39 "CoastWatch" "coves" "LCoastWatch$Coves;", .fieldLink RX9 100 "CoastWatch$Coves" "depth" "[I", .fieldLink RX9 46 "CoastWatch" "boats" "LCoastWatch$Boats;", .fieldLink RX9 356 "CoastWatch$Boats" "draught" "[I", .methodLink RX9 141 yX9_tideAt, .instanceMethod yX9_tideAt, .selects RX9 yX9_tideAt yX9_tideAt, .initialized RX9, .code yX9_tideAt cX9_tideAt 5 (some .int), .fieldLink RX9 138 "CoastWatch$Coves" "ledBy" "[I", .fieldLink RX9 32 "CoastWatch" "tables" "LCoastWatch$Tables;", .fieldLink RX9 120 "CoastWatch$Tables" "length" "[I", .fieldLink RX9 123 "CoastWatch$Tables" "numbers" "[[I", .methodLink RX9 106 yX9_isTable, .static yX9_isTable, .code yX9_isTable cX9_isTable 1 (some .boolean)] ++ wsX90 ++ wsX10 ++ wsX00 ++ wsX70)
def wsX9_isDearer : List Cond := .code yX9_isDearer cX9_isDearer 6 (some .boolean) :: ([.fieldLink RX9 46 "CoastWatch" "boats" "LCoastWatch$Boats;", .fieldLink RX9 281 "CoastWatch$Boats" "fear" "[[I", .fieldLink RX9 39 "CoastWatch" "coves" "LCoastWatch$Coves;", .fieldLink RX9 103 "CoastWatch$Coves" "worth" "[I"] ++ wsX90 ++ wsX00 ++ wsX10)
def wsX9_chosenCove_r1 : List Cond := [Cond.methodLink RX9 350 yX9_isOpen, Cond.instanceMethod yX9_isOpen, Cond.selects RX9 yX9_isOpen yX9_isOpen, Cond.initialized RX9, Cond.code yX9_isOpen cX9_isOpen 3 (some .boolean), Cond.fieldLink RX9 7 "CoastWatch" "night" "I", Cond.fieldLink RX9 39 "CoastWatch" "coves" "LCoastWatch$Coves;", Cond.fieldLink RX9 100 "CoastWatch$Coves" "depth" "[I", Cond.fieldLink RX9 46 "CoastWatch" "boats" "LCoastWatch$Boats;", Cond.fieldLink RX9 356 "CoastWatch$Boats" "draught" "[I", Cond.methodLink RX9 141 yX9_tideAt, Cond.instanceMethod yX9_tideAt, Cond.selects RX9 yX9_tideAt yX9_tideAt, Cond.code yX9_tideAt cX9_tideAt 5 (some .int), Cond.fieldLink RX9 138 "CoastWatch$Coves" "ledBy" "[I", Cond.fieldLink RX9 32 "CoastWatch" "tables" "LCoastWatch$Tables;", Cond.fieldLink RX9 120 "CoastWatch$Tables" "length" "[I", Cond.fieldLink RX9 123 "CoastWatch$Tables" "numbers" "[[I", Cond.methodLink RX9 106 yX9_isTable, Cond.static yX9_isTable, Cond.code yX9_isTable cX9_isTable 1 (some .boolean), Cond.methodLink RX9 353 yX9_isDearer, Cond.instanceMethod yX9_isDearer, Cond.selects RX9 yX9_isDearer yX9_isDearer]
def wsX9_chosenCove_r2 : List Cond := [Cond.code yX9_isDearer cX9_isDearer 6 (some .boolean), Cond.fieldLink RX9 281 "CoastWatch$Boats" "fear" "[[I", Cond.fieldLink RX9 103 "CoastWatch$Coves" "worth" "[I"]
def wsX9_chosenCove : List Cond := .code yX9_chosenCove cX9_chosenCove 4 (some .int) :: ((wsX9_chosenCove_r1 ++ wsX9_chosenCove_r2) ++ wsX90 ++ wsX10 ++ wsX00 ++ wsX70)
def wsX9_partSeized : List Cond := .code yX9_partSeized cX9_partSeized 7 none :: ([.fieldLink RX9 19 "CoastWatch" "casksPrice" "I", .fieldLink RX9 67 "CoastWatch" "laws" "LCoastWatch$Laws;", .fieldLink RX9 7 "CoastWatch" "night" "I", .fieldLink RX9 377 "CoastWatch$Laws" "crew" "[I", .fieldLink RX9 380 "CoastWatch$Laws" "informer" "[I", .fieldLink RX9 26 "CoastWatch" "purses" "[I", .methodLink RX9 374 yX4_inForceOn, .instanceMethod yX4_inForceOn, .selects RX4 yX4_inForceOn yX4_inForceOn, .initialized RX4, .code yX4_inForceOn cX4_inForceOn 4 (some .int), .fieldLink RX4 9 "CoastWatch$Laws" "size" "I", .fieldLink RX4 22 "CoastWatch$Laws" "from" "[I", .methodLink RX9 177 yX9_isInformer, .static yX9_isInformer, .initialized RX9, .code yX9_isInformer cX9_isInformer 1 (some .boolean)] ++ wsX90 ++ wsX40)
def wsX9_meetWatchers_r1 : List Cond := [Cond.fieldLink RX9 46 "CoastWatch" "boats" "LCoastWatch$Boats;", Cond.fieldLink RX9 359 "CoastWatch$Boats" "strength" "[I", Cond.fieldLink RX9 158 "CoastWatch$Boats" "casks" "[I", Cond.fieldLink RX9 60 "CoastWatch" "lots" "LCoastWatch$Lots;", Cond.fieldLink RX9 7 "CoastWatch" "night" "I", Cond.fieldLink RX9 74 "CoastWatch" "words" "LCoastWatch$Words;", Cond.fieldLink RX9 284 "CoastWatch$Boats" "escapes" "[I", Cond.methodLink RX9 362 yX5_add, Cond.instanceMethod yX5_add, Cond.selects RX5 yX5_add yX5_add, Cond.initialized RX5, Cond.code yX5_add cX5_add 7 none, Cond.fieldLink RX5 9 "CoastWatch$Lots" "size" "I", Cond.fieldLink RX5 15 "CoastWatch$Lots" "boat" "[I", Cond.fieldLink RX5 19 "CoastWatch$Lots" "casks" "[I", Cond.fieldLink RX5 22 "CoastWatch$Lots" "night" "[I", Cond.fieldLink RX5 25 "CoastWatch$Lots" "cove" "[I", Cond.fieldLink RX5 28 "CoastWatch$Lots" "place" "[I", Cond.fieldLink RX5 31 "CoastWatch$Lots" "hide" "[I", Cond.methodLink RX9 365 yX8_firstInformer, Cond.instanceMethod yX8_firstInformer, Cond.selects RX8 yX8_firstInformer yX8_firstInformer, Cond.initialized RX8, Cond.code yX8_firstInformer cX8_firstInformer 4 (some .int)]
def wsX9_meetWatchers_r2 : List Cond := [Cond.fieldLink RX8 9 "CoastWatch$Words" "size" "I", Cond.fieldLink RX8 15 "CoastWatch$Words" "informer" "[I", Cond.methodLink RX8 31 yX8_names, Cond.instanceMethod yX8_names, Cond.selects RX8 yX8_names yX8_names, Cond.code yX8_names cX8_names 4 (some .boolean), Cond.fieldLink RX8 19 "CoastWatch$Words" "night" "[I", Cond.fieldLink RX8 22 "CoastWatch$Words" "cove" "[I", Cond.methodLink RX9 200 yX9_partSeized, Cond.instanceMethod yX9_partSeized, Cond.selects RX9 yX9_partSeized yX9_partSeized, Cond.initialized RX9, Cond.code yX9_partSeized cX9_partSeized 7 none, Cond.fieldLink RX9 19 "CoastWatch" "casksPrice" "I", Cond.fieldLink RX9 67 "CoastWatch" "laws" "LCoastWatch$Laws;", Cond.fieldLink RX9 377 "CoastWatch$Laws" "crew" "[I", Cond.fieldLink RX9 380 "CoastWatch$Laws" "informer" "[I", Cond.fieldLink RX9 26 "CoastWatch" "purses" "[I", Cond.methodLink RX9 374 yX4_inForceOn, Cond.instanceMethod yX4_inForceOn, Cond.selects RX4 yX4_inForceOn yX4_inForceOn, Cond.initialized RX4, Cond.code yX4_inForceOn cX4_inForceOn 4 (some .int), Cond.fieldLink RX4 9 "CoastWatch$Laws" "size" "I"]
def wsX9_meetWatchers_r3 : List Cond := [Cond.fieldLink RX4 22 "CoastWatch$Laws" "from" "[I", Cond.methodLink RX9 177 yX9_isInformer, Cond.static yX9_isInformer, Cond.code yX9_isInformer cX9_isInformer 1 (some .boolean), Cond.methodLink RX9 368 yX0_frighten, Cond.instanceMethod yX0_frighten, Cond.selects RX0 yX0_frighten yX0_frighten, Cond.initialized RX0, Cond.code yX0_frighten cX0_frighten 4 none, Cond.fieldLink RX0 39 "CoastWatch$Boats" "fear" "[[I", Cond.methodLink RX0 42 Lib.Math.min.name, Cond.static Lib.Math.min.name, Cond.initialized "java/lang/Math", Cond.code Lib.Math.min.name Lib.Math.min.code 2 (some .int)]
def wsX9_meetWatchers : List Cond := .code yX9_meetWatchers cX9_meetWatchers 5 none :: ((wsX9_meetWatchers_r1 ++ (wsX9_meetWatchers_r2 ++ wsX9_meetWatchers_r3)) ++ wsX90 ++ wsX00 ++ wsX50 ++ wsX80 ++ wsX40)
def wsX9_bringAshore_r1 : List Cond := [Cond.fieldLink RX9 46 "CoastWatch" "boats" "LCoastWatch$Boats;", Cond.fieldLink RX9 158 "CoastWatch$Boats" "casks" "[I", Cond.fieldLink RX9 53 "CoastWatch" "hides" "LCoastWatch$Hides;", Cond.fieldLink RX9 287 "CoastWatch$Boats" "returns" "[I", Cond.fieldLink RX9 60 "CoastWatch" "lots" "LCoastWatch$Lots;", Cond.fieldLink RX9 7 "CoastWatch" "night" "I", Cond.fieldLink RX9 203 "CoastWatch$Hides" "lying" "[I", Cond.methodLink RX9 371 yX3_firstWithRoom, Cond.instanceMethod yX3_firstWithRoom, Cond.selects RX3 yX3_firstWithRoom yX3_firstWithRoom, Cond.initialized RX3, Cond.code yX3_firstWithRoom cX3_firstWithRoom 4 (some .int), Cond.fieldLink RX3 11 "CoastWatch$Hides" "size" "I", Cond.fieldLink RX3 15 "CoastWatch$Hides" "cove" "[I", Cond.fieldLink RX3 19 "CoastWatch$Hides" "room" "[I", Cond.fieldLink RX3 28 "CoastWatch$Hides" "lying" "[I", Cond.methodLink RX9 362 yX5_add, Cond.instanceMethod yX5_add, Cond.selects RX5 yX5_add yX5_add, Cond.initialized RX5, Cond.code yX5_add cX5_add 7 none, Cond.fieldLink RX5 9 "CoastWatch$Lots" "size" "I", Cond.fieldLink RX5 15 "CoastWatch$Lots" "boat" "[I", Cond.fieldLink RX5 19 "CoastWatch$Lots" "casks" "[I"]
def wsX9_bringAshore_r2 : List Cond := [Cond.fieldLink RX5 22 "CoastWatch$Lots" "night" "[I", Cond.fieldLink RX5 25 "CoastWatch$Lots" "cove" "[I", Cond.fieldLink RX5 28 "CoastWatch$Lots" "place" "[I", Cond.fieldLink RX5 31 "CoastWatch$Lots" "hide" "[I"]
def wsX9_bringAshore : List Cond := .code yX9_bringAshore cX9_bringAshore 5 none :: ((wsX9_bringAshore_r1 ++ wsX9_bringAshore_r2) ++ wsX90 ++ wsX00 ++ wsX30 ++ wsX50)
def wsX9_lookAt : List Cond := .code yX9_lookAt cX9_lookAt 3 none :: ([.fieldLink RX9 39 "CoastWatch" "coves" "LCoastWatch$Coves;", .fieldLink RX9 291 "CoastWatch$Coves" "watchers" "[I", .fieldLink RX9 46 "CoastWatch" "boats" "LCoastWatch$Boats;", .methodLink RX9 92 yX9_isCove, .static yX9_isCove, .initialized RX9, .code yX9_isCove cX9_isCove 1 (some .boolean), .methodLink RX9 368 yX0_frighten, .instanceMethod yX0_frighten, .selects RX0 yX0_frighten yX0_frighten, .initialized RX0, .code yX0_frighten cX0_frighten 4 none, .fieldLink RX0 39 "CoastWatch$Boats" "fear" "[[I", .methodLink RX0 42 Lib.Math.min.name, .static Lib.Math.min.name, .initialized "java/lang/Math", .code Lib.Math.min.name Lib.Math.min.code 2 (some .int)] ++ wsX90 ++ wsX10 ++ wsX00)
def wsX9_sendOut_r1 : List Cond := [Cond.fieldLink RX9 46 "CoastWatch" "boats" "LCoastWatch$Boats;", Cond.fieldLink RX9 158 "CoastWatch$Boats" "casks" "[I", Cond.fieldLink RX9 60 "CoastWatch" "lots" "LCoastWatch$Lots;", Cond.fieldLink RX9 185 "CoastWatch$Lots" "size" "I", Cond.fieldLink RX9 331 "CoastWatch$Boats" "bold" "[I", Cond.fieldLink RX9 39 "CoastWatch" "coves" "LCoastWatch$Coves;", Cond.methodLink RX9 301 yX9_light, Cond.instanceMethod yX9_light, Cond.selects RX9 yX9_light yX9_light, Cond.initialized RX9, Cond.code yX9_light cX9_light 2 (some .int), Cond.fieldLink RX9 7 "CoastWatch" "night" "I", Cond.methodLink RX9 334 yX9_chosenCove, Cond.instanceMethod yX9_chosenCove, Cond.selects RX9 yX9_chosenCove yX9_chosenCove, Cond.code yX9_chosenCove cX9_chosenCove 4 (some .int), Cond.methodLink RX9 350 yX9_isOpen, Cond.instanceMethod yX9_isOpen, Cond.selects RX9 yX9_isOpen yX9_isOpen, Cond.code yX9_isOpen cX9_isOpen 3 (some .boolean), Cond.fieldLink RX9 100 "CoastWatch$Coves" "depth" "[I", Cond.fieldLink RX9 356 "CoastWatch$Boats" "draught" "[I", Cond.methodLink RX9 141 yX9_tideAt, Cond.instanceMethod yX9_tideAt]
def wsX9_sendOut_r2 : List Cond := [Cond.selects RX9 yX9_tideAt yX9_tideAt, Cond.code yX9_tideAt cX9_tideAt 5 (some .int), Cond.fieldLink RX9 138 "CoastWatch$Coves" "ledBy" "[I", Cond.fieldLink RX9 32 "CoastWatch" "tables" "LCoastWatch$Tables;", Cond.fieldLink RX9 120 "CoastWatch$Tables" "length" "[I", Cond.fieldLink RX9 123 "CoastWatch$Tables" "numbers" "[[I", Cond.methodLink RX9 106 yX9_isTable, Cond.static yX9_isTable, Cond.code yX9_isTable cX9_isTable 1 (some .boolean), Cond.methodLink RX9 353 yX9_isDearer, Cond.instanceMethod yX9_isDearer, Cond.selects RX9 yX9_isDearer yX9_isDearer, Cond.code yX9_isDearer cX9_isDearer 6 (some .boolean), Cond.fieldLink RX9 281 "CoastWatch$Boats" "fear" "[[I", Cond.fieldLink RX9 103 "CoastWatch$Coves" "worth" "[I", Cond.methodLink RX9 337 yX1_countingAt, Cond.instanceMethod yX1_countingAt, Cond.selects RX1 yX1_countingAt yX1_countingAt, Cond.initialized RX1, Cond.code yX1_countingAt cX1_countingAt 2 (some .int), Cond.fieldLink RX1 27 "CoastWatch$Coves" "bribed" "[Z", Cond.fieldLink RX1 31 "CoastWatch$Coves" "watchers" "[I", Cond.methodLink RX9 340 yX9_meetWatchers, Cond.instanceMethod yX9_meetWatchers]
def wsX9_sendOut_r3 : List Cond := [Cond.selects RX9 yX9_meetWatchers yX9_meetWatchers, Cond.code yX9_meetWatchers cX9_meetWatchers 5 none, Cond.fieldLink RX9 359 "CoastWatch$Boats" "strength" "[I", Cond.fieldLink RX9 74 "CoastWatch" "words" "LCoastWatch$Words;", Cond.fieldLink RX9 284 "CoastWatch$Boats" "escapes" "[I", Cond.methodLink RX9 362 yX5_add, Cond.instanceMethod yX5_add, Cond.selects RX5 yX5_add yX5_add, Cond.initialized RX5, Cond.code yX5_add cX5_add 7 none, Cond.fieldLink RX5 9 "CoastWatch$Lots" "size" "I", Cond.fieldLink RX5 15 "CoastWatch$Lots" "boat" "[I", Cond.fieldLink RX5 19 "CoastWatch$Lots" "casks" "[I", Cond.fieldLink RX5 22 "CoastWatch$Lots" "night" "[I", Cond.fieldLink RX5 25 "CoastWatch$Lots" "cove" "[I", Cond.fieldLink RX5 28 "CoastWatch$Lots" "place" "[I", Cond.fieldLink RX5 31 "CoastWatch$Lots" "hide" "[I", Cond.methodLink RX9 365 yX8_firstInformer, Cond.instanceMethod yX8_firstInformer, Cond.selects RX8 yX8_firstInformer yX8_firstInformer, Cond.initialized RX8, Cond.code yX8_firstInformer cX8_firstInformer 4 (some .int), Cond.fieldLink RX8 9 "CoastWatch$Words" "size" "I", Cond.fieldLink RX8 15 "CoastWatch$Words" "informer" "[I"]
def wsX9_sendOut_r4 : List Cond := [Cond.methodLink RX8 31 yX8_names, Cond.instanceMethod yX8_names, Cond.selects RX8 yX8_names yX8_names, Cond.code yX8_names cX8_names 4 (some .boolean), Cond.fieldLink RX8 19 "CoastWatch$Words" "night" "[I", Cond.fieldLink RX8 22 "CoastWatch$Words" "cove" "[I", Cond.methodLink RX9 200 yX9_partSeized, Cond.instanceMethod yX9_partSeized, Cond.selects RX9 yX9_partSeized yX9_partSeized, Cond.code yX9_partSeized cX9_partSeized 7 none, Cond.fieldLink RX9 19 "CoastWatch" "casksPrice" "I", Cond.fieldLink RX9 67 "CoastWatch" "laws" "LCoastWatch$Laws;", Cond.fieldLink RX9 377 "CoastWatch$Laws" "crew" "[I", Cond.fieldLink RX9 380 "CoastWatch$Laws" "informer" "[I", Cond.fieldLink RX9 26 "CoastWatch" "purses" "[I", Cond.methodLink RX9 374 yX4_inForceOn, Cond.instanceMethod yX4_inForceOn, Cond.selects RX4 yX4_inForceOn yX4_inForceOn, Cond.initialized RX4, Cond.code yX4_inForceOn cX4_inForceOn 4 (some .int), Cond.fieldLink RX4 9 "CoastWatch$Laws" "size" "I", Cond.fieldLink RX4 22 "CoastWatch$Laws" "from" "[I", Cond.methodLink RX9 177 yX9_isInformer, Cond.static yX9_isInformer]
def wsX9_sendOut_r5 : List Cond := [Cond.code yX9_isInformer cX9_isInformer 1 (some .boolean), Cond.methodLink RX9 368 yX0_frighten, Cond.instanceMethod yX0_frighten, Cond.selects RX0 yX0_frighten yX0_frighten, Cond.initialized RX0, Cond.code yX0_frighten cX0_frighten 4 none, Cond.fieldLink RX0 39 "CoastWatch$Boats" "fear" "[[I", Cond.methodLink RX0 42 Lib.Math.min.name, Cond.static Lib.Math.min.name, Cond.initialized "java/lang/Math", Cond.code Lib.Math.min.name Lib.Math.min.code 2 (some .int), Cond.methodLink RX9 344 yX9_bringAshore, Cond.instanceMethod yX9_bringAshore, Cond.selects RX9 yX9_bringAshore yX9_bringAshore, Cond.code yX9_bringAshore cX9_bringAshore 5 none, Cond.fieldLink RX9 53 "CoastWatch" "hides" "LCoastWatch$Hides;", Cond.fieldLink RX9 287 "CoastWatch$Boats" "returns" "[I", Cond.fieldLink RX9 203 "CoastWatch$Hides" "lying" "[I", Cond.methodLink RX9 371 yX3_firstWithRoom, Cond.instanceMethod yX3_firstWithRoom, Cond.selects RX3 yX3_firstWithRoom yX3_firstWithRoom, Cond.initialized RX3, Cond.code yX3_firstWithRoom cX3_firstWithRoom 4 (some .int), Cond.fieldLink RX3 11 "CoastWatch$Hides" "size" "I"]
def wsX9_sendOut_r6 : List Cond := [Cond.fieldLink RX3 15 "CoastWatch$Hides" "cove" "[I", Cond.fieldLink RX3 19 "CoastWatch$Hides" "room" "[I", Cond.fieldLink RX3 28 "CoastWatch$Hides" "lying" "[I", Cond.methodLink RX9 347 yX9_lookAt, Cond.instanceMethod yX9_lookAt, Cond.selects RX9 yX9_lookAt yX9_lookAt, Cond.code yX9_lookAt cX9_lookAt 3 none, Cond.fieldLink RX9 291 "CoastWatch$Coves" "watchers" "[I", Cond.methodLink RX9 92 yX9_isCove, Cond.static yX9_isCove, Cond.code yX9_isCove cX9_isCove 1 (some .boolean)]
def wsX9_sendOut : List Cond := .code yX9_sendOut cX9_sendOut 4 none :: ((wsX9_sendOut_r1 ++ (wsX9_sendOut_r2 ++ (wsX9_sendOut_r3 ++ (wsX9_sendOut_r4 ++ (wsX9_sendOut_r5 ++ wsX9_sendOut_r6))))) ++ wsX90 ++ wsX00 ++ wsX50 ++ wsX10 ++ wsX70 ++ wsX80 ++ wsX40 ++ wsX30)
def wsX9_proveWords_r1 : List Cond := [Cond.fieldLink RX9 74 "CoastWatch" "words" "LCoastWatch$Words;", Cond.fieldLink RX9 180 "CoastWatch$Words" "size" "I", Cond.fieldLink RX9 383 "CoastWatch$Words" "night" "[I", Cond.fieldLink RX9 7 "CoastWatch" "night" "I", Cond.fieldLink RX9 384 "CoastWatch$Words" "cove" "[I", Cond.fieldLink RX9 60 "CoastWatch" "lots" "LCoastWatch$Lots;", Cond.fieldLink RX9 53 "CoastWatch" "hides" "LCoastWatch$Hides;", Cond.methodLink RX9 385 yX5_cameTo, Cond.instanceMethod yX5_cameTo, Cond.selects RX5 yX5_cameTo yX5_cameTo, Cond.initialized RX5, Cond.code yX5_cameTo cX5_cameTo 4 (some .boolean), Cond.fieldLink RX5 9 "CoastWatch$Lots" "size" "I", Cond.fieldLink RX5 25 "CoastWatch$Lots" "cove" "[I", Cond.fieldLink RX5 22 "CoastWatch$Lots" "night" "[I", Cond.methodLink RX9 388 yX8_prove, Cond.instanceMethod yX8_prove, Cond.selects RX8 yX8_prove yX8_prove, Cond.initialized RX8, Cond.code yX8_prove cX8_prove 3 none, Cond.fieldLink RX8 25 "CoastWatch$Words" "right" "[I", Cond.fieldLink RX8 15 "CoastWatch$Words" "informer" "[I", Cond.fieldLink RX8 28 "CoastWatch$Words" "wrong" "[I", Cond.methodLink RX9 392 yX3_suspect]
def wsX9_proveWords_r2 : List Cond := [Cond.instanceMethod yX3_suspect, Cond.selects RX3 yX3_suspect yX3_suspect, Cond.initialized RX3, Cond.code yX3_suspect cX3_suspect 3 none, Cond.fieldLink RX3 11 "CoastWatch$Hides" "size" "I", Cond.fieldLink RX3 15 "CoastWatch$Hides" "cove" "[I", Cond.fieldLink RX3 25 "CoastWatch$Hides" "guess" "[I", Cond.methodLink RX3 35 Lib.Math.min.name, Cond.static Lib.Math.min.name, Cond.initialized "java/lang/Math", Cond.code Lib.Math.min.name Lib.Math.min.code 2 (some .int)]
def wsX9_proveWords : List Cond := .code yX9_proveWords cX9_proveWords 4 none :: ((wsX9_proveWords_r1 ++ wsX9_proveWords_r2) ++ wsX90 ++ wsX80 ++ wsX50 ++ wsX30)
def wsX9_passNight_r1 : List Cond := [Cond.fieldLink RX9 7 "CoastWatch" "night" "I", Cond.fieldLink RX9 46 "CoastWatch" "boats" "LCoastWatch$Boats;", Cond.fieldLink RX9 145 "CoastWatch$Boats" "size" "I", Cond.methodLink RX9 309 yX9_placeWatchers, Cond.instanceMethod yX9_placeWatchers, Cond.selects RX9 yX9_placeWatchers yX9_placeWatchers, Cond.initialized RX9, Cond.code yX9_placeWatchers cX9_placeWatchers 3 none, Cond.fieldLink RX9 39 "CoastWatch" "coves" "LCoastWatch$Coves;", Cond.fieldLink RX9 291 "CoastWatch$Coves" "watchers" "[I", Cond.fieldLink RX9 165 "CoastWatch$Coves" "standing" "[I", Cond.fieldLink RX9 16 "CoastWatch" "drawCount" "I", Cond.methodLink RX9 321 yX1_sumOfShares, Cond.instanceMethod yX1_sumOfShares, Cond.selects RX1 yX1_sumOfShares yX1_sumOfShares, Cond.initialized RX1, Cond.code yX1_sumOfShares cX1_sumOfShares 3 (some .int), Cond.fieldLink RX1 24 "CoastWatch$Coves" "shares" "[I", Cond.methodLink RX9 324 yX9_drawBelow, Cond.instanceMethod yX9_drawBelow, Cond.selects RX9 yX9_drawBelow yX9_drawBelow, Cond.code yX9_drawBelow cX9_drawBelow 2 (some .int), Cond.fieldLink RX9 13 "CoastWatch" "seed" "I", Cond.constant RX9 330 (1103515245)]
def wsX9_passNight_r2 : List Cond := [Cond.methodLink RX9 327 yX1_coveOfShare, Cond.instanceMethod yX1_coveOfShare, Cond.selects RX1 yX1_coveOfShare yX1_coveOfShare, Cond.code yX1_coveOfShare cX1_coveOfShare 4 (some .int), Cond.methodLink RX9 312 yX9_sendOut, Cond.instanceMethod yX9_sendOut, Cond.selects RX9 yX9_sendOut yX9_sendOut, Cond.code yX9_sendOut cX9_sendOut 4 none, Cond.fieldLink RX9 158 "CoastWatch$Boats" "casks" "[I", Cond.fieldLink RX9 60 "CoastWatch" "lots" "LCoastWatch$Lots;", Cond.fieldLink RX9 185 "CoastWatch$Lots" "size" "I", Cond.fieldLink RX9 331 "CoastWatch$Boats" "bold" "[I", Cond.methodLink RX9 301 yX9_light, Cond.instanceMethod yX9_light, Cond.selects RX9 yX9_light yX9_light, Cond.code yX9_light cX9_light 2 (some .int), Cond.methodLink RX9 334 yX9_chosenCove, Cond.instanceMethod yX9_chosenCove, Cond.selects RX9 yX9_chosenCove yX9_chosenCove, Cond.code yX9_chosenCove cX9_chosenCove 4 (some .int), Cond.methodLink RX9 350 yX9_isOpen, Cond.instanceMethod yX9_isOpen, Cond.selects RX9 yX9_isOpen yX9_isOpen, Cond.code yX9_isOpen cX9_isOpen 3 (some .boolean)]
def wsX9_passNight_r3 : List Cond := [Cond.fieldLink RX9 100 "CoastWatch$Coves" "depth" "[I", Cond.fieldLink RX9 356 "CoastWatch$Boats" "draught" "[I", Cond.methodLink RX9 141 yX9_tideAt, Cond.instanceMethod yX9_tideAt, Cond.selects RX9 yX9_tideAt yX9_tideAt, Cond.code yX9_tideAt cX9_tideAt 5 (some .int), Cond.fieldLink RX9 138 "CoastWatch$Coves" "ledBy" "[I", Cond.fieldLink RX9 32 "CoastWatch" "tables" "LCoastWatch$Tables;", Cond.fieldLink RX9 120 "CoastWatch$Tables" "length" "[I", Cond.fieldLink RX9 123 "CoastWatch$Tables" "numbers" "[[I", Cond.methodLink RX9 106 yX9_isTable, Cond.static yX9_isTable, Cond.code yX9_isTable cX9_isTable 1 (some .boolean), Cond.methodLink RX9 353 yX9_isDearer, Cond.instanceMethod yX9_isDearer, Cond.selects RX9 yX9_isDearer yX9_isDearer, Cond.code yX9_isDearer cX9_isDearer 6 (some .boolean), Cond.fieldLink RX9 281 "CoastWatch$Boats" "fear" "[[I", Cond.fieldLink RX9 103 "CoastWatch$Coves" "worth" "[I", Cond.methodLink RX9 337 yX1_countingAt, Cond.instanceMethod yX1_countingAt, Cond.selects RX1 yX1_countingAt yX1_countingAt, Cond.code yX1_countingAt cX1_countingAt 2 (some .int), Cond.fieldLink RX1 27 "CoastWatch$Coves" "bribed" "[Z"]
def wsX9_passNight_r4 : List Cond := [Cond.fieldLink RX1 31 "CoastWatch$Coves" "watchers" "[I", Cond.methodLink RX9 340 yX9_meetWatchers, Cond.instanceMethod yX9_meetWatchers, Cond.selects RX9 yX9_meetWatchers yX9_meetWatchers, Cond.code yX9_meetWatchers cX9_meetWatchers 5 none, Cond.fieldLink RX9 359 "CoastWatch$Boats" "strength" "[I", Cond.fieldLink RX9 74 "CoastWatch" "words" "LCoastWatch$Words;", Cond.fieldLink RX9 284 "CoastWatch$Boats" "escapes" "[I", Cond.methodLink RX9 362 yX5_add, Cond.instanceMethod yX5_add, Cond.selects RX5 yX5_add yX5_add, Cond.initialized RX5, Cond.code yX5_add cX5_add 7 none, Cond.fieldLink RX5 9 "CoastWatch$Lots" "size" "I", Cond.fieldLink RX5 15 "CoastWatch$Lots" "boat" "[I", Cond.fieldLink RX5 19 "CoastWatch$Lots" "casks" "[I", Cond.fieldLink RX5 22 "CoastWatch$Lots" "night" "[I", Cond.fieldLink RX5 25 "CoastWatch$Lots" "cove" "[I", Cond.fieldLink RX5 28 "CoastWatch$Lots" "place" "[I", Cond.fieldLink RX5 31 "CoastWatch$Lots" "hide" "[I", Cond.methodLink RX9 365 yX8_firstInformer, Cond.instanceMethod yX8_firstInformer, Cond.selects RX8 yX8_firstInformer yX8_firstInformer, Cond.initialized RX8]
def wsX9_passNight_r5 : List Cond := [Cond.code yX8_firstInformer cX8_firstInformer 4 (some .int), Cond.fieldLink RX8 9 "CoastWatch$Words" "size" "I", Cond.fieldLink RX8 15 "CoastWatch$Words" "informer" "[I", Cond.methodLink RX8 31 yX8_names, Cond.instanceMethod yX8_names, Cond.selects RX8 yX8_names yX8_names, Cond.code yX8_names cX8_names 4 (some .boolean), Cond.fieldLink RX8 19 "CoastWatch$Words" "night" "[I", Cond.fieldLink RX8 22 "CoastWatch$Words" "cove" "[I", Cond.methodLink RX9 200 yX9_partSeized, Cond.instanceMethod yX9_partSeized, Cond.selects RX9 yX9_partSeized yX9_partSeized, Cond.code yX9_partSeized cX9_partSeized 7 none, Cond.fieldLink RX9 19 "CoastWatch" "casksPrice" "I", Cond.fieldLink RX9 67 "CoastWatch" "laws" "LCoastWatch$Laws;", Cond.fieldLink RX9 377 "CoastWatch$Laws" "crew" "[I", Cond.fieldLink RX9 380 "CoastWatch$Laws" "informer" "[I", Cond.fieldLink RX9 26 "CoastWatch" "purses" "[I", Cond.methodLink RX9 374 yX4_inForceOn, Cond.instanceMethod yX4_inForceOn, Cond.selects RX4 yX4_inForceOn yX4_inForceOn, Cond.initialized RX4, Cond.code yX4_inForceOn cX4_inForceOn 4 (some .int), Cond.fieldLink RX4 9 "CoastWatch$Laws" "size" "I"]
def wsX9_passNight_r6 : List Cond := [Cond.fieldLink RX4 22 "CoastWatch$Laws" "from" "[I", Cond.methodLink RX9 177 yX9_isInformer, Cond.static yX9_isInformer, Cond.code yX9_isInformer cX9_isInformer 1 (some .boolean), Cond.methodLink RX9 368 yX0_frighten, Cond.instanceMethod yX0_frighten, Cond.selects RX0 yX0_frighten yX0_frighten, Cond.initialized RX0, Cond.code yX0_frighten cX0_frighten 4 none, Cond.fieldLink RX0 39 "CoastWatch$Boats" "fear" "[[I", Cond.methodLink RX0 42 Lib.Math.min.name, Cond.static Lib.Math.min.name, Cond.initialized "java/lang/Math", Cond.code Lib.Math.min.name Lib.Math.min.code 2 (some .int), Cond.methodLink RX9 344 yX9_bringAshore, Cond.instanceMethod yX9_bringAshore, Cond.selects RX9 yX9_bringAshore yX9_bringAshore, Cond.code yX9_bringAshore cX9_bringAshore 5 none, Cond.fieldLink RX9 53 "CoastWatch" "hides" "LCoastWatch$Hides;", Cond.fieldLink RX9 287 "CoastWatch$Boats" "returns" "[I", Cond.fieldLink RX9 203 "CoastWatch$Hides" "lying" "[I", Cond.methodLink RX9 371 yX3_firstWithRoom, Cond.instanceMethod yX3_firstWithRoom, Cond.selects RX3 yX3_firstWithRoom yX3_firstWithRoom]
def wsX9_passNight_r7 : List Cond := [Cond.initialized RX3, Cond.code yX3_firstWithRoom cX3_firstWithRoom 4 (some .int), Cond.fieldLink RX3 11 "CoastWatch$Hides" "size" "I", Cond.fieldLink RX3 15 "CoastWatch$Hides" "cove" "[I", Cond.fieldLink RX3 19 "CoastWatch$Hides" "room" "[I", Cond.fieldLink RX3 28 "CoastWatch$Hides" "lying" "[I", Cond.methodLink RX9 347 yX9_lookAt, Cond.instanceMethod yX9_lookAt, Cond.selects RX9 yX9_lookAt yX9_lookAt, Cond.code yX9_lookAt cX9_lookAt 3 none, Cond.methodLink RX9 92 yX9_isCove, Cond.static yX9_isCove, Cond.code yX9_isCove cX9_isCove 1 (some .boolean), Cond.methodLink RX9 315 yX0_calm, Cond.instanceMethod yX0_calm, Cond.selects RX0 yX0_calm yX0_calm, Cond.code yX0_calm cX0_calm 3 none, Cond.fieldLink RX0 9 "CoastWatch$Boats" "size" "I", Cond.methodLink RX9 318 yX9_proveWords, Cond.instanceMethod yX9_proveWords, Cond.selects RX9 yX9_proveWords yX9_proveWords, Cond.code yX9_proveWords cX9_proveWords 4 none, Cond.fieldLink RX9 180 "CoastWatch$Words" "size" "I", Cond.fieldLink RX9 383 "CoastWatch$Words" "night" "[I"]
def wsX9_passNight_r8 : List Cond := [Cond.fieldLink RX9 384 "CoastWatch$Words" "cove" "[I", Cond.methodLink RX9 385 yX5_cameTo, Cond.instanceMethod yX5_cameTo, Cond.selects RX5 yX5_cameTo yX5_cameTo, Cond.code yX5_cameTo cX5_cameTo 4 (some .boolean), Cond.methodLink RX9 388 yX8_prove, Cond.instanceMethod yX8_prove, Cond.selects RX8 yX8_prove yX8_prove, Cond.code yX8_prove cX8_prove 3 none, Cond.fieldLink RX8 25 "CoastWatch$Words" "right" "[I", Cond.fieldLink RX8 28 "CoastWatch$Words" "wrong" "[I", Cond.methodLink RX9 392 yX3_suspect, Cond.instanceMethod yX3_suspect, Cond.selects RX3 yX3_suspect yX3_suspect, Cond.code yX3_suspect cX3_suspect 3 none, Cond.fieldLink RX3 25 "CoastWatch$Hides" "guess" "[I", Cond.methodLink RX3 35 Lib.Math.min.name]
def wsX9_passNight : List Cond := .code yX9_passNight cX9_passNight 2 none :: ((wsX9_passNight_r1 ++ (wsX9_passNight_r2 ++ (wsX9_passNight_r3 ++ (wsX9_passNight_r4 ++ (wsX9_passNight_r5 ++ (wsX9_passNight_r6 ++ (wsX9_passNight_r7 ++ wsX9_passNight_r8))))))) ++ wsX90 ++ wsX00 ++ wsX10 ++ wsX50 ++ wsX70 ++ wsX80 ++ wsX40 ++ wsX30)
def wsX9_nights_r1 : List Cond := [Cond.fieldLink RX9 7 "CoastWatch" "night" "I", Cond.fieldLink RX9 60 "CoastWatch" "lots" "LCoastWatch$Lots;", Cond.fieldLink RX9 185 "CoastWatch$Lots" "size" "I", Cond.methodLink RX9 96 yX9_refuse, Cond.instanceMethod yX9_refuse, Cond.selects RX9 yX9_refuse yX9_refuse, Cond.initialized RX9, Cond.code yX9_refuse cX9_refuse 3 (some .int), Cond.fieldLink RX9 22 "CoastWatch" "refusals" "[I", Cond.methodLink RX9 186 yX9_passNight, Cond.instanceMethod yX9_passNight, Cond.selects RX9 yX9_passNight yX9_passNight, Cond.code yX9_passNight cX9_passNight 2 none, Cond.fieldLink RX9 46 "CoastWatch" "boats" "LCoastWatch$Boats;", Cond.fieldLink RX9 145 "CoastWatch$Boats" "size" "I", Cond.methodLink RX9 309 yX9_placeWatchers, Cond.instanceMethod yX9_placeWatchers, Cond.selects RX9 yX9_placeWatchers yX9_placeWatchers, Cond.code yX9_placeWatchers cX9_placeWatchers 3 none, Cond.fieldLink RX9 39 "CoastWatch" "coves" "LCoastWatch$Coves;", Cond.fieldLink RX9 291 "CoastWatch$Coves" "watchers" "[I", Cond.fieldLink RX9 165 "CoastWatch$Coves" "standing" "[I", Cond.fieldLink RX9 16 "CoastWatch" "drawCount" "I", Cond.methodLink RX9 321 yX1_sumOfShares]
def wsX9_nights_r2 : List Cond := [Cond.instanceMethod yX1_sumOfShares, Cond.selects RX1 yX1_sumOfShares yX1_sumOfShares, Cond.initialized RX1, Cond.code yX1_sumOfShares cX1_sumOfShares 3 (some .int), Cond.fieldLink RX1 24 "CoastWatch$Coves" "shares" "[I", Cond.methodLink RX9 324 yX9_drawBelow, Cond.instanceMethod yX9_drawBelow, Cond.selects RX9 yX9_drawBelow yX9_drawBelow, Cond.code yX9_drawBelow cX9_drawBelow 2 (some .int), Cond.fieldLink RX9 13 "CoastWatch" "seed" "I", Cond.constant RX9 330 (1103515245), Cond.methodLink RX9 327 yX1_coveOfShare, Cond.instanceMethod yX1_coveOfShare, Cond.selects RX1 yX1_coveOfShare yX1_coveOfShare, Cond.code yX1_coveOfShare cX1_coveOfShare 4 (some .int), Cond.methodLink RX9 312 yX9_sendOut, Cond.instanceMethod yX9_sendOut, Cond.selects RX9 yX9_sendOut yX9_sendOut, Cond.code yX9_sendOut cX9_sendOut 4 none, Cond.fieldLink RX9 158 "CoastWatch$Boats" "casks" "[I", Cond.fieldLink RX9 331 "CoastWatch$Boats" "bold" "[I", Cond.methodLink RX9 301 yX9_light, Cond.instanceMethod yX9_light, Cond.selects RX9 yX9_light yX9_light]
def wsX9_nights_r3 : List Cond := [Cond.code yX9_light cX9_light 2 (some .int), Cond.methodLink RX9 334 yX9_chosenCove, Cond.instanceMethod yX9_chosenCove, Cond.selects RX9 yX9_chosenCove yX9_chosenCove, Cond.code yX9_chosenCove cX9_chosenCove 4 (some .int), Cond.methodLink RX9 350 yX9_isOpen, Cond.instanceMethod yX9_isOpen, Cond.selects RX9 yX9_isOpen yX9_isOpen, Cond.code yX9_isOpen cX9_isOpen 3 (some .boolean), Cond.fieldLink RX9 100 "CoastWatch$Coves" "depth" "[I", Cond.fieldLink RX9 356 "CoastWatch$Boats" "draught" "[I", Cond.methodLink RX9 141 yX9_tideAt, Cond.instanceMethod yX9_tideAt, Cond.selects RX9 yX9_tideAt yX9_tideAt, Cond.code yX9_tideAt cX9_tideAt 5 (some .int), Cond.fieldLink RX9 138 "CoastWatch$Coves" "ledBy" "[I", Cond.fieldLink RX9 32 "CoastWatch" "tables" "LCoastWatch$Tables;", Cond.fieldLink RX9 120 "CoastWatch$Tables" "length" "[I", Cond.fieldLink RX9 123 "CoastWatch$Tables" "numbers" "[[I", Cond.methodLink RX9 106 yX9_isTable, Cond.static yX9_isTable, Cond.code yX9_isTable cX9_isTable 1 (some .boolean), Cond.methodLink RX9 353 yX9_isDearer, Cond.instanceMethod yX9_isDearer]
def wsX9_nights_r4 : List Cond := [Cond.selects RX9 yX9_isDearer yX9_isDearer, Cond.code yX9_isDearer cX9_isDearer 6 (some .boolean), Cond.fieldLink RX9 281 "CoastWatch$Boats" "fear" "[[I", Cond.fieldLink RX9 103 "CoastWatch$Coves" "worth" "[I", Cond.methodLink RX9 337 yX1_countingAt, Cond.instanceMethod yX1_countingAt, Cond.selects RX1 yX1_countingAt yX1_countingAt, Cond.code yX1_countingAt cX1_countingAt 2 (some .int), Cond.fieldLink RX1 27 "CoastWatch$Coves" "bribed" "[Z", Cond.fieldLink RX1 31 "CoastWatch$Coves" "watchers" "[I", Cond.methodLink RX9 340 yX9_meetWatchers, Cond.instanceMethod yX9_meetWatchers, Cond.selects RX9 yX9_meetWatchers yX9_meetWatchers, Cond.code yX9_meetWatchers cX9_meetWatchers 5 none, Cond.fieldLink RX9 359 "CoastWatch$Boats" "strength" "[I", Cond.fieldLink RX9 74 "CoastWatch" "words" "LCoastWatch$Words;", Cond.fieldLink RX9 284 "CoastWatch$Boats" "escapes" "[I", Cond.methodLink RX9 362 yX5_add, Cond.instanceMethod yX5_add, Cond.selects RX5 yX5_add yX5_add, Cond.initialized RX5, Cond.code yX5_add cX5_add 7 none, Cond.fieldLink RX5 9 "CoastWatch$Lots" "size" "I", Cond.fieldLink RX5 15 "CoastWatch$Lots" "boat" "[I"]
def wsX9_nights_r5 : List Cond := [Cond.fieldLink RX5 19 "CoastWatch$Lots" "casks" "[I", Cond.fieldLink RX5 22 "CoastWatch$Lots" "night" "[I", Cond.fieldLink RX5 25 "CoastWatch$Lots" "cove" "[I", Cond.fieldLink RX5 28 "CoastWatch$Lots" "place" "[I", Cond.fieldLink RX5 31 "CoastWatch$Lots" "hide" "[I", Cond.methodLink RX9 365 yX8_firstInformer, Cond.instanceMethod yX8_firstInformer, Cond.selects RX8 yX8_firstInformer yX8_firstInformer, Cond.initialized RX8, Cond.code yX8_firstInformer cX8_firstInformer 4 (some .int), Cond.fieldLink RX8 9 "CoastWatch$Words" "size" "I", Cond.fieldLink RX8 15 "CoastWatch$Words" "informer" "[I", Cond.methodLink RX8 31 yX8_names, Cond.instanceMethod yX8_names, Cond.selects RX8 yX8_names yX8_names, Cond.code yX8_names cX8_names 4 (some .boolean), Cond.fieldLink RX8 19 "CoastWatch$Words" "night" "[I", Cond.fieldLink RX8 22 "CoastWatch$Words" "cove" "[I", Cond.methodLink RX9 200 yX9_partSeized, Cond.instanceMethod yX9_partSeized, Cond.selects RX9 yX9_partSeized yX9_partSeized, Cond.code yX9_partSeized cX9_partSeized 7 none, Cond.fieldLink RX9 19 "CoastWatch" "casksPrice" "I", Cond.fieldLink RX9 67 "CoastWatch" "laws" "LCoastWatch$Laws;"]
def wsX9_nights_r6 : List Cond := [Cond.fieldLink RX9 377 "CoastWatch$Laws" "crew" "[I", Cond.fieldLink RX9 380 "CoastWatch$Laws" "informer" "[I", Cond.fieldLink RX9 26 "CoastWatch" "purses" "[I", Cond.methodLink RX9 374 yX4_inForceOn, Cond.instanceMethod yX4_inForceOn, Cond.selects RX4 yX4_inForceOn yX4_inForceOn, Cond.initialized RX4, Cond.code yX4_inForceOn cX4_inForceOn 4 (some .int), Cond.fieldLink RX4 9 "CoastWatch$Laws" "size" "I", Cond.fieldLink RX4 22 "CoastWatch$Laws" "from" "[I", Cond.methodLink RX9 177 yX9_isInformer, Cond.static yX9_isInformer, Cond.code yX9_isInformer cX9_isInformer 1 (some .boolean), Cond.methodLink RX9 368 yX0_frighten, Cond.instanceMethod yX0_frighten, Cond.selects RX0 yX0_frighten yX0_frighten, Cond.initialized RX0, Cond.code yX0_frighten cX0_frighten 4 none, Cond.fieldLink RX0 39 "CoastWatch$Boats" "fear" "[[I", Cond.methodLink RX0 42 Lib.Math.min.name, Cond.static Lib.Math.min.name, Cond.initialized "java/lang/Math", Cond.code Lib.Math.min.name Lib.Math.min.code 2 (some .int), Cond.methodLink RX9 344 yX9_bringAshore]
def wsX9_nights_r7 : List Cond := [Cond.instanceMethod yX9_bringAshore, Cond.selects RX9 yX9_bringAshore yX9_bringAshore, Cond.code yX9_bringAshore cX9_bringAshore 5 none, Cond.fieldLink RX9 53 "CoastWatch" "hides" "LCoastWatch$Hides;", Cond.fieldLink RX9 287 "CoastWatch$Boats" "returns" "[I", Cond.fieldLink RX9 203 "CoastWatch$Hides" "lying" "[I", Cond.methodLink RX9 371 yX3_firstWithRoom, Cond.instanceMethod yX3_firstWithRoom, Cond.selects RX3 yX3_firstWithRoom yX3_firstWithRoom, Cond.initialized RX3, Cond.code yX3_firstWithRoom cX3_firstWithRoom 4 (some .int), Cond.fieldLink RX3 11 "CoastWatch$Hides" "size" "I", Cond.fieldLink RX3 15 "CoastWatch$Hides" "cove" "[I", Cond.fieldLink RX3 19 "CoastWatch$Hides" "room" "[I", Cond.fieldLink RX3 28 "CoastWatch$Hides" "lying" "[I", Cond.methodLink RX9 347 yX9_lookAt, Cond.instanceMethod yX9_lookAt, Cond.selects RX9 yX9_lookAt yX9_lookAt, Cond.code yX9_lookAt cX9_lookAt 3 none, Cond.methodLink RX9 92 yX9_isCove, Cond.static yX9_isCove, Cond.code yX9_isCove cX9_isCove 1 (some .boolean), Cond.methodLink RX9 315 yX0_calm, Cond.instanceMethod yX0_calm]
def wsX9_nights_r8 : List Cond := [Cond.selects RX0 yX0_calm yX0_calm, Cond.code yX0_calm cX0_calm 3 none, Cond.fieldLink RX0 9 "CoastWatch$Boats" "size" "I", Cond.methodLink RX9 318 yX9_proveWords, Cond.instanceMethod yX9_proveWords, Cond.selects RX9 yX9_proveWords yX9_proveWords, Cond.code yX9_proveWords cX9_proveWords 4 none, Cond.fieldLink RX9 180 "CoastWatch$Words" "size" "I", Cond.fieldLink RX9 383 "CoastWatch$Words" "night" "[I", Cond.fieldLink RX9 384 "CoastWatch$Words" "cove" "[I", Cond.methodLink RX9 385 yX5_cameTo, Cond.instanceMethod yX5_cameTo, Cond.selects RX5 yX5_cameTo yX5_cameTo, Cond.code yX5_cameTo cX5_cameTo 4 (some .boolean), Cond.methodLink RX9 388 yX8_prove, Cond.instanceMethod yX8_prove, Cond.selects RX8 yX8_prove yX8_prove, Cond.code yX8_prove cX8_prove 3 none, Cond.fieldLink RX8 25 "CoastWatch$Words" "right" "[I", Cond.fieldLink RX8 28 "CoastWatch$Words" "wrong" "[I", Cond.methodLink RX9 392 yX3_suspect, Cond.instanceMethod yX3_suspect, Cond.selects RX3 yX3_suspect yX3_suspect, Cond.code yX3_suspect cX3_suspect 3 none]
def wsX9_nights_r9 : List Cond := [Cond.fieldLink RX3 25 "CoastWatch$Hides" "guess" "[I", Cond.methodLink RX3 35 Lib.Math.min.name]
def wsX9_nights : List Cond := .code yX9_nights cX9_nights 4 (some .int) :: ((wsX9_nights_r1 ++ (wsX9_nights_r2 ++ (wsX9_nights_r3 ++ (wsX9_nights_r4 ++ (wsX9_nights_r5 ++ (wsX9_nights_r6 ++ (wsX9_nights_r7 ++ (wsX9_nights_r8 ++ wsX9_nights_r9)))))))) ++ wsX90 ++ wsX50 ++ wsX00 ++ wsX10 ++ wsX70 ++ wsX80 ++ wsX40 ++ wsX30)
def wsX9_isHide : List Cond := .code yX9_isHide cX9_isHide 2 (some .boolean) :: ([.fieldLink RX9 53 "CoastWatch" "hides" "LCoastWatch$Hides;", .fieldLink RX9 161 "CoastWatch$Hides" "size" "I"] ++ wsX90 ++ wsX30)
def wsX9_search_r1 : List Cond := [Cond.fieldLink RX9 60 "CoastWatch" "lots" "LCoastWatch$Lots;", Cond.fieldLink RX9 185 "CoastWatch$Lots" "size" "I", Cond.fieldLink RX9 196 "CoastWatch$Lots" "place" "[I", Cond.fieldLink RX9 199 "CoastWatch$Lots" "casks" "[I", Cond.fieldLink RX9 53 "CoastWatch" "hides" "LCoastWatch$Hides;", Cond.fieldLink RX9 203 "CoastWatch$Hides" "lying" "[I", Cond.fieldLink RX9 206 "CoastWatch$Hides" "guess" "[I", Cond.methodLink RX9 189 yX9_isHide, Cond.instanceMethod yX9_isHide, Cond.selects RX9 yX9_isHide yX9_isHide, Cond.initialized RX9, Cond.code yX9_isHide cX9_isHide 2 (some .boolean), Cond.fieldLink RX9 161 "CoastWatch$Hides" "size" "I", Cond.methodLink RX9 96 yX9_refuse, Cond.instanceMethod yX9_refuse, Cond.selects RX9 yX9_refuse yX9_refuse, Cond.code yX9_refuse cX9_refuse 3 (some .int), Cond.fieldLink RX9 22 "CoastWatch" "refusals" "[I", Cond.methodLink RX9 192 yX5_liesIn, Cond.instanceMethod yX5_liesIn, Cond.selects RX5 yX5_liesIn yX5_liesIn, Cond.initialized RX5, Cond.code yX5_liesIn cX5_liesIn 3 (some .boolean), Cond.fieldLink RX5 28 "CoastWatch$Lots" "place" "[I"]
def wsX9_search_r2 : List Cond := [Cond.fieldLink RX5 31 "CoastWatch$Lots" "hide" "[I", Cond.methodLink RX9 200 yX9_partSeized, Cond.instanceMethod yX9_partSeized, Cond.selects RX9 yX9_partSeized yX9_partSeized, Cond.code yX9_partSeized cX9_partSeized 7 none, Cond.fieldLink RX9 19 "CoastWatch" "casksPrice" "I", Cond.fieldLink RX9 67 "CoastWatch" "laws" "LCoastWatch$Laws;", Cond.fieldLink RX9 7 "CoastWatch" "night" "I", Cond.fieldLink RX9 377 "CoastWatch$Laws" "crew" "[I", Cond.fieldLink RX9 380 "CoastWatch$Laws" "informer" "[I", Cond.fieldLink RX9 26 "CoastWatch" "purses" "[I", Cond.methodLink RX9 374 yX4_inForceOn, Cond.instanceMethod yX4_inForceOn, Cond.selects RX4 yX4_inForceOn yX4_inForceOn, Cond.initialized RX4, Cond.code yX4_inForceOn cX4_inForceOn 4 (some .int), Cond.fieldLink RX4 9 "CoastWatch$Laws" "size" "I", Cond.fieldLink RX4 22 "CoastWatch$Laws" "from" "[I", Cond.methodLink RX9 177 yX9_isInformer, Cond.static yX9_isInformer, Cond.code yX9_isInformer cX9_isInformer 1 (some .boolean)]
def wsX9_search : List Cond := .code yX9_search cX9_search 4 (some .int) :: ((wsX9_search_r1 ++ wsX9_search_r2) ++ wsX90 ++ wsX50 ++ wsX30 ++ wsX40)
def wsX9_best_r1 : List Cond := [Cond.fieldLink RX9 53 "CoastWatch" "hides" "LCoastWatch$Hides;", Cond.methodLink RX9 96 yX9_refuse, Cond.instanceMethod yX9_refuse, Cond.selects RX9 yX9_refuse yX9_refuse, Cond.initialized RX9, Cond.code yX9_refuse cX9_refuse 3 (some .int), Cond.fieldLink RX9 22 "CoastWatch" "refusals" "[I", Cond.methodLink RX9 209 yX3_bestSet, Cond.instanceMethod yX3_bestSet, Cond.selects RX3 yX3_bestSet yX3_bestSet, Cond.initialized RX3, Cond.code yX3_bestSet cX3_bestSet 7 (some .int), Cond.methodLink RX3 35 Lib.Math.min.name, Cond.static Lib.Math.min.name, Cond.initialized "java/lang/Math", Cond.code Lib.Math.min.name Lib.Math.min.code 2 (some .int), Cond.fieldLink RX3 31 "CoastWatch$Hides" "scores" "[J", Cond.fieldLink RX3 11 "CoastWatch$Hides" "size" "I", Cond.fieldLink RX3 25 "CoastWatch$Hides" "guess" "[I", Cond.constantLong RX3 41 (8192), Cond.fieldLink RX3 22 "CoastWatch$Hides" "cost" "[I", Cond.methodLink RX3 43 Lib.MathLoose.max_long.x, Cond.static Lib.MathLoose.max_long.x, Cond.code Lib.MathLoose.max_long.x Lib.MathLoose.max_long.code 4 (some .long)]
def wsX9_best_r2 : List Cond := [Cond.constantLong RX3 47 (8191)]
def wsX9_best : List Cond := .code yX9_best cX9_best 2 (some .int) :: ((wsX9_best_r1 ++ wsX9_best_r2) ++ wsX90 ++ wsX30)
def wsX9_isPart : List Cond := .code yX9_isPart cX9_isPart 1 (some .boolean) :: ([])
def wsX9_commonDivisor : List Cond := .code yX9_commonDivisor cX9_commonDivisor 7 (some .long) :: ([])
def wsX9_lowest : List Cond := .code yX9_lowest cX9_lowest 7 (some .long) :: ([.methodLink RX9 305 yX9_commonDivisor, .static yX9_commonDivisor, .initialized RX9, .code yX9_commonDivisor cX9_commonDivisor 7 (some .long)])
def wsX9_belief_r1 : List Cond := [Cond.fieldLink RX9 74 "CoastWatch" "words" "LCoastWatch$Words;", Cond.methodLink RX9 92 yX9_isCove, Cond.static yX9_isCove, Cond.initialized RX9, Cond.code yX9_isCove cX9_isCove 1 (some .boolean), Cond.methodLink RX9 96 yX9_refuse, Cond.instanceMethod yX9_refuse, Cond.selects RX9 yX9_refuse yX9_refuse, Cond.code yX9_refuse cX9_refuse 3 (some .int), Cond.fieldLink RX9 22 "CoastWatch" "refusals" "[I", Cond.methodLink RX9 212 yX9_isPart, Cond.static yX9_isPart, Cond.code yX9_isPart cX9_isPart 1 (some .boolean), Cond.methodLink RX9 215 yX8_doubtAbove, Cond.instanceMethod yX8_doubtAbove, Cond.selects RX8 yX8_doubtAbove yX8_doubtAbove, Cond.initialized RX8, Cond.code yX8_doubtAbove cX8_doubtAbove 6 (some .long), Cond.fieldLink RX8 9 "CoastWatch$Words" "size" "I", Cond.fieldLink RX8 28 "CoastWatch$Words" "wrong" "[I", Cond.fieldLink RX8 15 "CoastWatch$Words" "informer" "[I", Cond.methodLink RX8 31 yX8_names, Cond.instanceMethod yX8_names, Cond.selects RX8 yX8_names yX8_names]
def wsX9_belief_r2 : List Cond := [Cond.code yX8_names cX8_names 4 (some .boolean), Cond.fieldLink RX8 19 "CoastWatch$Words" "night" "[I", Cond.fieldLink RX8 22 "CoastWatch$Words" "cove" "[I", Cond.methodLink RX9 219 yX8_doubtBelow, Cond.instanceMethod yX8_doubtBelow, Cond.selects RX8 yX8_doubtBelow yX8_doubtBelow, Cond.code yX8_doubtBelow cX8_doubtBelow 6 (some .long), Cond.methodLink RX8 35 yX8_provedOf, Cond.instanceMethod yX8_provedOf, Cond.selects RX8 yX8_provedOf yX8_provedOf, Cond.code yX8_provedOf cX8_provedOf 2 (some .int), Cond.fieldLink RX8 25 "CoastWatch$Words" "right" "[I", Cond.methodLink RX9 222 yX9_lowest, Cond.static yX9_lowest, Cond.code yX9_lowest cX9_lowest 7 (some .long), Cond.methodLink RX9 305 yX9_commonDivisor, Cond.static yX9_commonDivisor, Cond.code yX9_commonDivisor cX9_commonDivisor 7 (some .long)]
def wsX9_belief : List Cond := .code yX9_belief cX9_belief 8 (some .long) :: ((wsX9_belief_r1 ++ wsX9_belief_r2) ++ wsX90 ++ wsX80)
def wsX9_weight_r1 : List Cond := [Cond.fieldLink RX9 74 "CoastWatch" "words" "LCoastWatch$Words;", Cond.fieldLink RX9 226 "CoastWatch$Words" "right" "[I", Cond.methodLink RX9 177 yX9_isInformer, Cond.static yX9_isInformer, Cond.initialized RX9, Cond.code yX9_isInformer cX9_isInformer 1 (some .boolean), Cond.methodLink RX9 96 yX9_refuse, Cond.instanceMethod yX9_refuse, Cond.selects RX9 yX9_refuse yX9_refuse, Cond.code yX9_refuse cX9_refuse 3 (some .int), Cond.fieldLink RX9 22 "CoastWatch" "refusals" "[I", Cond.methodLink RX9 212 yX9_isPart, Cond.static yX9_isPart, Cond.code yX9_isPart cX9_isPart 1 (some .boolean), Cond.methodLink RX9 229 yX8_provedOf, Cond.instanceMethod yX8_provedOf, Cond.selects RX8 yX8_provedOf yX8_provedOf, Cond.initialized RX8, Cond.code yX8_provedOf cX8_provedOf 2 (some .int), Cond.fieldLink RX8 25 "CoastWatch$Words" "right" "[I", Cond.fieldLink RX8 28 "CoastWatch$Words" "wrong" "[I", Cond.methodLink RX9 222 yX9_lowest, Cond.static yX9_lowest, Cond.code yX9_lowest cX9_lowest 7 (some .long)]
def wsX9_weight_r2 : List Cond := [Cond.methodLink RX9 305 yX9_commonDivisor, Cond.static yX9_commonDivisor, Cond.code yX9_commonDivisor cX9_commonDivisor 7 (some .long)]
def wsX9_weight : List Cond := .code yX9_weight cX9_weight 3 (some .int) :: ((wsX9_weight_r1 ++ wsX9_weight_r2) ++ wsX90 ++ wsX80)
def wsX9_gameRefusal : List Cond := .code yX9_gameRefusal cX9_gameRefusal 3 (some .int) :: ([.methodLink RX9 212 yX9_isPart, .static yX9_isPart, .initialized RX9, .code yX9_isPart cX9_isPart 1 (some .boolean)])
def wsX9_value_r1 : List Cond := [Cond.constantLong RX9 235 (4000000000000000000), Cond.fieldLink RX9 88 "CoastWatch" "game" "LCoastWatch$Game;", Cond.fieldLink RX9 39 "CoastWatch" "coves" "LCoastWatch$Coves;", Cond.fieldLink RX9 103 "CoastWatch$Coves" "worth" "[I", Cond.fieldLink RX9 241 "CoastWatch$Game" "above" "J", Cond.fieldLink RX9 245 "CoastWatch$Game" "below" "J", Cond.methodLink RX9 232 yX9_gameRefusal, Cond.static yX9_gameRefusal, Cond.initialized RX9, Cond.code yX9_gameRefusal cX9_gameRefusal 3 (some .int), Cond.methodLink RX9 212 yX9_isPart, Cond.static yX9_isPart, Cond.code yX9_isPart cX9_isPart 1 (some .boolean), Cond.methodLink RX9 96 yX9_refuse, Cond.instanceMethod yX9_refuse, Cond.selects RX9 yX9_refuse yX9_refuse, Cond.code yX9_refuse cX9_refuse 3 (some .int), Cond.fieldLink RX9 22 "CoastWatch" "refusals" "[I", Cond.methodLink RX9 237 yX2_solve, Cond.instanceMethod yX2_solve, Cond.selects RX2 yX2_solve yX2_solve, Cond.initialized RX2, Cond.code yX2_solve cX2_solve 13 none, Cond.fieldLink RX2 9 "CoastWatch$Game" "worths" "[I"]
def wsX9_value_r2 : List Cond := [Cond.fieldLink RX2 15 "CoastWatch$Game" "above" "J", Cond.fieldLink RX2 19 "CoastWatch$Game" "below" "J", Cond.methodLink RX2 22 yX2_sortDown, Cond.instanceMethod yX2_sortDown, Cond.selects RX2 yX2_sortDown yX2_sortDown, Cond.code yX2_sortDown cX2_sortDown 5 none, Cond.methodLink RX9 222 yX9_lowest, Cond.static yX9_lowest, Cond.code yX9_lowest cX9_lowest 7 (some .long), Cond.methodLink RX9 305 yX9_commonDivisor, Cond.static yX9_commonDivisor, Cond.code yX9_commonDivisor cX9_commonDivisor 7 (some .long)]
def wsX9_value : List Cond := .code yX9_value cX9_value 5 (some .long) :: ((wsX9_value_r1 ++ wsX9_value_r2) ++ wsX90 ++ wsX10 ++ wsX20)
def wsX9_chance_r1 : List Cond := [Cond.constantLong RX9 235 (4000000000000000000), Cond.fieldLink RX9 88 "CoastWatch" "game" "LCoastWatch$Game;", Cond.fieldLink RX9 39 "CoastWatch" "coves" "LCoastWatch$Coves;", Cond.fieldLink RX9 103 "CoastWatch$Coves" "worth" "[I", Cond.fieldLink RX9 245 "CoastWatch$Game" "below" "J", Cond.fieldLink RX9 241 "CoastWatch$Game" "above" "J", Cond.methodLink RX9 92 yX9_isCove, Cond.static yX9_isCove, Cond.initialized RX9, Cond.code yX9_isCove cX9_isCove 1 (some .boolean), Cond.methodLink RX9 232 yX9_gameRefusal, Cond.static yX9_gameRefusal, Cond.code yX9_gameRefusal cX9_gameRefusal 3 (some .int), Cond.methodLink RX9 212 yX9_isPart, Cond.static yX9_isPart, Cond.code yX9_isPart cX9_isPart 1 (some .boolean), Cond.methodLink RX9 96 yX9_refuse, Cond.instanceMethod yX9_refuse, Cond.selects RX9 yX9_refuse yX9_refuse, Cond.code yX9_refuse cX9_refuse 3 (some .int), Cond.fieldLink RX9 22 "CoastWatch" "refusals" "[I", Cond.methodLink RX9 237 yX2_solve, Cond.instanceMethod yX2_solve, Cond.selects RX2 yX2_solve yX2_solve]
def wsX9_chance_r2 : List Cond := [Cond.initialized RX2, Cond.code yX2_solve cX2_solve 13 none, Cond.fieldLink RX2 9 "CoastWatch$Game" "worths" "[I", Cond.fieldLink RX2 15 "CoastWatch$Game" "above" "J", Cond.fieldLink RX2 19 "CoastWatch$Game" "below" "J", Cond.methodLink RX2 22 yX2_sortDown, Cond.instanceMethod yX2_sortDown, Cond.selects RX2 yX2_sortDown yX2_sortDown, Cond.code yX2_sortDown cX2_sortDown 5 none, Cond.methodLink RX9 222 yX9_lowest, Cond.static yX9_lowest, Cond.code yX9_lowest cX9_lowest 7 (some .long), Cond.methodLink RX9 305 yX9_commonDivisor, Cond.static yX9_commonDivisor, Cond.code yX9_commonDivisor cX9_commonDivisor 7 (some .long)]
def wsX9_chance : List Cond := .code yX9_chance cX9_chance 10 (some .long) :: ((wsX9_chance_r1 ++ wsX9_chance_r2) ++ wsX90 ++ wsX10 ++ wsX20)
def wsX9_isSeason : List Cond := .code yX9_isSeason cX9_isSeason 1 (some .boolean) :: ([])
def wsX9_used : List Cond := .code yX9_used cX9_used 5 (some .int) :: ([.constant RX9 251 (100000), .fieldLink RX9 81 "CoastWatch" "seasons" "LCoastWatch$Seasons;", .fieldLink RX9 252 "CoastWatch$Seasons" "least" "[I", .fieldLink RX9 255 "CoastWatch$Seasons" "most" "[I", .fieldLink RX9 258 "CoastWatch$Seasons" "byLaw" "[I", .methodLink RX9 248 yX9_isSeason, .static yX9_isSeason, .initialized RX9, .code yX9_isSeason cX9_isSeason 1 (some .boolean), .methodLink RX9 96 yX9_refuse, .instanceMethod yX9_refuse, .selects RX9 yX9_refuse yX9_refuse, .code yX9_refuse cX9_refuse 3 (some .int), .fieldLink RX9 22 "CoastWatch" "refusals" "[I"] ++ wsX90 ++ wsX60)
def wsX9_landed_r1 : List Cond := [Cond.fieldLink RX9 81 "CoastWatch" "seasons" "LCoastWatch$Seasons;", Cond.fieldLink RX9 252 "CoastWatch$Seasons" "least" "[I", Cond.fieldLink RX9 60 "CoastWatch" "lots" "LCoastWatch$Lots;", Cond.fieldLink RX9 255 "CoastWatch$Seasons" "most" "[I", Cond.methodLink RX9 248 yX9_isSeason, Cond.static yX9_isSeason, Cond.initialized RX9, Cond.code yX9_isSeason cX9_isSeason 1 (some .boolean), Cond.methodLink RX9 96 yX9_refuse, Cond.instanceMethod yX9_refuse, Cond.selects RX9 yX9_refuse yX9_refuse, Cond.code yX9_refuse cX9_refuse 3 (some .int), Cond.fieldLink RX9 22 "CoastWatch" "refusals" "[I", Cond.methodLink RX9 261 yX5_seizedIn, Cond.instanceMethod yX5_seizedIn, Cond.selects RX5 yX5_seizedIn yX5_seizedIn, Cond.initialized RX5, Cond.code yX5_seizedIn cX5_seizedIn 4 (some .int), Cond.fieldLink RX5 9 "CoastWatch$Lots" "size" "I", Cond.fieldLink RX5 22 "CoastWatch$Lots" "night" "[I", Cond.fieldLink RX5 28 "CoastWatch$Lots" "place" "[I", Cond.fieldLink RX5 19 "CoastWatch$Lots" "casks" "[I", Cond.methodLink RX9 264 yX6_landedOf, Cond.instanceMethod yX6_landedOf]
def wsX9_landed_r2 : List Cond := [Cond.selects RX6 yX6_landedOf yX6_landedOf, Cond.initialized RX6, Cond.code yX6_landedOf cX6_landedOf 4 (some .int), Cond.fieldLink RX6 18 "CoastWatch$Seasons" "byLaw" "[I", Cond.methodLink RX6 21 Lib.Math.max.name, Cond.static Lib.Math.max.name, Cond.initialized "java/lang/Math", Cond.code Lib.Math.max.name Lib.Math.max.code 2 (some .int), Cond.methodLink RX9 267 yX5_heldIn, Cond.instanceMethod yX5_heldIn, Cond.selects RX5 yX5_heldIn yX5_heldIn, Cond.code yX5_heldIn cX5_heldIn 4 (some .int)]
def wsX9_landed : List Cond := .code yX9_landed cX9_landed 3 (some .int) :: ((wsX9_landed_r1 ++ wsX9_landed_r2) ++ wsX90 ++ wsX60 ++ wsX50)
def wsX9_lotOf : List Cond := .code yX9_lotOf cX9_lotOf 3 (some .int) :: ([.fieldLink RX9 60 "CoastWatch" "lots" "LCoastWatch$Lots;", .fieldLink RX9 185 "CoastWatch$Lots" "size" "I", .fieldLink RX9 270 "CoastWatch$Lots" "boat" "[I", .fieldLink RX9 199 "CoastWatch$Lots" "casks" "[I", .fieldLink RX9 273 "CoastWatch$Lots" "night" "[I", .fieldLink RX9 275 "CoastWatch$Lots" "cove" "[I", .fieldLink RX9 196 "CoastWatch$Lots" "place" "[I", .fieldLink RX9 278 "CoastWatch$Lots" "hide" "[I", .methodLink RX9 96 yX9_refuse, .instanceMethod yX9_refuse, .selects RX9 yX9_refuse yX9_refuse, .initialized RX9, .code yX9_refuse cX9_refuse 3 (some .int), .fieldLink RX9 22 "CoastWatch" "refusals" "[I"] ++ wsX90 ++ wsX50)
def wsX9_boatOf : List Cond := .code yX9_boatOf cX9_boatOf 3 (some .int) :: ([.fieldLink RX9 46 "CoastWatch" "boats" "LCoastWatch$Boats;", .fieldLink RX9 281 "CoastWatch$Boats" "fear" "[[I", .fieldLink RX9 158 "CoastWatch$Boats" "casks" "[I", .fieldLink RX9 284 "CoastWatch$Boats" "escapes" "[I", .fieldLink RX9 287 "CoastWatch$Boats" "returns" "[I", .methodLink RX9 152 yX9_isBoat, .instanceMethod yX9_isBoat, .selects RX9 yX9_isBoat yX9_isBoat, .initialized RX9, .code yX9_isBoat cX9_isBoat 2 (some .boolean), .fieldLink RX9 145 "CoastWatch$Boats" "size" "I", .methodLink RX9 96 yX9_refuse, .instanceMethod yX9_refuse, .selects RX9 yX9_refuse yX9_refuse, .code yX9_refuse cX9_refuse 3 (some .int), .fieldLink RX9 22 "CoastWatch" "refusals" "[I"] ++ wsX90 ++ wsX00)
def wsX9_hideOf : List Cond := .code yX9_hideOf cX9_hideOf 3 (some .int) :: ([.fieldLink RX9 53 "CoastWatch" "hides" "LCoastWatch$Hides;", .fieldLink RX9 203 "CoastWatch$Hides" "lying" "[I", .fieldLink RX9 206 "CoastWatch$Hides" "guess" "[I", .fieldLink RX9 290 "CoastWatch$Hides" "cove" "[I", .methodLink RX9 189 yX9_isHide, .instanceMethod yX9_isHide, .selects RX9 yX9_isHide yX9_isHide, .initialized RX9, .code yX9_isHide cX9_isHide 2 (some .boolean), .fieldLink RX9 161 "CoastWatch$Hides" "size" "I", .methodLink RX9 96 yX9_refuse, .instanceMethod yX9_refuse, .selects RX9 yX9_refuse yX9_refuse, .code yX9_refuse cX9_refuse 3 (some .int), .fieldLink RX9 22 "CoastWatch" "refusals" "[I"] ++ wsX90 ++ wsX30)
def wsX9_watched : List Cond := .code yX9_watched cX9_watched 2 (some .int) :: ([.fieldLink RX9 39 "CoastWatch" "coves" "LCoastWatch$Coves;", .fieldLink RX9 291 "CoastWatch$Coves" "watchers" "[I", .methodLink RX9 92 yX9_isCove, .static yX9_isCove, .initialized RX9, .code yX9_isCove cX9_isCove 1 (some .boolean), .methodLink RX9 96 yX9_refuse, .instanceMethod yX9_refuse, .selects RX9 yX9_refuse yX9_refuse, .code yX9_refuse cX9_refuse 3 (some .int), .fieldLink RX9 22 "CoastWatch" "refusals" "[I"] ++ wsX90 ++ wsX10)
def wsX9_coins : List Cond := .code yX9_coins cX9_coins 2 (some .int) :: ([.fieldLink RX9 26 "CoastWatch" "purses" "[I", .methodLink RX9 96 yX9_refuse, .instanceMethod yX9_refuse, .selects RX9 yX9_refuse yX9_refuse, .initialized RX9, .code yX9_refuse cX9_refuse 3 (some .int), .fieldLink RX9 22 "CoastWatch" "refusals" "[I"] ++ wsX90)
def wsX9_count_r1 : List Cond := [Cond.fieldLink RX9 7 "CoastWatch" "night" "I", Cond.fieldLink RX9 46 "CoastWatch" "boats" "LCoastWatch$Boats;", Cond.fieldLink RX9 145 "CoastWatch$Boats" "size" "I", Cond.fieldLink RX9 53 "CoastWatch" "hides" "LCoastWatch$Hides;", Cond.fieldLink RX9 161 "CoastWatch$Hides" "size" "I", Cond.fieldLink RX9 60 "CoastWatch" "lots" "LCoastWatch$Lots;", Cond.fieldLink RX9 185 "CoastWatch$Lots" "size" "I", Cond.fieldLink RX9 74 "CoastWatch" "words" "LCoastWatch$Words;", Cond.fieldLink RX9 180 "CoastWatch$Words" "size" "I", Cond.fieldLink RX9 67 "CoastWatch" "laws" "LCoastWatch$Laws;", Cond.fieldLink RX9 175 "CoastWatch$Laws" "size" "I", Cond.fieldLink RX9 13 "CoastWatch" "seed" "I", Cond.constant RX9 304 (65535), Cond.fieldLink RX9 22 "CoastWatch" "refusals" "[I", Cond.methodLink RX9 294 yX8_rightOnes, Cond.instanceMethod yX8_rightOnes, Cond.selects RX8 yX8_rightOnes yX8_rightOnes, Cond.initialized RX8, Cond.code yX8_rightOnes cX8_rightOnes 3 (some .int), Cond.fieldLink RX8 25 "CoastWatch$Words" "right" "[I", Cond.methodLink RX9 298 yX8_wrongOnes, Cond.instanceMethod yX8_wrongOnes, Cond.selects RX8 yX8_wrongOnes yX8_wrongOnes, Cond.code yX8_wrongOnes cX8_wrongOnes 3 (some .int)]
def wsX9_count_r2 : List Cond := [Cond.fieldLink RX8 28 "CoastWatch$Words" "wrong" "[I", Cond.methodLink RX9 301 yX9_light, Cond.instanceMethod yX9_light, Cond.selects RX9 yX9_light yX9_light, Cond.initialized RX9, Cond.code yX9_light cX9_light 2 (some .int)]
def wsX9_count : List Cond := .code yX9_count cX9_count 2 (some .int) :: ((wsX9_count_r1 ++ wsX9_count_r2) ++ wsX90 ++ wsX00 ++ wsX30 ++ wsX50 ++ wsX80 ++ wsX40)
def wsX10_init_r1 : List Cond := [Cond.methodLink RX10 1 objectInit, Cond.instanceMethod objectInit, Cond.code objectInit ⟨#[0xb1]⟩ 1 none, Cond.fieldLink RX10 7 "CoastWatchModel" "seed" "I", Cond.arrayClass .int, Cond.fieldLink RX10 13 "CoastWatchModel" "depth" "[I", Cond.fieldLink RX10 17 "CoastWatchModel" "worth" "[I", Cond.fieldLink RX10 20 "CoastWatchModel" "rowSize" "[I", Cond.fieldLink RX10 23 "CoastWatchModel" "row" "[I", Cond.fieldLink RX10 26 "CoastWatchModel" "led" "[I", Cond.fieldLink RX10 29 "CoastWatchModel" "draught" "[I", Cond.fieldLink RX10 32 "CoastWatchModel" "hold" "[I", Cond.fieldLink RX10 35 "CoastWatchModel" "strength" "[I", Cond.fieldLink RX10 38 "CoastWatchModel" "bold" "[I", Cond.fieldLink RX10 41 "CoastWatchModel" "aboard" "[I", Cond.fieldLink RX10 44 "CoastWatchModel" "away" "[I", Cond.fieldLink RX10 47 "CoastWatchModel" "home" "[I", Cond.fieldLink RX10 50 "CoastWatchModel" "fear" "[I", Cond.fieldLink RX10 53 "CoastWatchModel" "hideCove" "[I", Cond.fieldLink RX10 56 "CoastWatchModel" "hideRoom" "[I", Cond.fieldLink RX10 59 "CoastWatchModel" "hideCost" "[I", Cond.fieldLink RX10 62 "CoastWatchModel" "guess" "[I", Cond.fieldLink RX10 65 "CoastWatchModel" "lotBoat" "[I", Cond.fieldLink RX10 68 "CoastWatchModel" "lotCasks" "[I"]
def wsX10_init_r2 : List Cond := [Cond.fieldLink RX10 71 "CoastWatchModel" "lotNight" "[I", Cond.fieldLink RX10 74 "CoastWatchModel" "lotCove" "[I", Cond.fieldLink RX10 77 "CoastWatchModel" "lotLies" "[I", Cond.fieldLink RX10 80 "CoastWatchModel" "lotHide" "[I", Cond.fieldLink RX10 83 "CoastWatchModel" "standing" "[I", Cond.fieldLink RX10 86 "CoastWatchModel" "shares" "[I", Cond.arrayClass .boolean, Cond.fieldLink RX10 89 "CoastWatchModel" "bribed" "[Z", Cond.fieldLink RX10 93 "CoastWatchModel" "there" "[I", Cond.fieldLink RX10 96 "CoastWatchModel" "came" "[Z", Cond.fieldLink RX10 99 "CoastWatchModel" "lawCrew" "[I", Cond.fieldLink RX10 102 "CoastWatchModel" "lawInformer" "[I", Cond.fieldLink RX10 105 "CoastWatchModel" "lawNight" "[I", Cond.fieldLink RX10 108 "CoastWatchModel" "wordOf" "[I", Cond.fieldLink RX10 111 "CoastWatchModel" "wordNight" "[I", Cond.fieldLink RX10 114 "CoastWatchModel" "wordCove" "[I", Cond.fieldLink RX10 117 "CoastWatchModel" "right" "[I", Cond.fieldLink RX10 120 "CoastWatchModel" "wrong" "[I", Cond.fieldLink RX10 123 "CoastWatchModel" "usedLeast" "[I", Cond.fieldLink RX10 126 "CoastWatchModel" "usedMost" "[I", Cond.fieldLink RX10 129 "CoastWatchModel" "usedLaw" "[I", Cond.fieldLink RX10 132 "CoastWatchModel" "coins" "[I", Cond.fieldLink RX10 135 "CoastWatchModel" "refused" "[I", Cond.fieldLink RX10 138 "CoastWatchModel" "between" "[I"]
def wsX10_init_r3 : List Cond := [Cond.fieldLink RX10 141 "CoastWatchModel" "sorted" "[I"]
def wsX10_init : List Cond := .code yX10_init cX10_init 1 none :: ((wsX10_init_r1 ++ (wsX10_init_r2 ++ wsX10_init_r3)) ++ wsX100)
def wsX10_in : List Cond := .code yX10_in cX10_in 3 (some .boolean) :: ([])
def wsX10_refuse : List Cond := .code yX10_refuse cX10_refuse 2 (some .int) :: ([.fieldLink RX10 135 "CoastWatchModel" "refused" "[I"] ++ wsX100)
def wsX10_isCove : List Cond := .code yX10_isCove cX10_isCove 1 (some .boolean) :: ([.methodLink RX10 144 yX10_in, .static yX10_in, .initialized RX10, .code yX10_in cX10_in 3 (some .boolean)])
def wsX10_seed : List Cond := .code yX10_seed cX10_seed 3 (some .int) :: ([.fieldLink RX10 7 "CoastWatchModel" "seed" "I"] ++ wsX100)
def wsX10_cove : List Cond := .code yX10_cove cX10_cove 4 (some .int) :: ([.fieldLink RX10 13 "CoastWatchModel" "depth" "[I", .fieldLink RX10 17 "CoastWatchModel" "worth" "[I", .methodLink RX10 148 yX10_isCove, .static yX10_isCove, .initialized RX10, .code yX10_isCove cX10_isCove 1 (some .boolean), .methodLink RX10 144 yX10_in, .static yX10_in, .code yX10_in cX10_in 3 (some .boolean), .methodLink RX10 152 yX10_refuse, .instanceMethod yX10_refuse, .selects RX10 yX10_refuse yX10_refuse, .code yX10_refuse cX10_refuse 2 (some .int), .fieldLink RX10 135 "CoastWatchModel" "refused" "[I"] ++ wsX100)
def wsX10_row : List Cond := .code yX10_row cX10_row 4 (some .int) :: ([.fieldLink RX10 20 "CoastWatchModel" "rowSize" "[I", .fieldLink RX10 23 "CoastWatchModel" "row" "[I", .methodLink RX10 144 yX10_in, .static yX10_in, .initialized RX10, .code yX10_in cX10_in 3 (some .boolean), .methodLink RX10 152 yX10_refuse, .instanceMethod yX10_refuse, .selects RX10 yX10_refuse yX10_refuse, .code yX10_refuse cX10_refuse 2 (some .int), .fieldLink RX10 135 "CoastWatchModel" "refused" "[I"] ++ wsX100)
def wsX10_lose : List Cond := .code yX10_lose cX10_lose 3 (some .int) :: ([.fieldLink RX10 20 "CoastWatchModel" "rowSize" "[I", .methodLink RX10 144 yX10_in, .static yX10_in, .initialized RX10, .code yX10_in cX10_in 3 (some .boolean), .methodLink RX10 152 yX10_refuse, .instanceMethod yX10_refuse, .selects RX10 yX10_refuse yX10_refuse, .code yX10_refuse cX10_refuse 2 (some .int), .fieldLink RX10 135 "CoastWatchModel" "refused" "[I"] ++ wsX100)
def wsX10_put : List Cond := .code yX10_put cX10_put 5 (some .int) :: ([.fieldLink RX10 20 "CoastWatchModel" "rowSize" "[I", .fieldLink RX10 23 "CoastWatchModel" "row" "[I", .methodLink RX10 144 yX10_in, .static yX10_in, .initialized RX10, .code yX10_in cX10_in 3 (some .boolean), .methodLink RX10 152 yX10_refuse, .instanceMethod yX10_refuse, .selects RX10 yX10_refuse yX10_refuse, .code yX10_refuse cX10_refuse 2 (some .int), .fieldLink RX10 135 "CoastWatchModel" "refused" "[I"] ++ wsX100)
def wsX10_copy : List Cond := .code yX10_copy cX10_copy 7 (some .int) :: ([.fieldLink RX10 20 "CoastWatchModel" "rowSize" "[I", .fieldLink RX10 138 "CoastWatchModel" "between" "[I", .fieldLink RX10 23 "CoastWatchModel" "row" "[I", .methodLink RX10 144 yX10_in, .static yX10_in, .initialized RX10, .code yX10_in cX10_in 3 (some .boolean), .methodLink RX10 152 yX10_refuse, .instanceMethod yX10_refuse, .selects RX10 yX10_refuse yX10_refuse, .code yX10_refuse cX10_refuse 2 (some .int), .fieldLink RX10 135 "CoastWatchModel" "refused" "[I"] ++ wsX100)
def wsX10_lead : List Cond := .code yX10_lead cX10_lead 4 (some .int) :: ([.fieldLink RX10 135 "CoastWatchModel" "refused" "[I", .constant RX10 156 (2000000001), .fieldLink RX10 26 "CoastWatchModel" "led" "[I", .methodLink RX10 148 yX10_isCove, .static yX10_isCove, .initialized RX10, .code yX10_isCove cX10_isCove 1 (some .boolean), .methodLink RX10 144 yX10_in, .static yX10_in, .code yX10_in cX10_in 3 (some .boolean)] ++ wsX100)
def wsX10_tideAt : List Cond := .code yX10_tideAt cX10_tideAt 5 (some .int) :: ([.fieldLink RX10 26 "CoastWatchModel" "led" "[I", .fieldLink RX10 20 "CoastWatchModel" "rowSize" "[I", .fieldLink RX10 23 "CoastWatchModel" "row" "[I"] ++ wsX100)
def wsX10_tide : List Cond := .code yX10_tide cX10_tide 3 (some .int) :: ([.methodLink RX10 148 yX10_isCove, .static yX10_isCove, .initialized RX10, .code yX10_isCove cX10_isCove 1 (some .boolean), .methodLink RX10 144 yX10_in, .static yX10_in, .code yX10_in cX10_in 3 (some .boolean), .methodLink RX10 152 yX10_refuse, .instanceMethod yX10_refuse, .selects RX10 yX10_refuse yX10_refuse, .code yX10_refuse cX10_refuse 2 (some .int), .fieldLink RX10 135 "CoastWatchModel" "refused" "[I", .methodLink RX10 157 yX10_tideAt, .instanceMethod yX10_tideAt, .selects RX10 yX10_tideAt yX10_tideAt, .code yX10_tideAt cX10_tideAt 5 (some .int), .fieldLink RX10 26 "CoastWatchModel" "led" "[I", .fieldLink RX10 20 "CoastWatchModel" "rowSize" "[I", .fieldLink RX10 23 "CoastWatchModel" "row" "[I"] ++ wsX100)
def wsX10_lightAt : List Cond := .code yX10_lightAt cX10_lightAt 2 (some .int) :: ([])
def wsX10_boat : List Cond := .code yX10_boat cX10_boat 5 (some .int) :: ([.fieldLink RX10 161 "CoastWatchModel" "boats" "I", .fieldLink RX10 29 "CoastWatchModel" "draught" "[I", .fieldLink RX10 32 "CoastWatchModel" "hold" "[I", .fieldLink RX10 35 "CoastWatchModel" "strength" "[I", .fieldLink RX10 38 "CoastWatchModel" "bold" "[I", .methodLink RX10 152 yX10_refuse, .instanceMethod yX10_refuse, .selects RX10 yX10_refuse yX10_refuse, .initialized RX10, .code yX10_refuse cX10_refuse 2 (some .int), .fieldLink RX10 135 "CoastWatchModel" "refused" "[I"] ++ wsX100)
def wsX10_load : List Cond := .code yX10_load cX10_load 3 (some .int) :: ([.fieldLink RX10 161 "CoastWatchModel" "boats" "I", .fieldLink RX10 32 "CoastWatchModel" "hold" "[I", .fieldLink RX10 41 "CoastWatchModel" "aboard" "[I", .methodLink RX10 144 yX10_in, .static yX10_in, .initialized RX10, .code yX10_in cX10_in 3 (some .boolean), .methodLink RX10 152 yX10_refuse, .instanceMethod yX10_refuse, .selects RX10 yX10_refuse yX10_refuse, .code yX10_refuse cX10_refuse 2 (some .int), .fieldLink RX10 135 "CoastWatchModel" "refused" "[I"] ++ wsX100)
def wsX10_hide : List Cond := .code yX10_hide cX10_hide 4 (some .int) :: ([.fieldLink RX10 164 "CoastWatchModel" "hides" "I", .fieldLink RX10 53 "CoastWatchModel" "hideCove" "[I", .fieldLink RX10 56 "CoastWatchModel" "hideRoom" "[I", .fieldLink RX10 59 "CoastWatchModel" "hideCost" "[I", .methodLink RX10 148 yX10_isCove, .static yX10_isCove, .initialized RX10, .code yX10_isCove cX10_isCove 1 (some .boolean), .methodLink RX10 144 yX10_in, .static yX10_in, .code yX10_in cX10_in 3 (some .boolean), .methodLink RX10 152 yX10_refuse, .instanceMethod yX10_refuse, .selects RX10 yX10_refuse yX10_refuse, .code yX10_refuse cX10_refuse 2 (some .int), .fieldLink RX10 135 "CoastWatchModel" "refused" "[I"] ++ wsX100)
def wsX10_stand : List Cond := .code yX10_stand cX10_stand 4 (some .int) :: ([.fieldLink RX10 83 "CoastWatchModel" "standing" "[I", .methodLink RX10 148 yX10_isCove, .static yX10_isCove, .initialized RX10, .code yX10_isCove cX10_isCove 1 (some .boolean), .methodLink RX10 144 yX10_in, .static yX10_in, .code yX10_in cX10_in 3 (some .boolean), .methodLink RX10 152 yX10_refuse, .instanceMethod yX10_refuse, .selects RX10 yX10_refuse yX10_refuse, .code yX10_refuse cX10_refuse 2 (some .int), .fieldLink RX10 135 "CoastWatchModel" "refused" "[I"] ++ wsX100)
def wsX10_bribe : List Cond := .code yX10_bribe cX10_bribe 4 (some .int) :: ([.fieldLink RX10 89 "CoastWatchModel" "bribed" "[Z", .methodLink RX10 148 yX10_isCove, .static yX10_isCove, .initialized RX10, .code yX10_isCove cX10_isCove 1 (some .boolean), .methodLink RX10 144 yX10_in, .static yX10_in, .code yX10_in cX10_in 3 (some .boolean), .methodLink RX10 152 yX10_refuse, .instanceMethod yX10_refuse, .selects RX10 yX10_refuse yX10_refuse, .code yX10_refuse cX10_refuse 2 (some .int), .fieldLink RX10 135 "CoastWatchModel" "refused" "[I"] ++ wsX100)
def wsX10_share : List Cond := .code yX10_share cX10_share 4 (some .int) :: ([.fieldLink RX10 86 "CoastWatchModel" "shares" "[I", .methodLink RX10 148 yX10_isCove, .static yX10_isCove, .initialized RX10, .code yX10_isCove cX10_isCove 1 (some .boolean), .methodLink RX10 144 yX10_in, .static yX10_in, .code yX10_in cX10_in 3 (some .boolean), .methodLink RX10 152 yX10_refuse, .instanceMethod yX10_refuse, .selects RX10 yX10_refuse yX10_refuse, .code yX10_refuse cX10_refuse 2 (some .int), .fieldLink RX10 135 "CoastWatchModel" "refused" "[I"] ++ wsX100)
def wsX10_draws : List Cond := .code yX10_draws cX10_draws 3 (some .int) :: ([.fieldLink RX10 167 "CoastWatchModel" "drawMany" "I", .methodLink RX10 152 yX10_refuse, .instanceMethod yX10_refuse, .selects RX10 yX10_refuse yX10_refuse, .initialized RX10, .code yX10_refuse cX10_refuse 2 (some .int), .fieldLink RX10 135 "CoastWatchModel" "refused" "[I"] ++ wsX100)
def wsX10_price : List Cond := .code yX10_price cX10_price 3 (some .int) :: ([.fieldLink RX10 170 "CoastWatchModel" "price" "I", .methodLink RX10 152 yX10_refuse, .instanceMethod yX10_refuse, .selects RX10 yX10_refuse yX10_refuse, .initialized RX10, .code yX10_refuse cX10_refuse 2 (some .int), .fieldLink RX10 135 "CoastWatchModel" "refused" "[I"] ++ wsX100)
def wsX10_law : List Cond := .code yX10_law cX10_law 4 (some .int) :: ([.fieldLink RX10 173 "CoastWatchModel" "night" "I", .fieldLink RX10 176 "CoastWatchModel" "laws" "I", .fieldLink RX10 99 "CoastWatchModel" "lawCrew" "[I", .fieldLink RX10 102 "CoastWatchModel" "lawInformer" "[I", .fieldLink RX10 105 "CoastWatchModel" "lawNight" "[I", .methodLink RX10 152 yX10_refuse, .instanceMethod yX10_refuse, .selects RX10 yX10_refuse yX10_refuse, .initialized RX10, .code yX10_refuse cX10_refuse 2 (some .int), .fieldLink RX10 135 "CoastWatchModel" "refused" "[I"] ++ wsX100)
def wsX10_word : List Cond := .code yX10_word cX10_word 5 (some .int) :: ([.fieldLink RX10 173 "CoastWatchModel" "night" "I", .fieldLink RX10 179 "CoastWatchModel" "words" "I", .fieldLink RX10 108 "CoastWatchModel" "wordOf" "[I", .fieldLink RX10 111 "CoastWatchModel" "wordNight" "[I", .fieldLink RX10 114 "CoastWatchModel" "wordCove" "[I", .methodLink RX10 144 yX10_in, .static yX10_in, .initialized RX10, .code yX10_in cX10_in 3 (some .boolean), .methodLink RX10 148 yX10_isCove, .static yX10_isCove, .code yX10_isCove cX10_isCove 1 (some .boolean), .methodLink RX10 152 yX10_refuse, .instanceMethod yX10_refuse, .selects RX10 yX10_refuse yX10_refuse, .code yX10_refuse cX10_refuse 2 (some .int), .fieldLink RX10 135 "CoastWatchModel" "refused" "[I"] ++ wsX100)
def wsX10_drawBelow : List Cond := .code yX10_drawBelow cX10_drawBelow 2 (some .int) :: ([.fieldLink RX10 7 "CoastWatchModel" "seed" "I", .constant RX10 182 (1103515245)] ++ wsX100)
def wsX10_watch : List Cond := .code yX10_watch cX10_watch 6 none :: ([.fieldLink RX10 93 "CoastWatchModel" "there" "[I", .fieldLink RX10 83 "CoastWatchModel" "standing" "[I", .fieldLink RX10 86 "CoastWatchModel" "shares" "[I", .fieldLink RX10 167 "CoastWatchModel" "drawMany" "I", .methodLink RX10 183 yX10_drawBelow, .instanceMethod yX10_drawBelow, .selects RX10 yX10_drawBelow yX10_drawBelow, .initialized RX10, .code yX10_drawBelow cX10_drawBelow 2 (some .int), .fieldLink RX10 7 "CoastWatchModel" "seed" "I", .constant RX10 182 (1103515245)] ++ wsX100)
def wsX10_counting : List Cond := .code yX10_counting cX10_counting 2 (some .int) :: ([.fieldLink RX10 89 "CoastWatchModel" "bribed" "[Z", .fieldLink RX10 93 "CoastWatchModel" "there" "[I"] ++ wsX100)
def wsX10_choice : List Cond := .code yX10_choice cX10_choice 5 (some .int) :: ([.fieldLink RX10 173 "CoastWatchModel" "night" "I", .fieldLink RX10 38 "CoastWatchModel" "bold" "[I", .fieldLink RX10 13 "CoastWatchModel" "depth" "[I", .fieldLink RX10 29 "CoastWatchModel" "draught" "[I", .fieldLink RX10 50 "CoastWatchModel" "fear" "[I", .fieldLink RX10 17 "CoastWatchModel" "worth" "[I", .methodLink RX10 186 yX10_lightAt, .static yX10_lightAt, .initialized RX10, .code yX10_lightAt cX10_lightAt 2 (some .int), .methodLink RX10 157 yX10_tideAt, .instanceMethod yX10_tideAt, .selects RX10 yX10_tideAt yX10_tideAt, .code yX10_tideAt cX10_tideAt 5 (some .int), .fieldLink RX10 26 "CoastWatchModel" "led" "[I", .fieldLink RX10 20 "CoastWatchModel" "rowSize" "[I", .fieldLink RX10 23 "CoastWatchModel" "row" "[I"] ++ wsX100)
def wsX10_partCasks : List Cond := .code yX10_partCasks cX10_partCasks 7 none :: ([.fieldLink RX10 176 "CoastWatchModel" "laws" "I", .fieldLink RX10 105 "CoastWatchModel" "lawNight" "[I", .fieldLink RX10 173 "CoastWatchModel" "night" "I", .fieldLink RX10 170 "CoastWatchModel" "price" "I", .fieldLink RX10 99 "CoastWatchModel" "lawCrew" "[I", .fieldLink RX10 102 "CoastWatchModel" "lawInformer" "[I", .fieldLink RX10 132 "CoastWatchModel" "coins" "[I"] ++ wsX100)
def wsX10_teller : List Cond := .code yX10_teller cX10_teller 3 (some .int) :: ([.fieldLink RX10 179 "CoastWatchModel" "words" "I", .fieldLink RX10 111 "CoastWatchModel" "wordNight" "[I", .fieldLink RX10 173 "CoastWatchModel" "night" "I", .fieldLink RX10 114 "CoastWatchModel" "wordCove" "[I", .fieldLink RX10 108 "CoastWatchModel" "wordOf" "[I"] ++ wsX100)
def wsX10_liesIn : List Cond := .code yX10_liesIn cX10_liesIn 4 (some .int) :: ([.fieldLink RX10 189 "CoastWatchModel" "lots" "I", .fieldLink RX10 77 "CoastWatchModel" "lotLies" "[I", .fieldLink RX10 80 "CoastWatchModel" "lotHide" "[I", .fieldLink RX10 68 "CoastWatchModel" "lotCasks" "[I"] ++ wsX100)
def wsX10_hideFor : List Cond := .code yX10_hideFor cX10_hideFor 4 (some .int) :: ([.fieldLink RX10 164 "CoastWatchModel" "hides" "I", .fieldLink RX10 53 "CoastWatchModel" "hideCove" "[I", .fieldLink RX10 56 "CoastWatchModel" "hideRoom" "[I", .methodLink RX10 192 yX10_liesIn, .instanceMethod yX10_liesIn, .selects RX10 yX10_liesIn yX10_liesIn, .initialized RX10, .code yX10_liesIn cX10_liesIn 4 (some .int), .fieldLink RX10 189 "CoastWatchModel" "lots" "I", .fieldLink RX10 77 "CoastWatchModel" "lotLies" "[I", .fieldLink RX10 80 "CoastWatchModel" "lotHide" "[I", .fieldLink RX10 68 "CoastWatchModel" "lotCasks" "[I"] ++ wsX100)
def wsX10_lot : List Cond := .code yX10_lot cX10_lot 5 none :: ([.fieldLink RX10 65 "CoastWatchModel" "lotBoat" "[I", .fieldLink RX10 189 "CoastWatchModel" "lots" "I", .fieldLink RX10 68 "CoastWatchModel" "lotCasks" "[I", .fieldLink RX10 41 "CoastWatchModel" "aboard" "[I", .fieldLink RX10 71 "CoastWatchModel" "lotNight" "[I", .fieldLink RX10 173 "CoastWatchModel" "night" "I", .fieldLink RX10 74 "CoastWatchModel" "lotCove" "[I", .fieldLink RX10 77 "CoastWatchModel" "lotLies" "[I", .fieldLink RX10 80 "CoastWatchModel" "lotHide" "[I", .fieldLink RX10 96 "CoastWatchModel" "came" "[Z"] ++ wsX100)
def wsX10_moreFear : List Cond := .code yX10_moreFear cX10_moreFear 5 none :: ([.fieldLink RX10 50 "CoastWatchModel" "fear" "[I"] ++ wsX100)
def wsX10_goes_r1 : List Cond := [Cond.fieldLink RX10 35 "CoastWatchModel" "strength" "[I", Cond.fieldLink RX10 41 "CoastWatchModel" "aboard" "[I", Cond.fieldLink RX10 44 "CoastWatchModel" "away" "[I", Cond.fieldLink RX10 47 "CoastWatchModel" "home" "[I", Cond.fieldLink RX10 93 "CoastWatchModel" "there" "[I", Cond.methodLink RX10 195 yX10_counting, Cond.instanceMethod yX10_counting, Cond.selects RX10 yX10_counting yX10_counting, Cond.initialized RX10, Cond.code yX10_counting cX10_counting 2 (some .int), Cond.fieldLink RX10 89 "CoastWatchModel" "bribed" "[Z", Cond.methodLink RX10 198 yX10_teller, Cond.instanceMethod yX10_teller, Cond.selects RX10 yX10_teller yX10_teller, Cond.code yX10_teller cX10_teller 3 (some .int), Cond.fieldLink RX10 179 "CoastWatchModel" "words" "I", Cond.fieldLink RX10 111 "CoastWatchModel" "wordNight" "[I", Cond.fieldLink RX10 173 "CoastWatchModel" "night" "I", Cond.fieldLink RX10 114 "CoastWatchModel" "wordCove" "[I", Cond.fieldLink RX10 108 "CoastWatchModel" "wordOf" "[I", Cond.methodLink RX10 201 yX10_partCasks, Cond.instanceMethod yX10_partCasks, Cond.selects RX10 yX10_partCasks yX10_partCasks, Cond.code yX10_partCasks cX10_partCasks 7 none]
def wsX10_goes_r2 : List Cond := [Cond.fieldLink RX10 176 "CoastWatchModel" "laws" "I", Cond.fieldLink RX10 105 "CoastWatchModel" "lawNight" "[I", Cond.fieldLink RX10 170 "CoastWatchModel" "price" "I", Cond.fieldLink RX10 99 "CoastWatchModel" "lawCrew" "[I", Cond.fieldLink RX10 102 "CoastWatchModel" "lawInformer" "[I", Cond.fieldLink RX10 132 "CoastWatchModel" "coins" "[I", Cond.methodLink RX10 205 yX10_lot, Cond.instanceMethod yX10_lot, Cond.selects RX10 yX10_lot yX10_lot, Cond.code yX10_lot cX10_lot 5 none, Cond.fieldLink RX10 65 "CoastWatchModel" "lotBoat" "[I", Cond.fieldLink RX10 189 "CoastWatchModel" "lots" "I", Cond.fieldLink RX10 68 "CoastWatchModel" "lotCasks" "[I", Cond.fieldLink RX10 71 "CoastWatchModel" "lotNight" "[I", Cond.fieldLink RX10 74 "CoastWatchModel" "lotCove" "[I", Cond.fieldLink RX10 77 "CoastWatchModel" "lotLies" "[I", Cond.fieldLink RX10 80 "CoastWatchModel" "lotHide" "[I", Cond.fieldLink RX10 96 "CoastWatchModel" "came" "[Z", Cond.methodLink RX10 209 yX10_moreFear, Cond.instanceMethod yX10_moreFear, Cond.selects RX10 yX10_moreFear yX10_moreFear, Cond.code yX10_moreFear cX10_moreFear 5 none, Cond.fieldLink RX10 50 "CoastWatchModel" "fear" "[I", Cond.methodLink RX10 213 yX10_hideFor]
def wsX10_goes_r3 : List Cond := [Cond.instanceMethod yX10_hideFor, Cond.selects RX10 yX10_hideFor yX10_hideFor, Cond.code yX10_hideFor cX10_hideFor 4 (some .int), Cond.fieldLink RX10 164 "CoastWatchModel" "hides" "I", Cond.fieldLink RX10 53 "CoastWatchModel" "hideCove" "[I", Cond.fieldLink RX10 56 "CoastWatchModel" "hideRoom" "[I", Cond.methodLink RX10 192 yX10_liesIn, Cond.instanceMethod yX10_liesIn, Cond.selects RX10 yX10_liesIn yX10_liesIn, Cond.code yX10_liesIn cX10_liesIn 4 (some .int)]
def wsX10_goes : List Cond := .code yX10_goes cX10_goes 5 none :: ((wsX10_goes_r1 ++ (wsX10_goes_r2 ++ wsX10_goes_r3)) ++ wsX100)
def wsX10_prove : List Cond := .code yX10_prove cX10_prove 5 none :: ([.fieldLink RX10 179 "CoastWatchModel" "words" "I", .fieldLink RX10 111 "CoastWatchModel" "wordNight" "[I", .fieldLink RX10 173 "CoastWatchModel" "night" "I", .fieldLink RX10 114 "CoastWatchModel" "wordCove" "[I", .fieldLink RX10 117 "CoastWatchModel" "right" "[I", .fieldLink RX10 108 "CoastWatchModel" "wordOf" "[I", .fieldLink RX10 96 "CoastWatchModel" "came" "[Z", .fieldLink RX10 120 "CoastWatchModel" "wrong" "[I", .fieldLink RX10 164 "CoastWatchModel" "hides" "I", .fieldLink RX10 53 "CoastWatchModel" "hideCove" "[I", .fieldLink RX10 62 "CoastWatchModel" "guess" "[I"] ++ wsX100)
def wsX10_pass_r1 : List Cond := [Cond.fieldLink RX10 173 "CoastWatchModel" "night" "I", Cond.fieldLink RX10 96 "CoastWatchModel" "came" "[Z", Cond.fieldLink RX10 161 "CoastWatchModel" "boats" "I", Cond.fieldLink RX10 41 "CoastWatchModel" "aboard" "[I", Cond.fieldLink RX10 189 "CoastWatchModel" "lots" "I", Cond.fieldLink RX10 50 "CoastWatchModel" "fear" "[I", Cond.methodLink RX10 216 yX10_watch, Cond.instanceMethod yX10_watch, Cond.selects RX10 yX10_watch yX10_watch, Cond.initialized RX10, Cond.code yX10_watch cX10_watch 6 none, Cond.fieldLink RX10 93 "CoastWatchModel" "there" "[I", Cond.fieldLink RX10 83 "CoastWatchModel" "standing" "[I", Cond.fieldLink RX10 86 "CoastWatchModel" "shares" "[I", Cond.fieldLink RX10 167 "CoastWatchModel" "drawMany" "I", Cond.methodLink RX10 183 yX10_drawBelow, Cond.instanceMethod yX10_drawBelow, Cond.selects RX10 yX10_drawBelow yX10_drawBelow, Cond.code yX10_drawBelow cX10_drawBelow 2 (some .int), Cond.fieldLink RX10 7 "CoastWatchModel" "seed" "I", Cond.constant RX10 182 (1103515245), Cond.methodLink RX10 219 yX10_choice, Cond.instanceMethod yX10_choice, Cond.selects RX10 yX10_choice yX10_choice]
def wsX10_pass_r2 : List Cond := [Cond.code yX10_choice cX10_choice 5 (some .int), Cond.fieldLink RX10 38 "CoastWatchModel" "bold" "[I", Cond.fieldLink RX10 13 "CoastWatchModel" "depth" "[I", Cond.fieldLink RX10 29 "CoastWatchModel" "draught" "[I", Cond.fieldLink RX10 17 "CoastWatchModel" "worth" "[I", Cond.methodLink RX10 186 yX10_lightAt, Cond.static yX10_lightAt, Cond.code yX10_lightAt cX10_lightAt 2 (some .int), Cond.methodLink RX10 157 yX10_tideAt, Cond.instanceMethod yX10_tideAt, Cond.selects RX10 yX10_tideAt yX10_tideAt, Cond.code yX10_tideAt cX10_tideAt 5 (some .int), Cond.fieldLink RX10 26 "CoastWatchModel" "led" "[I", Cond.fieldLink RX10 20 "CoastWatchModel" "rowSize" "[I", Cond.fieldLink RX10 23 "CoastWatchModel" "row" "[I", Cond.methodLink RX10 222 yX10_goes, Cond.instanceMethod yX10_goes, Cond.selects RX10 yX10_goes yX10_goes, Cond.code yX10_goes cX10_goes 5 none, Cond.fieldLink RX10 35 "CoastWatchModel" "strength" "[I", Cond.fieldLink RX10 44 "CoastWatchModel" "away" "[I", Cond.fieldLink RX10 47 "CoastWatchModel" "home" "[I", Cond.methodLink RX10 195 yX10_counting, Cond.instanceMethod yX10_counting]
def wsX10_pass_r3 : List Cond := [Cond.selects RX10 yX10_counting yX10_counting, Cond.code yX10_counting cX10_counting 2 (some .int), Cond.fieldLink RX10 89 "CoastWatchModel" "bribed" "[Z", Cond.methodLink RX10 198 yX10_teller, Cond.instanceMethod yX10_teller, Cond.selects RX10 yX10_teller yX10_teller, Cond.code yX10_teller cX10_teller 3 (some .int), Cond.fieldLink RX10 179 "CoastWatchModel" "words" "I", Cond.fieldLink RX10 111 "CoastWatchModel" "wordNight" "[I", Cond.fieldLink RX10 114 "CoastWatchModel" "wordCove" "[I", Cond.fieldLink RX10 108 "CoastWatchModel" "wordOf" "[I", Cond.methodLink RX10 201 yX10_partCasks, Cond.instanceMethod yX10_partCasks, Cond.selects RX10 yX10_partCasks yX10_partCasks, Cond.code yX10_partCasks cX10_partCasks 7 none, Cond.fieldLink RX10 176 "CoastWatchModel" "laws" "I", Cond.fieldLink RX10 105 "CoastWatchModel" "lawNight" "[I", Cond.fieldLink RX10 170 "CoastWatchModel" "price" "I", Cond.fieldLink RX10 99 "CoastWatchModel" "lawCrew" "[I", Cond.fieldLink RX10 102 "CoastWatchModel" "lawInformer" "[I", Cond.fieldLink RX10 132 "CoastWatchModel" "coins" "[I", Cond.methodLink RX10 205 yX10_lot, Cond.instanceMethod yX10_lot, Cond.selects RX10 yX10_lot yX10_lot]
def wsX10_pass_r4 : List Cond := [Cond.code yX10_lot cX10_lot 5 none, Cond.fieldLink RX10 65 "CoastWatchModel" "lotBoat" "[I", Cond.fieldLink RX10 68 "CoastWatchModel" "lotCasks" "[I", Cond.fieldLink RX10 71 "CoastWatchModel" "lotNight" "[I", Cond.fieldLink RX10 74 "CoastWatchModel" "lotCove" "[I", Cond.fieldLink RX10 77 "CoastWatchModel" "lotLies" "[I", Cond.fieldLink RX10 80 "CoastWatchModel" "lotHide" "[I", Cond.methodLink RX10 209 yX10_moreFear, Cond.instanceMethod yX10_moreFear, Cond.selects RX10 yX10_moreFear yX10_moreFear, Cond.code yX10_moreFear cX10_moreFear 5 none, Cond.methodLink RX10 213 yX10_hideFor, Cond.instanceMethod yX10_hideFor, Cond.selects RX10 yX10_hideFor yX10_hideFor, Cond.code yX10_hideFor cX10_hideFor 4 (some .int), Cond.fieldLink RX10 164 "CoastWatchModel" "hides" "I", Cond.fieldLink RX10 53 "CoastWatchModel" "hideCove" "[I", Cond.fieldLink RX10 56 "CoastWatchModel" "hideRoom" "[I", Cond.methodLink RX10 192 yX10_liesIn, Cond.instanceMethod yX10_liesIn, Cond.selects RX10 yX10_liesIn yX10_liesIn, Cond.code yX10_liesIn cX10_liesIn 4 (some .int), Cond.methodLink RX10 225 yX10_prove, Cond.instanceMethod yX10_prove]
def wsX10_pass_r5 : List Cond := [Cond.selects RX10 yX10_prove yX10_prove, Cond.code yX10_prove cX10_prove 5 none, Cond.fieldLink RX10 117 "CoastWatchModel" "right" "[I", Cond.fieldLink RX10 120 "CoastWatchModel" "wrong" "[I", Cond.fieldLink RX10 62 "CoastWatchModel" "guess" "[I"]
def wsX10_pass : List Cond := .code yX10_pass cX10_pass 3 none :: ((wsX10_pass_r1 ++ (wsX10_pass_r2 ++ (wsX10_pass_r3 ++ (wsX10_pass_r4 ++ wsX10_pass_r5)))) ++ wsX100)
def wsX10_nights_r1 : List Cond := [Cond.fieldLink RX10 173 "CoastWatchModel" "night" "I", Cond.fieldLink RX10 189 "CoastWatchModel" "lots" "I", Cond.methodLink RX10 152 yX10_refuse, Cond.instanceMethod yX10_refuse, Cond.selects RX10 yX10_refuse yX10_refuse, Cond.initialized RX10, Cond.code yX10_refuse cX10_refuse 2 (some .int), Cond.fieldLink RX10 135 "CoastWatchModel" "refused" "[I", Cond.methodLink RX10 228 yX10_pass, Cond.instanceMethod yX10_pass, Cond.selects RX10 yX10_pass yX10_pass, Cond.code yX10_pass cX10_pass 3 none, Cond.fieldLink RX10 96 "CoastWatchModel" "came" "[Z", Cond.fieldLink RX10 161 "CoastWatchModel" "boats" "I", Cond.fieldLink RX10 41 "CoastWatchModel" "aboard" "[I", Cond.fieldLink RX10 50 "CoastWatchModel" "fear" "[I", Cond.methodLink RX10 216 yX10_watch, Cond.instanceMethod yX10_watch, Cond.selects RX10 yX10_watch yX10_watch, Cond.code yX10_watch cX10_watch 6 none, Cond.fieldLink RX10 93 "CoastWatchModel" "there" "[I", Cond.fieldLink RX10 83 "CoastWatchModel" "standing" "[I", Cond.fieldLink RX10 86 "CoastWatchModel" "shares" "[I", Cond.fieldLink RX10 167 "CoastWatchModel" "drawMany" "I"]
def wsX10_nights_r2 : List Cond := [Cond.methodLink RX10 183 yX10_drawBelow, Cond.instanceMethod yX10_drawBelow, Cond.selects RX10 yX10_drawBelow yX10_drawBelow, Cond.code yX10_drawBelow cX10_drawBelow 2 (some .int), Cond.fieldLink RX10 7 "CoastWatchModel" "seed" "I", Cond.constant RX10 182 (1103515245), Cond.methodLink RX10 219 yX10_choice, Cond.instanceMethod yX10_choice, Cond.selects RX10 yX10_choice yX10_choice, Cond.code yX10_choice cX10_choice 5 (some .int), Cond.fieldLink RX10 38 "CoastWatchModel" "bold" "[I", Cond.fieldLink RX10 13 "CoastWatchModel" "depth" "[I", Cond.fieldLink RX10 29 "CoastWatchModel" "draught" "[I", Cond.fieldLink RX10 17 "CoastWatchModel" "worth" "[I", Cond.methodLink RX10 186 yX10_lightAt, Cond.static yX10_lightAt, Cond.code yX10_lightAt cX10_lightAt 2 (some .int), Cond.methodLink RX10 157 yX10_tideAt, Cond.instanceMethod yX10_tideAt, Cond.selects RX10 yX10_tideAt yX10_tideAt, Cond.code yX10_tideAt cX10_tideAt 5 (some .int), Cond.fieldLink RX10 26 "CoastWatchModel" "led" "[I", Cond.fieldLink RX10 20 "CoastWatchModel" "rowSize" "[I", Cond.fieldLink RX10 23 "CoastWatchModel" "row" "[I"]
def wsX10_nights_r3 : List Cond := [Cond.methodLink RX10 222 yX10_goes, Cond.instanceMethod yX10_goes, Cond.selects RX10 yX10_goes yX10_goes, Cond.code yX10_goes cX10_goes 5 none, Cond.fieldLink RX10 35 "CoastWatchModel" "strength" "[I", Cond.fieldLink RX10 44 "CoastWatchModel" "away" "[I", Cond.fieldLink RX10 47 "CoastWatchModel" "home" "[I", Cond.methodLink RX10 195 yX10_counting, Cond.instanceMethod yX10_counting, Cond.selects RX10 yX10_counting yX10_counting, Cond.code yX10_counting cX10_counting 2 (some .int), Cond.fieldLink RX10 89 "CoastWatchModel" "bribed" "[Z", Cond.methodLink RX10 198 yX10_teller, Cond.instanceMethod yX10_teller, Cond.selects RX10 yX10_teller yX10_teller, Cond.code yX10_teller cX10_teller 3 (some .int), Cond.fieldLink RX10 179 "CoastWatchModel" "words" "I", Cond.fieldLink RX10 111 "CoastWatchModel" "wordNight" "[I", Cond.fieldLink RX10 114 "CoastWatchModel" "wordCove" "[I", Cond.fieldLink RX10 108 "CoastWatchModel" "wordOf" "[I", Cond.methodLink RX10 201 yX10_partCasks, Cond.instanceMethod yX10_partCasks, Cond.selects RX10 yX10_partCasks yX10_partCasks, Cond.code yX10_partCasks cX10_partCasks 7 none]
def wsX10_nights_r4 : List Cond := [Cond.fieldLink RX10 176 "CoastWatchModel" "laws" "I", Cond.fieldLink RX10 105 "CoastWatchModel" "lawNight" "[I", Cond.fieldLink RX10 170 "CoastWatchModel" "price" "I", Cond.fieldLink RX10 99 "CoastWatchModel" "lawCrew" "[I", Cond.fieldLink RX10 102 "CoastWatchModel" "lawInformer" "[I", Cond.fieldLink RX10 132 "CoastWatchModel" "coins" "[I", Cond.methodLink RX10 205 yX10_lot, Cond.instanceMethod yX10_lot, Cond.selects RX10 yX10_lot yX10_lot, Cond.code yX10_lot cX10_lot 5 none, Cond.fieldLink RX10 65 "CoastWatchModel" "lotBoat" "[I", Cond.fieldLink RX10 68 "CoastWatchModel" "lotCasks" "[I", Cond.fieldLink RX10 71 "CoastWatchModel" "lotNight" "[I", Cond.fieldLink RX10 74 "CoastWatchModel" "lotCove" "[I", Cond.fieldLink RX10 77 "CoastWatchModel" "lotLies" "[I", Cond.fieldLink RX10 80 "CoastWatchModel" "lotHide" "[I", Cond.methodLink RX10 209 yX10_moreFear, Cond.instanceMethod yX10_moreFear, Cond.selects RX10 yX10_moreFear yX10_moreFear, Cond.code yX10_moreFear cX10_moreFear 5 none, Cond.methodLink RX10 213 yX10_hideFor, Cond.instanceMethod yX10_hideFor, Cond.selects RX10 yX10_hideFor yX10_hideFor, Cond.code yX10_hideFor cX10_hideFor 4 (some .int)]
def wsX10_nights_r5 : List Cond := [Cond.fieldLink RX10 164 "CoastWatchModel" "hides" "I", Cond.fieldLink RX10 53 "CoastWatchModel" "hideCove" "[I", Cond.fieldLink RX10 56 "CoastWatchModel" "hideRoom" "[I", Cond.methodLink RX10 192 yX10_liesIn, Cond.instanceMethod yX10_liesIn, Cond.selects RX10 yX10_liesIn yX10_liesIn, Cond.code yX10_liesIn cX10_liesIn 4 (some .int), Cond.methodLink RX10 225 yX10_prove, Cond.instanceMethod yX10_prove, Cond.selects RX10 yX10_prove yX10_prove, Cond.code yX10_prove cX10_prove 5 none, Cond.fieldLink RX10 117 "CoastWatchModel" "right" "[I", Cond.fieldLink RX10 120 "CoastWatchModel" "wrong" "[I", Cond.fieldLink RX10 62 "CoastWatchModel" "guess" "[I"]
def wsX10_nights : List Cond := .code yX10_nights cX10_nights 4 (some .int) :: ((wsX10_nights_r1 ++ (wsX10_nights_r2 ++ (wsX10_nights_r3 ++ (wsX10_nights_r4 ++ wsX10_nights_r5)))) ++ wsX100)
def wsX10_search_r1 : List Cond := [Cond.fieldLink RX10 164 "CoastWatchModel" "hides" "I", Cond.fieldLink RX10 189 "CoastWatchModel" "lots" "I", Cond.fieldLink RX10 77 "CoastWatchModel" "lotLies" "[I", Cond.fieldLink RX10 80 "CoastWatchModel" "lotHide" "[I", Cond.fieldLink RX10 68 "CoastWatchModel" "lotCasks" "[I", Cond.fieldLink RX10 62 "CoastWatchModel" "guess" "[I", Cond.methodLink RX10 144 yX10_in, Cond.static yX10_in, Cond.initialized RX10, Cond.code yX10_in cX10_in 3 (some .boolean), Cond.methodLink RX10 152 yX10_refuse, Cond.instanceMethod yX10_refuse, Cond.selects RX10 yX10_refuse yX10_refuse, Cond.code yX10_refuse cX10_refuse 2 (some .int), Cond.fieldLink RX10 135 "CoastWatchModel" "refused" "[I", Cond.methodLink RX10 201 yX10_partCasks, Cond.instanceMethod yX10_partCasks, Cond.selects RX10 yX10_partCasks yX10_partCasks, Cond.code yX10_partCasks cX10_partCasks 7 none, Cond.fieldLink RX10 176 "CoastWatchModel" "laws" "I", Cond.fieldLink RX10 105 "CoastWatchModel" "lawNight" "[I", Cond.fieldLink RX10 173 "CoastWatchModel" "night" "I", Cond.fieldLink RX10 170 "CoastWatchModel" "price" "I", Cond.fieldLink RX10 99 "CoastWatchModel" "lawCrew" "[I"]
def wsX10_search_r2 : List Cond := [Cond.fieldLink RX10 102 "CoastWatchModel" "lawInformer" "[I", Cond.fieldLink RX10 132 "CoastWatchModel" "coins" "[I"]
def wsX10_search : List Cond := .code yX10_search cX10_search 4 (some .int) :: ((wsX10_search_r1 ++ wsX10_search_r2) ++ wsX100)
def wsX10_ones : List Cond := .code yX10_ones cX10_ones 3 (some .int) :: ([])
def wsX10_best : List Cond := .code yX10_best cX10_best 8 (some .int) :: ([.fieldLink RX10 164 "CoastWatchModel" "hides" "I", .fieldLink RX10 59 "CoastWatchModel" "hideCost" "[I", .fieldLink RX10 62 "CoastWatchModel" "guess" "[I", .methodLink RX10 152 yX10_refuse, .instanceMethod yX10_refuse, .selects RX10 yX10_refuse yX10_refuse, .initialized RX10, .code yX10_refuse cX10_refuse 2 (some .int), .fieldLink RX10 135 "CoastWatchModel" "refused" "[I", .methodLink RX10 231 yX10_ones, .static yX10_ones, .code yX10_ones cX10_ones 3 (some .int)] ++ wsX100)
def wsX10_divisor : List Cond := .code yX10_divisor cX10_divisor 10 (some .long) :: ([])
def wsX10_side : List Cond := .code yX10_side cX10_side 7 (some .long) :: ([.methodLink RX10 234 yX10_divisor, .static yX10_divisor, .initialized RX10, .code yX10_divisor cX10_divisor 10 (some .long)])
def wsX10_belief : List Cond := .code yX10_belief cX10_belief 11 (some .long) :: ([.fieldLink RX10 179 "CoastWatchModel" "words" "I", .fieldLink RX10 108 "CoastWatchModel" "wordOf" "[I", .fieldLink RX10 111 "CoastWatchModel" "wordNight" "[I", .fieldLink RX10 114 "CoastWatchModel" "wordCove" "[I", .fieldLink RX10 120 "CoastWatchModel" "wrong" "[I", .fieldLink RX10 117 "CoastWatchModel" "right" "[I", .methodLink RX10 148 yX10_isCove, .static yX10_isCove, .initialized RX10, .code yX10_isCove cX10_isCove 1 (some .boolean), .methodLink RX10 144 yX10_in, .static yX10_in, .code yX10_in cX10_in 3 (some .boolean), .methodLink RX10 152 yX10_refuse, .instanceMethod yX10_refuse, .selects RX10 yX10_refuse yX10_refuse, .code yX10_refuse cX10_refuse 2 (some .int), .fieldLink RX10 135 "CoastWatchModel" "refused" "[I", .methodLink RX10 238 yX10_side, .static yX10_side, .code yX10_side cX10_side 7 (some .long), .methodLink RX10 234 yX10_divisor, .static yX10_divisor, .code yX10_divisor cX10_divisor 10 (some .long)] ++ wsX100)
def wsX10_weight : List Cond := .code yX10_weight cX10_weight 3 (some .int) :: ([.fieldLink RX10 117 "CoastWatchModel" "right" "[I", .fieldLink RX10 120 "CoastWatchModel" "wrong" "[I", .methodLink RX10 144 yX10_in, .static yX10_in, .initialized RX10, .code yX10_in cX10_in 3 (some .boolean), .methodLink RX10 152 yX10_refuse, .instanceMethod yX10_refuse, .selects RX10 yX10_refuse yX10_refuse, .code yX10_refuse cX10_refuse 2 (some .int), .fieldLink RX10 135 "CoastWatchModel" "refused" "[I", .methodLink RX10 238 yX10_side, .static yX10_side, .code yX10_side cX10_side 7 (some .long), .methodLink RX10 234 yX10_divisor, .static yX10_divisor, .code yX10_divisor cX10_divisor 10 (some .long)] ++ wsX100)
def wsX10_play : List Cond := .code yX10_play cX10_play 13 none :: ([.fieldLink RX10 141 "CoastWatchModel" "sorted" "[I", .fieldLink RX10 17 "CoastWatchModel" "worth" "[I", .fieldLink RX10 242 "CoastWatchModel" "gameAbove" "J", .fieldLink RX10 246 "CoastWatchModel" "gameBelow" "J"] ++ wsX100)
def wsX10_refuseBig : List Cond := .code yX10_refuseBig cX10_refuseBig 2 (some .long) :: ([.fieldLink RX10 135 "CoastWatchModel" "refused" "[I", .constantLong RX10 249 (4000000000000000000)] ++ wsX100)
def wsX10_value : List Cond := .code yX10_value cX10_value 4 (some .long) :: ([.fieldLink RX10 242 "CoastWatchModel" "gameAbove" "J", .fieldLink RX10 246 "CoastWatchModel" "gameBelow" "J", .methodLink RX10 251 yX10_refuseBig, .instanceMethod yX10_refuseBig, .selects RX10 yX10_refuseBig yX10_refuseBig, .initialized RX10, .code yX10_refuseBig cX10_refuseBig 2 (some .long), .fieldLink RX10 135 "CoastWatchModel" "refused" "[I", .constantLong RX10 249 (4000000000000000000), .methodLink RX10 144 yX10_in, .static yX10_in, .code yX10_in cX10_in 3 (some .boolean), .methodLink RX10 255 yX10_play, .instanceMethod yX10_play, .selects RX10 yX10_play yX10_play, .code yX10_play cX10_play 13 none, .fieldLink RX10 141 "CoastWatchModel" "sorted" "[I", .fieldLink RX10 17 "CoastWatchModel" "worth" "[I", .methodLink RX10 238 yX10_side, .static yX10_side, .code yX10_side cX10_side 7 (some .long), .methodLink RX10 234 yX10_divisor, .static yX10_divisor, .code yX10_divisor cX10_divisor 10 (some .long)] ++ wsX100)
def wsX10_chance_r1 : List Cond := [Cond.fieldLink RX10 17 "CoastWatchModel" "worth" "[I", Cond.fieldLink RX10 246 "CoastWatchModel" "gameBelow" "J", Cond.fieldLink RX10 242 "CoastWatchModel" "gameAbove" "J", Cond.methodLink RX10 148 yX10_isCove, Cond.static yX10_isCove, Cond.initialized RX10, Cond.code yX10_isCove cX10_isCove 1 (some .boolean), Cond.methodLink RX10 144 yX10_in, Cond.static yX10_in, Cond.code yX10_in cX10_in 3 (some .boolean), Cond.methodLink RX10 251 yX10_refuseBig, Cond.instanceMethod yX10_refuseBig, Cond.selects RX10 yX10_refuseBig yX10_refuseBig, Cond.code yX10_refuseBig cX10_refuseBig 2 (some .long), Cond.fieldLink RX10 135 "CoastWatchModel" "refused" "[I", Cond.constantLong RX10 249 (4000000000000000000), Cond.methodLink RX10 255 yX10_play, Cond.instanceMethod yX10_play, Cond.selects RX10 yX10_play yX10_play, Cond.code yX10_play cX10_play 13 none, Cond.fieldLink RX10 141 "CoastWatchModel" "sorted" "[I", Cond.methodLink RX10 238 yX10_side, Cond.static yX10_side, Cond.code yX10_side cX10_side 7 (some .long)]
def wsX10_chance_r2 : List Cond := [Cond.methodLink RX10 234 yX10_divisor, Cond.static yX10_divisor, Cond.code yX10_divisor cX10_divisor 10 (some .long)]
def wsX10_chance : List Cond := .code yX10_chance cX10_chance 7 (some .long) :: ((wsX10_chance_r1 ++ wsX10_chance_r2) ++ wsX100)
def wsX10_used : List Cond := .code yX10_used cX10_used 5 (some .int) :: ([.constant RX10 258 (100000), .fieldLink RX10 123 "CoastWatchModel" "usedLeast" "[I", .fieldLink RX10 126 "CoastWatchModel" "usedMost" "[I", .fieldLink RX10 129 "CoastWatchModel" "usedLaw" "[I", .methodLink RX10 144 yX10_in, .static yX10_in, .initialized RX10, .code yX10_in cX10_in 3 (some .boolean), .methodLink RX10 152 yX10_refuse, .instanceMethod yX10_refuse, .selects RX10 yX10_refuse yX10_refuse, .code yX10_refuse cX10_refuse 2 (some .int), .fieldLink RX10 135 "CoastWatchModel" "refused" "[I"] ++ wsX100)
def wsX10_casksOf : List Cond := .code yX10_casksOf cX10_casksOf 5 (some .int) :: ([.fieldLink RX10 189 "CoastWatchModel" "lots" "I", .fieldLink RX10 71 "CoastWatchModel" "lotNight" "[I", .fieldLink RX10 77 "CoastWatchModel" "lotLies" "[I", .fieldLink RX10 68 "CoastWatchModel" "lotCasks" "[I"] ++ wsX100)
def wsX10_landed : List Cond := .code yX10_landed cX10_landed 4 (some .int) :: ([.fieldLink RX10 123 "CoastWatchModel" "usedLeast" "[I", .fieldLink RX10 126 "CoastWatchModel" "usedMost" "[I", .fieldLink RX10 129 "CoastWatchModel" "usedLaw" "[I", .methodLink RX10 144 yX10_in, .static yX10_in, .initialized RX10, .code yX10_in cX10_in 3 (some .boolean), .methodLink RX10 152 yX10_refuse, .instanceMethod yX10_refuse, .selects RX10 yX10_refuse yX10_refuse, .code yX10_refuse cX10_refuse 2 (some .int), .fieldLink RX10 135 "CoastWatchModel" "refused" "[I", .methodLink RX10 259 yX10_casksOf, .instanceMethod yX10_casksOf, .selects RX10 yX10_casksOf yX10_casksOf, .code yX10_casksOf cX10_casksOf 5 (some .int), .fieldLink RX10 189 "CoastWatchModel" "lots" "I", .fieldLink RX10 71 "CoastWatchModel" "lotNight" "[I", .fieldLink RX10 77 "CoastWatchModel" "lotLies" "[I", .fieldLink RX10 68 "CoastWatchModel" "lotCasks" "[I"] ++ wsX100)
def wsX10_lotOf : List Cond := .code yX10_lotOf cX10_lotOf 3 (some .int) :: ([.fieldLink RX10 189 "CoastWatchModel" "lots" "I", .fieldLink RX10 65 "CoastWatchModel" "lotBoat" "[I", .fieldLink RX10 68 "CoastWatchModel" "lotCasks" "[I", .fieldLink RX10 71 "CoastWatchModel" "lotNight" "[I", .fieldLink RX10 74 "CoastWatchModel" "lotCove" "[I", .fieldLink RX10 77 "CoastWatchModel" "lotLies" "[I", .fieldLink RX10 80 "CoastWatchModel" "lotHide" "[I", .methodLink RX10 144 yX10_in, .static yX10_in, .initialized RX10, .code yX10_in cX10_in 3 (some .boolean), .methodLink RX10 152 yX10_refuse, .instanceMethod yX10_refuse, .selects RX10 yX10_refuse yX10_refuse, .code yX10_refuse cX10_refuse 2 (some .int), .fieldLink RX10 135 "CoastWatchModel" "refused" "[I"] ++ wsX100)
def wsX10_boatOf : List Cond := .code yX10_boatOf cX10_boatOf 3 (some .int) :: ([.fieldLink RX10 161 "CoastWatchModel" "boats" "I", .fieldLink RX10 41 "CoastWatchModel" "aboard" "[I", .fieldLink RX10 44 "CoastWatchModel" "away" "[I", .fieldLink RX10 47 "CoastWatchModel" "home" "[I", .fieldLink RX10 50 "CoastWatchModel" "fear" "[I", .methodLink RX10 144 yX10_in, .static yX10_in, .initialized RX10, .code yX10_in cX10_in 3 (some .boolean), .methodLink RX10 152 yX10_refuse, .instanceMethod yX10_refuse, .selects RX10 yX10_refuse yX10_refuse, .code yX10_refuse cX10_refuse 2 (some .int), .fieldLink RX10 135 "CoastWatchModel" "refused" "[I"] ++ wsX100)
def wsX10_hideOf : List Cond := .code yX10_hideOf cX10_hideOf 3 (some .int) :: ([.fieldLink RX10 164 "CoastWatchModel" "hides" "I", .fieldLink RX10 62 "CoastWatchModel" "guess" "[I", .fieldLink RX10 53 "CoastWatchModel" "hideCove" "[I", .methodLink RX10 144 yX10_in, .static yX10_in, .initialized RX10, .code yX10_in cX10_in 3 (some .boolean), .methodLink RX10 152 yX10_refuse, .instanceMethod yX10_refuse, .selects RX10 yX10_refuse yX10_refuse, .code yX10_refuse cX10_refuse 2 (some .int), .fieldLink RX10 135 "CoastWatchModel" "refused" "[I", .methodLink RX10 192 yX10_liesIn, .instanceMethod yX10_liesIn, .selects RX10 yX10_liesIn yX10_liesIn, .code yX10_liesIn cX10_liesIn 4 (some .int), .fieldLink RX10 189 "CoastWatchModel" "lots" "I", .fieldLink RX10 77 "CoastWatchModel" "lotLies" "[I", .fieldLink RX10 80 "CoastWatchModel" "lotHide" "[I", .fieldLink RX10 68 "CoastWatchModel" "lotCasks" "[I"] ++ wsX100)
def wsX10_watched : List Cond := .code yX10_watched cX10_watched 2 (some .int) :: ([.fieldLink RX10 93 "CoastWatchModel" "there" "[I", .methodLink RX10 148 yX10_isCove, .static yX10_isCove, .initialized RX10, .code yX10_isCove cX10_isCove 1 (some .boolean), .methodLink RX10 144 yX10_in, .static yX10_in, .code yX10_in cX10_in 3 (some .boolean), .methodLink RX10 152 yX10_refuse, .instanceMethod yX10_refuse, .selects RX10 yX10_refuse yX10_refuse, .code yX10_refuse cX10_refuse 2 (some .int), .fieldLink RX10 135 "CoastWatchModel" "refused" "[I"] ++ wsX100)
def wsX10_coins : List Cond := .code yX10_coins cX10_coins 2 (some .int) :: ([.fieldLink RX10 132 "CoastWatchModel" "coins" "[I", .methodLink RX10 144 yX10_in, .static yX10_in, .initialized RX10, .code yX10_in cX10_in 3 (some .boolean), .methodLink RX10 152 yX10_refuse, .instanceMethod yX10_refuse, .selects RX10 yX10_refuse yX10_refuse, .code yX10_refuse cX10_refuse 2 (some .int), .fieldLink RX10 135 "CoastWatchModel" "refused" "[I"] ++ wsX100)
def wsX10_count : List Cond := .code yX10_count cX10_count 4 (some .int) :: ([.fieldLink RX10 173 "CoastWatchModel" "night" "I", .fieldLink RX10 161 "CoastWatchModel" "boats" "I", .fieldLink RX10 164 "CoastWatchModel" "hides" "I", .fieldLink RX10 189 "CoastWatchModel" "lots" "I", .fieldLink RX10 179 "CoastWatchModel" "words" "I", .fieldLink RX10 117 "CoastWatchModel" "right" "[I", .fieldLink RX10 120 "CoastWatchModel" "wrong" "[I", .fieldLink RX10 176 "CoastWatchModel" "laws" "I", .fieldLink RX10 7 "CoastWatchModel" "seed" "I", .constant RX10 263 (65535), .fieldLink RX10 135 "CoastWatchModel" "refused" "[I", .methodLink RX10 186 yX10_lightAt, .static yX10_lightAt, .initialized RX10, .code yX10_lightAt cX10_lightAt 2 (some .int), .methodLink RX10 144 yX10_in, .static yX10_in, .code yX10_in cX10_in 3 (some .boolean)] ++ wsX100)
def wsJ9_max_7cf53 : List Cond := .code yJ9_max_7cf53 cJ9_max_7cf53 2 (some .int) :: ([])
def wsJ9_max_f86c9 : List Cond := .code yJ9_max_f86c9 cJ9_max_f86c9 4 (some .long) :: ([])
def wsJ9_min_7cf53 : List Cond := .code yJ9_min_7cf53 cJ9_min_7cf53 2 (some .int) :: ([])
end
section
theorem dX0_init_0 : decode cX0_init 0 = .ok (.aload_n 0, 1) := by decide +kernel
theorem dX0_init_1 : decode cX0_init 1 = .ok (.invokespecial 3, 3) := by decide +kernel
theorem dX0_init_4 : decode cX0_init 4 = .ok (.aload_n 0, 1) := by decide +kernel
theorem dX0_init_5 : decode cX0_init 5 = .ok (.iconst 0, 1) := by decide +kernel
theorem dX0_init_6 : decode cX0_init 6 = .ok (.putfield 9, 3) := by decide +kernel
theorem dX0_init_9 : decode cX0_init 9 = .ok (.aload_n 0, 1) := by decide +kernel
theorem dX0_init_10 : decode cX0_init 10 = .ok (.bipush 8, 2) := by decide +kernel
theorem dX0_init_12 : decode cX0_init 12 = .ok (.newarray .int, 2) := by decide +kernel
theorem dX0_init_14 : decode cX0_init 14 = .ok (.putfield 15, 3) := by decide +kernel
theorem dX0_init_17 : decode cX0_init 17 = .ok (.aload_n 0, 1) := by decide +kernel
theorem dX0_init_18 : decode cX0_init 18 = .ok (.bipush 8, 2) := by decide +kernel
theorem dX0_init_20 : decode cX0_init 20 = .ok (.newarray .int, 2) := by decide +kernel
theorem dX0_init_22 : decode cX0_init 22 = .ok (.putfield 19, 3) := by decide +kernel
theorem dX0_init_25 : decode cX0_init 25 = .ok (.aload_n 0, 1) := by decide +kernel
theorem dX0_init_26 : decode cX0_init 26 = .ok (.bipush 8, 2) := by decide +kernel
theorem dX0_init_28 : decode cX0_init 28 = .ok (.newarray .int, 2) := by decide +kernel
theorem dX0_init_30 : decode cX0_init 30 = .ok (.putfield 22, 3) := by decide +kernel
theorem dX0_init_33 : decode cX0_init 33 = .ok (.aload_n 0, 1) := by decide +kernel
theorem dX0_init_34 : decode cX0_init 34 = .ok (.bipush 8, 2) := by decide +kernel
theorem dX0_init_36 : decode cX0_init 36 = .ok (.newarray .int, 2) := by decide +kernel
theorem dX0_init_38 : decode cX0_init 38 = .ok (.putfield 25, 3) := by decide +kernel
theorem dX0_init_41 : decode cX0_init 41 = .ok (.aload_n 0, 1) := by decide +kernel
theorem dX0_init_42 : decode cX0_init 42 = .ok (.bipush 8, 2) := by decide +kernel
theorem dX0_init_44 : decode cX0_init 44 = .ok (.newarray .int, 2) := by decide +kernel
theorem dX0_init_46 : decode cX0_init 46 = .ok (.putfield 28, 3) := by decide +kernel
theorem dX0_init_49 : decode cX0_init 49 = .ok (.aload_n 0, 1) := by decide +kernel
theorem dX0_init_50 : decode cX0_init 50 = .ok (.bipush 8, 2) := by decide +kernel
theorem dX0_init_52 : decode cX0_init 52 = .ok (.newarray .int, 2) := by decide +kernel
theorem dX0_init_54 : decode cX0_init 54 = .ok (.putfield 31, 3) := by decide +kernel
theorem dX0_init_57 : decode cX0_init 57 = .ok (.aload_n 0, 1) := by decide +kernel
theorem dX0_init_58 : decode cX0_init 58 = .ok (.bipush 8, 2) := by decide +kernel
theorem dX0_init_60 : decode cX0_init 60 = .ok (.newarray .int, 2) := by decide +kernel
theorem dX0_init_62 : decode cX0_init 62 = .ok (.putfield 34, 3) := by decide +kernel
theorem dX0_init_65 : decode cX0_init 65 = .ok (.aload_n 0, 1) := by decide +kernel
theorem dX0_init_66 : decode cX0_init 66 = .ok (.bipush 8, 2) := by decide +kernel
theorem dX0_init_68 : decode cX0_init 68 = .ok (.bipush 6, 2) := by decide +kernel
theorem dX0_init_70 : decode cX0_init 70 = .ok (.multianewarray 37 2, 4) := by decide +kernel
theorem dX0_init_74 : decode cX0_init 74 = .ok (.putfield 39, 3) := by decide +kernel
theorem dX0_init_77 : decode cX0_init 77 = .ok (.return_, 1) := by decide +kernel
theorem dX0_add_0 : decode cX0_add 0 = .ok (.aload_n 0, 1) := by decide +kernel
theorem dX0_add_1 : decode cX0_add 1 = .ok (.getfield 9, 3) := by decide +kernel
theorem dX0_add_4 : decode cX0_add 4 = .ok (.istore 5, 2) := by decide +kernel
theorem dX0_add_6 : decode cX0_add 6 = .ok (.iload 5, 2) := by decide +kernel
theorem dX0_add_8 : decode cX0_add 8 = .ok (.bipush 8, 2) := by decide +kernel
theorem dX0_add_10 : decode cX0_add 10 = .ok (.if_icmp .lt 5, 3) := by decide +kernel
theorem dX0_add_13 : decode cX0_add 13 = .ok (.iconst (-1), 1) := by decide +kernel
theorem dX0_add_14 : decode cX0_add 14 = .ok (.ireturn, 1) := by decide +kernel
theorem dX0_add_15 : decode cX0_add 15 = .ok (.aload_n 0, 1) := by decide +kernel
theorem dX0_add_16 : decode cX0_add 16 = .ok (.getfield 15, 3) := by decide +kernel
theorem dX0_add_19 : decode cX0_add 19 = .ok (.iload 5, 2) := by decide +kernel
theorem dX0_add_21 : decode cX0_add 21 = .ok (.iload_n 1, 1) := by decide +kernel
theorem dX0_add_22 : decode cX0_add 22 = .ok (.iastore, 1) := by decide +kernel
theorem dX0_add_23 : decode cX0_add 23 = .ok (.aload_n 0, 1) := by decide +kernel
theorem dX0_add_24 : decode cX0_add 24 = .ok (.getfield 19, 3) := by decide +kernel
theorem dX0_add_27 : decode cX0_add 27 = .ok (.iload 5, 2) := by decide +kernel
theorem dX0_add_29 : decode cX0_add 29 = .ok (.iload_n 2, 1) := by decide +kernel
theorem dX0_add_30 : decode cX0_add 30 = .ok (.iastore, 1) := by decide +kernel
theorem dX0_add_31 : decode cX0_add 31 = .ok (.aload_n 0, 1) := by decide +kernel
theorem dX0_add_32 : decode cX0_add 32 = .ok (.getfield 22, 3) := by decide +kernel
theorem dX0_add_35 : decode cX0_add 35 = .ok (.iload 5, 2) := by decide +kernel
theorem dX0_add_37 : decode cX0_add 37 = .ok (.iload_n 3, 1) := by decide +kernel
theorem dX0_add_38 : decode cX0_add 38 = .ok (.iastore, 1) := by decide +kernel
theorem dX0_add_39 : decode cX0_add 39 = .ok (.aload_n 0, 1) := by decide +kernel
theorem dX0_add_40 : decode cX0_add 40 = .ok (.getfield 25, 3) := by decide +kernel
theorem dX0_add_43 : decode cX0_add 43 = .ok (.iload 5, 2) := by decide +kernel
theorem dX0_add_45 : decode cX0_add 45 = .ok (.iload 4, 2) := by decide +kernel
theorem dX0_add_47 : decode cX0_add 47 = .ok (.iastore, 1) := by decide +kernel
theorem dX0_add_48 : decode cX0_add 48 = .ok (.aload_n 0, 1) := by decide +kernel
theorem dX0_add_49 : decode cX0_add 49 = .ok (.iload 5, 2) := by decide +kernel
theorem dX0_add_51 : decode cX0_add 51 = .ok (.iconst 1, 1) := by decide +kernel
theorem dX0_add_52 : decode cX0_add 52 = .ok (.iadd, 1) := by decide +kernel
theorem dX0_add_53 : decode cX0_add 53 = .ok (.putfield 9, 3) := by decide +kernel
theorem dX0_add_56 : decode cX0_add 56 = .ok (.iload 5, 2) := by decide +kernel
theorem dX0_add_58 : decode cX0_add 58 = .ok (.ireturn, 1) := by decide +kernel
theorem dX0_frighten_0 : decode cX0_frighten 0 = .ok (.aload_n 0, 1) := by decide +kernel
theorem dX0_frighten_1 : decode cX0_frighten 1 = .ok (.getfield 39, 3) := by decide +kernel
theorem dX0_frighten_4 : decode cX0_frighten 4 = .ok (.iload_n 1, 1) := by decide +kernel
theorem dX0_frighten_5 : decode cX0_frighten 5 = .ok (.aaload, 1) := by decide +kernel
theorem dX0_frighten_6 : decode cX0_frighten 6 = .ok (.iload_n 2, 1) := by decide +kernel
theorem dX0_frighten_7 : decode cX0_frighten 7 = .ok (.bipush 99, 2) := by decide +kernel
theorem dX0_frighten_9 : decode cX0_frighten 9 = .ok (.aload_n 0, 1) := by decide +kernel
theorem dX0_frighten_10 : decode cX0_frighten 10 = .ok (.getfield 39, 3) := by decide +kernel
theorem dX0_frighten_13 : decode cX0_frighten 13 = .ok (.iload_n 1, 1) := by decide +kernel
theorem dX0_frighten_14 : decode cX0_frighten 14 = .ok (.aaload, 1) := by decide +kernel
theorem dX0_frighten_15 : decode cX0_frighten 15 = .ok (.iload_n 2, 1) := by decide +kernel
theorem dX0_frighten_16 : decode cX0_frighten 16 = .ok (.iaload, 1) := by decide +kernel
theorem dX0_frighten_17 : decode cX0_frighten 17 = .ok (.iload_n 3, 1) := by decide +kernel
theorem dX0_frighten_18 : decode cX0_frighten 18 = .ok (.iadd, 1) := by decide +kernel
theorem dX0_frighten_19 : decode cX0_frighten 19 = .ok (.invokestatic 42, 3) := by decide +kernel
theorem dX0_frighten_22 : decode cX0_frighten 22 = .ok (.iastore, 1) := by decide +kernel
theorem dX0_frighten_23 : decode cX0_frighten 23 = .ok (.return_, 1) := by decide +kernel
theorem dX0_calm_0 : decode cX0_calm 0 = .ok (.iconst 0, 1) := by decide +kernel
theorem dX0_calm_1 : decode cX0_calm 1 = .ok (.istore_n 1, 1) := by decide +kernel
theorem dX0_calm_2 : decode cX0_calm 2 = .ok (.iload_n 1, 1) := by decide +kernel
theorem dX0_calm_3 : decode cX0_calm 3 = .ok (.aload_n 0, 1) := by decide +kernel
theorem dX0_calm_4 : decode cX0_calm 4 = .ok (.getfield 9, 3) := by decide +kernel
theorem dX0_calm_7 : decode cX0_calm 7 = .ok (.if_icmp .ge 46, 3) := by decide +kernel
theorem dX0_calm_10 : decode cX0_calm 10 = .ok (.iconst 0, 1) := by decide +kernel
theorem dX0_calm_11 : decode cX0_calm 11 = .ok (.istore_n 2, 1) := by decide +kernel
theorem dX0_calm_12 : decode cX0_calm 12 = .ok (.iload_n 2, 1) := by decide +kernel
theorem dX0_calm_13 : decode cX0_calm 13 = .ok (.bipush 6, 2) := by decide +kernel
theorem dX0_calm_15 : decode cX0_calm 15 = .ok (.if_icmp .ge 32, 3) := by decide +kernel
theorem dX0_calm_18 : decode cX0_calm 18 = .ok (.aload_n 0, 1) := by decide +kernel
theorem dX0_calm_19 : decode cX0_calm 19 = .ok (.getfield 39, 3) := by decide +kernel
theorem dX0_calm_22 : decode cX0_calm 22 = .ok (.iload_n 1, 1) := by decide +kernel
theorem dX0_calm_23 : decode cX0_calm 23 = .ok (.aaload, 1) := by decide +kernel
theorem dX0_calm_24 : decode cX0_calm 24 = .ok (.iload_n 2, 1) := by decide +kernel
theorem dX0_calm_25 : decode cX0_calm 25 = .ok (.iaload, 1) := by decide +kernel
theorem dX0_calm_26 : decode cX0_calm 26 = .ok (.ifCond .le 15, 3) := by decide +kernel
theorem dX0_calm_29 : decode cX0_calm 29 = .ok (.aload_n 0, 1) := by decide +kernel
theorem dX0_calm_30 : decode cX0_calm 30 = .ok (.getfield 39, 3) := by decide +kernel
theorem dX0_calm_33 : decode cX0_calm 33 = .ok (.iload_n 1, 1) := by decide +kernel
theorem dX0_calm_34 : decode cX0_calm 34 = .ok (.aaload, 1) := by decide +kernel
theorem dX0_calm_35 : decode cX0_calm 35 = .ok (.iload_n 2, 1) := by decide +kernel
theorem dX0_calm_36 : decode cX0_calm 36 = .ok (.dup2, 1) := by decide +kernel
theorem dX0_calm_37 : decode cX0_calm 37 = .ok (.iaload, 1) := by decide +kernel
theorem dX0_calm_38 : decode cX0_calm 38 = .ok (.iconst 1, 1) := by decide +kernel
theorem dX0_calm_39 : decode cX0_calm 39 = .ok (.isub, 1) := by decide +kernel
theorem dX0_calm_40 : decode cX0_calm 40 = .ok (.iastore, 1) := by decide +kernel
theorem dX0_calm_41 : decode cX0_calm 41 = .ok (.iinc 2 1, 3) := by decide +kernel
theorem dX0_calm_44 : decode cX0_calm 44 = .ok (.goto (-32), 3) := by decide +kernel
theorem dX0_calm_47 : decode cX0_calm 47 = .ok (.iinc 1 1, 3) := by decide +kernel
theorem dX0_calm_50 : decode cX0_calm 50 = .ok (.goto (-48), 3) := by decide +kernel
theorem dX0_calm_53 : decode cX0_calm 53 = .ok (.return_, 1) := by decide +kernel
theorem dX1_init_0 : decode cX1_init 0 = .ok (.aload_n 0, 1) := by decide +kernel
theorem dX1_init_1 : decode cX1_init 1 = .ok (.invokespecial 3, 3) := by decide +kernel
theorem dX1_init_4 : decode cX1_init 4 = .ok (.aload_n 0, 1) := by decide +kernel
theorem dX1_init_5 : decode cX1_init 5 = .ok (.bipush 6, 2) := by decide +kernel
theorem dX1_init_7 : decode cX1_init 7 = .ok (.newarray .int, 2) := by decide +kernel
theorem dX1_init_9 : decode cX1_init 9 = .ok (.putfield 9, 3) := by decide +kernel
theorem dX1_init_12 : decode cX1_init 12 = .ok (.aload_n 0, 1) := by decide +kernel
theorem dX1_init_13 : decode cX1_init 13 = .ok (.bipush 6, 2) := by decide +kernel
theorem dX1_init_15 : decode cX1_init 15 = .ok (.newarray .int, 2) := by decide +kernel
theorem dX1_init_17 : decode cX1_init 17 = .ok (.putfield 15, 3) := by decide +kernel
theorem dX1_init_20 : decode cX1_init 20 = .ok (.aload_n 0, 1) := by decide +kernel
theorem dX1_init_21 : decode cX1_init 21 = .ok (.bipush 6, 2) := by decide +kernel
theorem dX1_init_23 : decode cX1_init 23 = .ok (.newarray .int, 2) := by decide +kernel
theorem dX1_init_25 : decode cX1_init 25 = .ok (.putfield 18, 3) := by decide +kernel
theorem dX1_init_28 : decode cX1_init 28 = .ok (.aload_n 0, 1) := by decide +kernel
theorem dX1_init_29 : decode cX1_init 29 = .ok (.bipush 6, 2) := by decide +kernel
theorem dX1_init_31 : decode cX1_init 31 = .ok (.newarray .int, 2) := by decide +kernel
theorem dX1_init_33 : decode cX1_init 33 = .ok (.putfield 21, 3) := by decide +kernel
theorem dX1_init_36 : decode cX1_init 36 = .ok (.aload_n 0, 1) := by decide +kernel
theorem dX1_init_37 : decode cX1_init 37 = .ok (.bipush 6, 2) := by decide +kernel
theorem dX1_init_39 : decode cX1_init 39 = .ok (.newarray .int, 2) := by decide +kernel
theorem dX1_init_41 : decode cX1_init 41 = .ok (.putfield 24, 3) := by decide +kernel
theorem dX1_init_44 : decode cX1_init 44 = .ok (.aload_n 0, 1) := by decide +kernel
theorem dX1_init_45 : decode cX1_init 45 = .ok (.bipush 6, 2) := by decide +kernel
theorem dX1_init_47 : decode cX1_init 47 = .ok (.newarray .boolean, 2) := by decide +kernel
theorem dX1_init_49 : decode cX1_init 49 = .ok (.putfield 27, 3) := by decide +kernel
theorem dX1_init_52 : decode cX1_init 52 = .ok (.aload_n 0, 1) := by decide +kernel
theorem dX1_init_53 : decode cX1_init 53 = .ok (.bipush 6, 2) := by decide +kernel
theorem dX1_init_55 : decode cX1_init 55 = .ok (.newarray .int, 2) := by decide +kernel
theorem dX1_init_57 : decode cX1_init 57 = .ok (.putfield 31, 3) := by decide +kernel
theorem dX1_init_60 : decode cX1_init 60 = .ok (.iconst 0, 1) := by decide +kernel
theorem dX1_init_61 : decode cX1_init 61 = .ok (.istore_n 1, 1) := by decide +kernel
theorem dX1_init_62 : decode cX1_init 62 = .ok (.iload_n 1, 1) := by decide +kernel
theorem dX1_init_63 : decode cX1_init 63 = .ok (.bipush 6, 2) := by decide +kernel
theorem dX1_init_65 : decode cX1_init 65 = .ok (.if_icmp .ge 31, 3) := by decide +kernel
theorem dX1_init_68 : decode cX1_init 68 = .ok (.aload_n 0, 1) := by decide +kernel
theorem dX1_init_69 : decode cX1_init 69 = .ok (.getfield 9, 3) := by decide +kernel
theorem dX1_init_72 : decode cX1_init 72 = .ok (.iload_n 1, 1) := by decide +kernel
theorem dX1_init_73 : decode cX1_init 73 = .ok (.iconst 3, 1) := by decide +kernel
theorem dX1_init_74 : decode cX1_init 74 = .ok (.iastore, 1) := by decide +kernel
theorem dX1_init_75 : decode cX1_init 75 = .ok (.aload_n 0, 1) := by decide +kernel
theorem dX1_init_76 : decode cX1_init 76 = .ok (.getfield 15, 3) := by decide +kernel
theorem dX1_init_79 : decode cX1_init 79 = .ok (.iload_n 1, 1) := by decide +kernel
theorem dX1_init_80 : decode cX1_init 80 = .ok (.bipush 10, 2) := by decide +kernel
theorem dX1_init_82 : decode cX1_init 82 = .ok (.iastore, 1) := by decide +kernel
theorem dX1_init_83 : decode cX1_init 83 = .ok (.aload_n 0, 1) := by decide +kernel
theorem dX1_init_84 : decode cX1_init 84 = .ok (.getfield 18, 3) := by decide +kernel
theorem dX1_init_87 : decode cX1_init 87 = .ok (.iload_n 1, 1) := by decide +kernel
theorem dX1_init_88 : decode cX1_init 88 = .ok (.iconst (-1), 1) := by decide +kernel
theorem dX1_init_89 : decode cX1_init 89 = .ok (.iastore, 1) := by decide +kernel
theorem dX1_init_90 : decode cX1_init 90 = .ok (.iinc 1 1, 3) := by decide +kernel
theorem dX1_init_93 : decode cX1_init 93 = .ok (.goto (-31), 3) := by decide +kernel
theorem dX1_init_96 : decode cX1_init 96 = .ok (.return_, 1) := by decide +kernel
theorem dX1_sumOfShares_0 : decode cX1_sumOfShares 0 = .ok (.iconst 0, 1) := by decide +kernel
theorem dX1_sumOfShares_1 : decode cX1_sumOfShares 1 = .ok (.istore_n 1, 1) := by decide +kernel
theorem dX1_sumOfShares_2 : decode cX1_sumOfShares 2 = .ok (.iconst 0, 1) := by decide +kernel
theorem dX1_sumOfShares_3 : decode cX1_sumOfShares 3 = .ok (.istore_n 2, 1) := by decide +kernel
theorem dX1_sumOfShares_4 : decode cX1_sumOfShares 4 = .ok (.iload_n 2, 1) := by decide +kernel
theorem dX1_sumOfShares_5 : decode cX1_sumOfShares 5 = .ok (.bipush 6, 2) := by decide +kernel
theorem dX1_sumOfShares_7 : decode cX1_sumOfShares 7 = .ok (.if_icmp .ge 18, 3) := by decide +kernel
theorem dX1_sumOfShares_10 : decode cX1_sumOfShares 10 = .ok (.iload_n 1, 1) := by decide +kernel
theorem dX1_sumOfShares_11 : decode cX1_sumOfShares 11 = .ok (.aload_n 0, 1) := by decide +kernel
theorem dX1_sumOfShares_12 : decode cX1_sumOfShares 12 = .ok (.getfield 24, 3) := by decide +kernel
theorem dX1_sumOfShares_15 : decode cX1_sumOfShares 15 = .ok (.iload_n 2, 1) := by decide +kernel
theorem dX1_sumOfShares_16 : decode cX1_sumOfShares 16 = .ok (.iaload, 1) := by decide +kernel
theorem dX1_sumOfShares_17 : decode cX1_sumOfShares 17 = .ok (.iadd, 1) := by decide +kernel
theorem dX1_sumOfShares_18 : decode cX1_sumOfShares 18 = .ok (.istore_n 1, 1) := by decide +kernel
theorem dX1_sumOfShares_19 : decode cX1_sumOfShares 19 = .ok (.iinc 2 1, 3) := by decide +kernel
theorem dX1_sumOfShares_22 : decode cX1_sumOfShares 22 = .ok (.goto (-18), 3) := by decide +kernel
theorem dX1_sumOfShares_25 : decode cX1_sumOfShares 25 = .ok (.iload_n 1, 1) := by decide +kernel
theorem dX1_sumOfShares_26 : decode cX1_sumOfShares 26 = .ok (.ireturn, 1) := by decide +kernel
theorem dX1_coveOfShare_0 : decode cX1_coveOfShare 0 = .ok (.iconst 0, 1) := by decide +kernel
theorem dX1_coveOfShare_1 : decode cX1_coveOfShare 1 = .ok (.istore_n 2, 1) := by decide +kernel
theorem dX1_coveOfShare_2 : decode cX1_coveOfShare 2 = .ok (.iconst 0, 1) := by decide +kernel
theorem dX1_coveOfShare_3 : decode cX1_coveOfShare 3 = .ok (.istore_n 3, 1) := by decide +kernel
theorem dX1_coveOfShare_4 : decode cX1_coveOfShare 4 = .ok (.iload_n 3, 1) := by decide +kernel
theorem dX1_coveOfShare_5 : decode cX1_coveOfShare 5 = .ok (.bipush 6, 2) := by decide +kernel
theorem dX1_coveOfShare_7 : decode cX1_coveOfShare 7 = .ok (.if_icmp .ge 25, 3) := by decide +kernel
theorem dX1_coveOfShare_10 : decode cX1_coveOfShare 10 = .ok (.iload_n 2, 1) := by decide +kernel
theorem dX1_coveOfShare_11 : decode cX1_coveOfShare 11 = .ok (.aload_n 0, 1) := by decide +kernel
theorem dX1_coveOfShare_12 : decode cX1_coveOfShare 12 = .ok (.getfield 24, 3) := by decide +kernel
theorem dX1_coveOfShare_15 : decode cX1_coveOfShare 15 = .ok (.iload_n 3, 1) := by decide +kernel
theorem dX1_coveOfShare_16 : decode cX1_coveOfShare 16 = .ok (.iaload, 1) := by decide +kernel
theorem dX1_coveOfShare_17 : decode cX1_coveOfShare 17 = .ok (.iadd, 1) := by decide +kernel
theorem dX1_coveOfShare_18 : decode cX1_coveOfShare 18 = .ok (.istore_n 2, 1) := by decide +kernel
theorem dX1_coveOfShare_19 : decode cX1_coveOfShare 19 = .ok (.iload_n 2, 1) := by decide +kernel
theorem dX1_coveOfShare_20 : decode cX1_coveOfShare 20 = .ok (.iload_n 1, 1) := by decide +kernel
theorem dX1_coveOfShare_21 : decode cX1_coveOfShare 21 = .ok (.if_icmp .le 5, 3) := by decide +kernel
theorem dX1_coveOfShare_24 : decode cX1_coveOfShare 24 = .ok (.iload_n 3, 1) := by decide +kernel
theorem dX1_coveOfShare_25 : decode cX1_coveOfShare 25 = .ok (.ireturn, 1) := by decide +kernel
theorem dX1_coveOfShare_26 : decode cX1_coveOfShare 26 = .ok (.iinc 3 1, 3) := by decide +kernel
theorem dX1_coveOfShare_29 : decode cX1_coveOfShare 29 = .ok (.goto (-25), 3) := by decide +kernel
theorem dX1_coveOfShare_32 : decode cX1_coveOfShare 32 = .ok (.iconst 5, 1) := by decide +kernel
theorem dX1_coveOfShare_33 : decode cX1_coveOfShare 33 = .ok (.ireturn, 1) := by decide +kernel
theorem dX1_countingAt_0 : decode cX1_countingAt 0 = .ok (.aload_n 0, 1) := by decide +kernel
theorem dX1_countingAt_1 : decode cX1_countingAt 1 = .ok (.getfield 27, 3) := by decide +kernel
theorem dX1_countingAt_4 : decode cX1_countingAt 4 = .ok (.iload_n 1, 1) := by decide +kernel
theorem dX1_countingAt_5 : decode cX1_countingAt 5 = .ok (.baload, 1) := by decide +kernel
theorem dX1_countingAt_6 : decode cX1_countingAt 6 = .ok (.ifCond .eq 23, 3) := by decide +kernel
theorem dX1_countingAt_9 : decode cX1_countingAt 9 = .ok (.aload_n 0, 1) := by decide +kernel
theorem dX1_countingAt_10 : decode cX1_countingAt 10 = .ok (.getfield 31, 3) := by decide +kernel
theorem dX1_countingAt_13 : decode cX1_countingAt 13 = .ok (.iload_n 1, 1) := by decide +kernel
theorem dX1_countingAt_14 : decode cX1_countingAt 14 = .ok (.iaload, 1) := by decide +kernel
theorem dX1_countingAt_15 : decode cX1_countingAt 15 = .ok (.ifCond .le 14, 3) := by decide +kernel
theorem dX1_countingAt_18 : decode cX1_countingAt 18 = .ok (.aload_n 0, 1) := by decide +kernel
theorem dX1_countingAt_19 : decode cX1_countingAt 19 = .ok (.getfield 31, 3) := by decide +kernel
theorem dX1_countingAt_22 : decode cX1_countingAt 22 = .ok (.iload_n 1, 1) := by decide +kernel
theorem dX1_countingAt_23 : decode cX1_countingAt 23 = .ok (.iaload, 1) := by decide +kernel
theorem dX1_countingAt_24 : decode cX1_countingAt 24 = .ok (.iconst 1, 1) := by decide +kernel
theorem dX1_countingAt_25 : decode cX1_countingAt 25 = .ok (.isub, 1) := by decide +kernel
theorem dX1_countingAt_26 : decode cX1_countingAt 26 = .ok (.goto 9, 3) := by decide +kernel
theorem dX1_countingAt_29 : decode cX1_countingAt 29 = .ok (.aload_n 0, 1) := by decide +kernel
theorem dX1_countingAt_30 : decode cX1_countingAt 30 = .ok (.getfield 31, 3) := by decide +kernel
theorem dX1_countingAt_33 : decode cX1_countingAt 33 = .ok (.iload_n 1, 1) := by decide +kernel
theorem dX1_countingAt_34 : decode cX1_countingAt 34 = .ok (.iaload, 1) := by decide +kernel
theorem dX1_countingAt_35 : decode cX1_countingAt 35 = .ok (.ireturn, 1) := by decide +kernel
theorem dX2_init_0 : decode cX2_init 0 = .ok (.aload_n 0, 1) := by decide +kernel
theorem dX2_init_1 : decode cX2_init 1 = .ok (.invokespecial 3, 3) := by decide +kernel
theorem dX2_init_4 : decode cX2_init 4 = .ok (.aload_n 0, 1) := by decide +kernel
theorem dX2_init_5 : decode cX2_init 5 = .ok (.bipush 6, 2) := by decide +kernel
theorem dX2_init_7 : decode cX2_init 7 = .ok (.newarray .int, 2) := by decide +kernel
theorem dX2_init_9 : decode cX2_init 9 = .ok (.putfield 9, 3) := by decide +kernel
theorem dX2_init_12 : decode cX2_init 12 = .ok (.aload_n 0, 1) := by decide +kernel
theorem dX2_init_13 : decode cX2_init 13 = .ok (.lconst 0, 1) := by decide +kernel
theorem dX2_init_14 : decode cX2_init 14 = .ok (.putfield 15, 3) := by decide +kernel
theorem dX2_init_17 : decode cX2_init 17 = .ok (.aload_n 0, 1) := by decide +kernel
theorem dX2_init_18 : decode cX2_init 18 = .ok (.lconst 1, 1) := by decide +kernel
theorem dX2_init_19 : decode cX2_init 19 = .ok (.putfield 19, 3) := by decide +kernel
theorem dX2_init_22 : decode cX2_init 22 = .ok (.return_, 1) := by decide +kernel
set_option maxRecDepth 20000 in
theorem ggX2_solve_X2_sortDown : GoodIn wsX2_solve wsX2_sortDown := goodIn_r _ [8, 1, 9, 10, 11] (by decide +kernel) (by decide +kernel)
set_option maxRecDepth 20000 in
theorem gX2_solve_X2_sortDown : GoodIn wsX2_solve (wsV RX2 22 RX2 yX2_sortDown wsX2_sortDown) := goodIn_app (goodIn_of _ (by decide +kernel)) ggX2_solve_X2_sortDown
theorem dX2_solve_0 : decode cX2_solve 0 = .ok (.aload_n 0, 1) := by decide +kernel
theorem dX2_solve_1 : decode cX2_solve 1 = .ok (.aload_n 1, 1) := by decide +kernel
theorem dX2_solve_2 : decode cX2_solve 2 = .ok (.invokevirtual 22, 3) := by decide +kernel
theorem dX2_solve_5 : decode cX2_solve 5 = .ok (.lconst 1, 1) := by decide +kernel
theorem dX2_solve_6 : decode cX2_solve 6 = .ok (.lstore 4, 2) := by decide +kernel
theorem dX2_solve_8 : decode cX2_solve 8 = .ok (.lconst 0, 1) := by decide +kernel
theorem dX2_solve_9 : decode cX2_solve 9 = .ok (.lstore 6, 2) := by decide +kernel
theorem dX2_solve_11 : decode cX2_solve 11 = .ok (.lconst 0, 1) := by decide +kernel
theorem dX2_solve_12 : decode cX2_solve 12 = .ok (.lstore 8, 2) := by decide +kernel
theorem dX2_solve_14 : decode cX2_solve 14 = .ok (.iconst 0, 1) := by decide +kernel
theorem dX2_solve_15 : decode cX2_solve 15 = .ok (.istore 10, 2) := by decide +kernel
theorem dX2_solve_17 : decode cX2_solve 17 = .ok (.iload 10, 2) := by decide +kernel
theorem dX2_solve_19 : decode cX2_solve 19 = .ok (.bipush 6, 2) := by decide +kernel
theorem dX2_solve_21 : decode cX2_solve 21 = .ok (.if_icmp .ge 108, 3) := by decide +kernel
theorem dX2_solve_24 : decode cX2_solve 24 = .ok (.aload_n 0, 1) := by decide +kernel
theorem dX2_solve_25 : decode cX2_solve 25 = .ok (.getfield 9, 3) := by decide +kernel
theorem dX2_solve_28 : decode cX2_solve 28 = .ok (.iload 10, 2) := by decide +kernel
theorem dX2_solve_30 : decode cX2_solve 30 = .ok (.iaload, 1) := by decide +kernel
theorem dX2_solve_31 : decode cX2_solve 31 = .ok (.iload_n 3, 1) := by decide +kernel
theorem dX2_solve_32 : decode cX2_solve 32 = .ok (.iadd, 1) := by decide +kernel
theorem dX2_solve_33 : decode cX2_solve 33 = .ok (.i2l, 1) := by decide +kernel
theorem dX2_solve_34 : decode cX2_solve 34 = .ok (.lstore 11, 2) := by decide +kernel
theorem dX2_solve_36 : decode cX2_solve 36 = .ok (.lload 6, 2) := by decide +kernel
theorem dX2_solve_38 : decode cX2_solve 38 = .ok (.lload 11, 2) := by decide +kernel
theorem dX2_solve_40 : decode cX2_solve 40 = .ok (.lmul, 1) := by decide +kernel
theorem dX2_solve_41 : decode cX2_solve 41 = .ok (.aload_n 0, 1) := by decide +kernel
theorem dX2_solve_42 : decode cX2_solve 42 = .ok (.getfield 9, 3) := by decide +kernel
theorem dX2_solve_45 : decode cX2_solve 45 = .ok (.iload 10, 2) := by decide +kernel
theorem dX2_solve_47 : decode cX2_solve 47 = .ok (.iaload, 1) := by decide +kernel
theorem dX2_solve_48 : decode cX2_solve 48 = .ok (.i2l, 1) := by decide +kernel
theorem dX2_solve_49 : decode cX2_solve 49 = .ok (.lload 4, 2) := by decide +kernel
theorem dX2_solve_51 : decode cX2_solve 51 = .ok (.lmul, 1) := by decide +kernel
theorem dX2_solve_52 : decode cX2_solve 52 = .ok (.ladd, 1) := by decide +kernel
theorem dX2_solve_53 : decode cX2_solve 53 = .ok (.lstore 6, 2) := by decide +kernel
theorem dX2_solve_55 : decode cX2_solve 55 = .ok (.lload 8, 2) := by decide +kernel
theorem dX2_solve_57 : decode cX2_solve 57 = .ok (.lload 11, 2) := by decide +kernel
theorem dX2_solve_59 : decode cX2_solve 59 = .ok (.lmul, 1) := by decide +kernel
theorem dX2_solve_60 : decode cX2_solve 60 = .ok (.lload 4, 2) := by decide +kernel
theorem dX2_solve_62 : decode cX2_solve 62 = .ok (.ladd, 1) := by decide +kernel
theorem dX2_solve_63 : decode cX2_solve 63 = .ok (.lstore 8, 2) := by decide +kernel
theorem dX2_solve_65 : decode cX2_solve 65 = .ok (.lload 4, 2) := by decide +kernel
theorem dX2_solve_67 : decode cX2_solve 67 = .ok (.lload 11, 2) := by decide +kernel
theorem dX2_solve_69 : decode cX2_solve 69 = .ok (.lmul, 1) := by decide +kernel
theorem dX2_solve_70 : decode cX2_solve 70 = .ok (.lstore 4, 2) := by decide +kernel
theorem dX2_solve_72 : decode cX2_solve 72 = .ok (.aload_n 0, 1) := by decide +kernel
theorem dX2_solve_73 : decode cX2_solve 73 = .ok (.lload 6, 2) := by decide +kernel
theorem dX2_solve_75 : decode cX2_solve 75 = .ok (.iload_n 2, 1) := by decide +kernel
theorem dX2_solve_76 : decode cX2_solve 76 = .ok (.i2l, 1) := by decide +kernel
theorem dX2_solve_77 : decode cX2_solve 77 = .ok (.lload 4, 2) := by decide +kernel
theorem dX2_solve_79 : decode cX2_solve 79 = .ok (.lmul, 1) := by decide +kernel
theorem dX2_solve_80 : decode cX2_solve 80 = .ok (.lsub, 1) := by decide +kernel
theorem dX2_solve_81 : decode cX2_solve 81 = .ok (.putfield 15, 3) := by decide +kernel
theorem dX2_solve_84 : decode cX2_solve 84 = .ok (.aload_n 0, 1) := by decide +kernel
theorem dX2_solve_85 : decode cX2_solve 85 = .ok (.lload 8, 2) := by decide +kernel
theorem dX2_solve_87 : decode cX2_solve 87 = .ok (.putfield 19, 3) := by decide +kernel
theorem dX2_solve_90 : decode cX2_solve 90 = .ok (.iload 10, 2) := by decide +kernel
theorem dX2_solve_92 : decode cX2_solve 92 = .ok (.iconst 1, 1) := by decide +kernel
theorem dX2_solve_93 : decode cX2_solve 93 = .ok (.iadd, 1) := by decide +kernel
theorem dX2_solve_94 : decode cX2_solve 94 = .ok (.bipush 6, 2) := by decide +kernel
theorem dX2_solve_96 : decode cX2_solve 96 = .ok (.if_icmp .ge 27, 3) := by decide +kernel
theorem dX2_solve_99 : decode cX2_solve 99 = .ok (.aload_n 0, 1) := by decide +kernel
theorem dX2_solve_100 : decode cX2_solve 100 = .ok (.getfield 15, 3) := by decide +kernel
theorem dX2_solve_103 : decode cX2_solve 103 = .ok (.aload_n 0, 1) := by decide +kernel
theorem dX2_solve_104 : decode cX2_solve 104 = .ok (.getfield 9, 3) := by decide +kernel
theorem dX2_solve_107 : decode cX2_solve 107 = .ok (.iload 10, 2) := by decide +kernel
theorem dX2_solve_109 : decode cX2_solve 109 = .ok (.iconst 1, 1) := by decide +kernel
theorem dX2_solve_110 : decode cX2_solve 110 = .ok (.iadd, 1) := by decide +kernel
theorem dX2_solve_111 : decode cX2_solve 111 = .ok (.iaload, 1) := by decide +kernel
theorem dX2_solve_112 : decode cX2_solve 112 = .ok (.i2l, 1) := by decide +kernel
theorem dX2_solve_113 : decode cX2_solve 113 = .ok (.aload_n 0, 1) := by decide +kernel
theorem dX2_solve_114 : decode cX2_solve 114 = .ok (.getfield 19, 3) := by decide +kernel
theorem dX2_solve_117 : decode cX2_solve 117 = .ok (.lmul, 1) := by decide +kernel
theorem dX2_solve_118 : decode cX2_solve 118 = .ok (.lcmp, 1) := by decide +kernel
theorem dX2_solve_119 : decode cX2_solve 119 = .ok (.ifCond .lt 4, 3) := by decide +kernel
theorem dX2_solve_122 : decode cX2_solve 122 = .ok (.return_, 1) := by decide +kernel
theorem dX2_solve_123 : decode cX2_solve 123 = .ok (.iinc 10 1, 3) := by decide +kernel
theorem dX2_solve_126 : decode cX2_solve 126 = .ok (.goto (-109), 3) := by decide +kernel
theorem dX2_solve_129 : decode cX2_solve 129 = .ok (.return_, 1) := by decide +kernel
theorem dX2_sortDown_0 : decode cX2_sortDown 0 = .ok (.iconst 0, 1) := by decide +kernel
theorem dX2_sortDown_1 : decode cX2_sortDown 1 = .ok (.istore_n 2, 1) := by decide +kernel
theorem dX2_sortDown_2 : decode cX2_sortDown 2 = .ok (.iload_n 2, 1) := by decide +kernel
theorem dX2_sortDown_3 : decode cX2_sortDown 3 = .ok (.bipush 6, 2) := by decide +kernel
theorem dX2_sortDown_5 : decode cX2_sortDown 5 = .ok (.if_icmp .ge 70, 3) := by decide +kernel
theorem dX2_sortDown_8 : decode cX2_sortDown 8 = .ok (.iload_n 2, 1) := by decide +kernel
theorem dX2_sortDown_9 : decode cX2_sortDown 9 = .ok (.istore_n 3, 1) := by decide +kernel
theorem dX2_sortDown_10 : decode cX2_sortDown 10 = .ok (.iload_n 2, 1) := by decide +kernel
theorem dX2_sortDown_11 : decode cX2_sortDown 11 = .ok (.istore 4, 2) := by decide +kernel
theorem dX2_sortDown_13 : decode cX2_sortDown 13 = .ok (.iload 4, 2) := by decide +kernel
theorem dX2_sortDown_15 : decode cX2_sortDown 15 = .ok (.ifCond .le 45, 3) := by decide +kernel
theorem dX2_sortDown_18 : decode cX2_sortDown 18 = .ok (.aload_n 0, 1) := by decide +kernel
theorem dX2_sortDown_19 : decode cX2_sortDown 19 = .ok (.getfield 9, 3) := by decide +kernel
theorem dX2_sortDown_22 : decode cX2_sortDown 22 = .ok (.iload 4, 2) := by decide +kernel
theorem dX2_sortDown_24 : decode cX2_sortDown 24 = .ok (.iconst 1, 1) := by decide +kernel
theorem dX2_sortDown_25 : decode cX2_sortDown 25 = .ok (.isub, 1) := by decide +kernel
theorem dX2_sortDown_26 : decode cX2_sortDown 26 = .ok (.iaload, 1) := by decide +kernel
theorem dX2_sortDown_27 : decode cX2_sortDown 27 = .ok (.aload_n 1, 1) := by decide +kernel
theorem dX2_sortDown_28 : decode cX2_sortDown 28 = .ok (.iload_n 2, 1) := by decide +kernel
theorem dX2_sortDown_29 : decode cX2_sortDown 29 = .ok (.iaload, 1) := by decide +kernel
theorem dX2_sortDown_30 : decode cX2_sortDown 30 = .ok (.if_icmp .ge 30, 3) := by decide +kernel
theorem dX2_sortDown_33 : decode cX2_sortDown 33 = .ok (.aload_n 0, 1) := by decide +kernel
theorem dX2_sortDown_34 : decode cX2_sortDown 34 = .ok (.getfield 9, 3) := by decide +kernel
theorem dX2_sortDown_37 : decode cX2_sortDown 37 = .ok (.iload 4, 2) := by decide +kernel
theorem dX2_sortDown_39 : decode cX2_sortDown 39 = .ok (.aload_n 0, 1) := by decide +kernel
theorem dX2_sortDown_40 : decode cX2_sortDown 40 = .ok (.getfield 9, 3) := by decide +kernel
theorem dX2_sortDown_43 : decode cX2_sortDown 43 = .ok (.iload 4, 2) := by decide +kernel
theorem dX2_sortDown_45 : decode cX2_sortDown 45 = .ok (.iconst 1, 1) := by decide +kernel
theorem dX2_sortDown_46 : decode cX2_sortDown 46 = .ok (.isub, 1) := by decide +kernel
theorem dX2_sortDown_47 : decode cX2_sortDown 47 = .ok (.iaload, 1) := by decide +kernel
theorem dX2_sortDown_48 : decode cX2_sortDown 48 = .ok (.iastore, 1) := by decide +kernel
theorem dX2_sortDown_49 : decode cX2_sortDown 49 = .ok (.iload 4, 2) := by decide +kernel
theorem dX2_sortDown_51 : decode cX2_sortDown 51 = .ok (.iconst 1, 1) := by decide +kernel
theorem dX2_sortDown_52 : decode cX2_sortDown 52 = .ok (.isub, 1) := by decide +kernel
theorem dX2_sortDown_53 : decode cX2_sortDown 53 = .ok (.istore_n 3, 1) := by decide +kernel
theorem dX2_sortDown_54 : decode cX2_sortDown 54 = .ok (.iinc 4 (-1), 3) := by decide +kernel
theorem dX2_sortDown_57 : decode cX2_sortDown 57 = .ok (.goto (-44), 3) := by decide +kernel
theorem dX2_sortDown_60 : decode cX2_sortDown 60 = .ok (.aload_n 0, 1) := by decide +kernel
theorem dX2_sortDown_61 : decode cX2_sortDown 61 = .ok (.getfield 9, 3) := by decide +kernel
theorem dX2_sortDown_64 : decode cX2_sortDown 64 = .ok (.iload_n 3, 1) := by decide +kernel
theorem dX2_sortDown_65 : decode cX2_sortDown 65 = .ok (.aload_n 1, 1) := by decide +kernel
theorem dX2_sortDown_66 : decode cX2_sortDown 66 = .ok (.iload_n 2, 1) := by decide +kernel
theorem dX2_sortDown_67 : decode cX2_sortDown 67 = .ok (.iaload, 1) := by decide +kernel
theorem dX2_sortDown_68 : decode cX2_sortDown 68 = .ok (.iastore, 1) := by decide +kernel
theorem dX2_sortDown_69 : decode cX2_sortDown 69 = .ok (.iinc 2 1, 3) := by decide +kernel
theorem dX2_sortDown_72 : decode cX2_sortDown 72 = .ok (.goto (-70), 3) := by decide +kernel
theorem dX2_sortDown_75 : decode cX2_sortDown 75 = .ok (.return_, 1) := by decide +kernel
theorem dX3_init_0 : decode cX3_init 0 = .ok (.aload_n 0, 1) := by decide +kernel
theorem dX3_init_1 : decode cX3_init 1 = .ok (.invokespecial 5, 3) := by decide +kernel
theorem dX3_init_4 : decode cX3_init 4 = .ok (.aload_n 0, 1) := by decide +kernel
theorem dX3_init_5 : decode cX3_init 5 = .ok (.iconst 0, 1) := by decide +kernel
theorem dX3_init_6 : decode cX3_init 6 = .ok (.putfield 11, 3) := by decide +kernel
theorem dX3_init_9 : decode cX3_init 9 = .ok (.aload_n 0, 1) := by decide +kernel
theorem dX3_init_10 : decode cX3_init 10 = .ok (.bipush 12, 2) := by decide +kernel
theorem dX3_init_12 : decode cX3_init 12 = .ok (.newarray .int, 2) := by decide +kernel
theorem dX3_init_14 : decode cX3_init 14 = .ok (.putfield 15, 3) := by decide +kernel
theorem dX3_init_17 : decode cX3_init 17 = .ok (.aload_n 0, 1) := by decide +kernel
theorem dX3_init_18 : decode cX3_init 18 = .ok (.bipush 12, 2) := by decide +kernel
theorem dX3_init_20 : decode cX3_init 20 = .ok (.newarray .int, 2) := by decide +kernel
theorem dX3_init_22 : decode cX3_init 22 = .ok (.putfield 19, 3) := by decide +kernel
theorem dX3_init_25 : decode cX3_init 25 = .ok (.aload_n 0, 1) := by decide +kernel
theorem dX3_init_26 : decode cX3_init 26 = .ok (.bipush 12, 2) := by decide +kernel
theorem dX3_init_28 : decode cX3_init 28 = .ok (.newarray .int, 2) := by decide +kernel
theorem dX3_init_30 : decode cX3_init 30 = .ok (.putfield 22, 3) := by decide +kernel
theorem dX3_init_33 : decode cX3_init 33 = .ok (.aload_n 0, 1) := by decide +kernel
theorem dX3_init_34 : decode cX3_init 34 = .ok (.bipush 12, 2) := by decide +kernel
theorem dX3_init_36 : decode cX3_init 36 = .ok (.newarray .int, 2) := by decide +kernel
theorem dX3_init_38 : decode cX3_init 38 = .ok (.putfield 25, 3) := by decide +kernel
theorem dX3_init_41 : decode cX3_init 41 = .ok (.aload_n 0, 1) := by decide +kernel
theorem dX3_init_42 : decode cX3_init 42 = .ok (.bipush 12, 2) := by decide +kernel
theorem dX3_init_44 : decode cX3_init 44 = .ok (.newarray .int, 2) := by decide +kernel
theorem dX3_init_46 : decode cX3_init 46 = .ok (.putfield 28, 3) := by decide +kernel
theorem dX3_init_49 : decode cX3_init 49 = .ok (.aload_n 0, 1) := by decide +kernel
theorem dX3_init_50 : decode cX3_init 50 = .ok (.bipush 101, 2) := by decide +kernel
theorem dX3_init_52 : decode cX3_init 52 = .ok (.newarray .long, 2) := by decide +kernel
theorem dX3_init_54 : decode cX3_init 54 = .ok (.putfield 31, 3) := by decide +kernel
theorem dX3_init_57 : decode cX3_init 57 = .ok (.return_, 1) := by decide +kernel
theorem dX3_add_0 : decode cX3_add 0 = .ok (.aload_n 0, 1) := by decide +kernel
theorem dX3_add_1 : decode cX3_add 1 = .ok (.getfield 11, 3) := by decide +kernel
theorem dX3_add_4 : decode cX3_add 4 = .ok (.istore 4, 2) := by decide +kernel
theorem dX3_add_6 : decode cX3_add 6 = .ok (.iload 4, 2) := by decide +kernel
theorem dX3_add_8 : decode cX3_add 8 = .ok (.bipush 12, 2) := by decide +kernel
theorem dX3_add_10 : decode cX3_add 10 = .ok (.if_icmp .lt 5, 3) := by decide +kernel
theorem dX3_add_13 : decode cX3_add 13 = .ok (.iconst (-1), 1) := by decide +kernel
theorem dX3_add_14 : decode cX3_add 14 = .ok (.ireturn, 1) := by decide +kernel
theorem dX3_add_15 : decode cX3_add 15 = .ok (.aload_n 0, 1) := by decide +kernel
theorem dX3_add_16 : decode cX3_add 16 = .ok (.getfield 15, 3) := by decide +kernel
theorem dX3_add_19 : decode cX3_add 19 = .ok (.iload 4, 2) := by decide +kernel
theorem dX3_add_21 : decode cX3_add 21 = .ok (.iload_n 1, 1) := by decide +kernel
theorem dX3_add_22 : decode cX3_add 22 = .ok (.iastore, 1) := by decide +kernel
theorem dX3_add_23 : decode cX3_add 23 = .ok (.aload_n 0, 1) := by decide +kernel
theorem dX3_add_24 : decode cX3_add 24 = .ok (.getfield 19, 3) := by decide +kernel
theorem dX3_add_27 : decode cX3_add 27 = .ok (.iload 4, 2) := by decide +kernel
theorem dX3_add_29 : decode cX3_add 29 = .ok (.iload_n 2, 1) := by decide +kernel
theorem dX3_add_30 : decode cX3_add 30 = .ok (.iastore, 1) := by decide +kernel
theorem dX3_add_31 : decode cX3_add 31 = .ok (.aload_n 0, 1) := by decide +kernel
theorem dX3_add_32 : decode cX3_add 32 = .ok (.getfield 22, 3) := by decide +kernel
theorem dX3_add_35 : decode cX3_add 35 = .ok (.iload 4, 2) := by decide +kernel
theorem dX3_add_37 : decode cX3_add 37 = .ok (.iload_n 3, 1) := by decide +kernel
theorem dX3_add_38 : decode cX3_add 38 = .ok (.iastore, 1) := by decide +kernel
theorem dX3_add_39 : decode cX3_add 39 = .ok (.aload_n 0, 1) := by decide +kernel
theorem dX3_add_40 : decode cX3_add 40 = .ok (.iload 4, 2) := by decide +kernel
theorem dX3_add_42 : decode cX3_add 42 = .ok (.iconst 1, 1) := by decide +kernel
theorem dX3_add_43 : decode cX3_add 43 = .ok (.iadd, 1) := by decide +kernel
theorem dX3_add_44 : decode cX3_add 44 = .ok (.putfield 11, 3) := by decide +kernel
theorem dX3_add_47 : decode cX3_add 47 = .ok (.iload 4, 2) := by decide +kernel
theorem dX3_add_49 : decode cX3_add 49 = .ok (.ireturn, 1) := by decide +kernel
theorem dX3_firstWithRoom_0 : decode cX3_firstWithRoom 0 = .ok (.iconst 0, 1) := by decide +kernel
theorem dX3_firstWithRoom_1 : decode cX3_firstWithRoom 1 = .ok (.istore_n 3, 1) := by decide +kernel
theorem dX3_firstWithRoom_2 : decode cX3_firstWithRoom 2 = .ok (.iload_n 3, 1) := by decide +kernel
theorem dX3_firstWithRoom_3 : decode cX3_firstWithRoom 3 = .ok (.aload_n 0, 1) := by decide +kernel
theorem dX3_firstWithRoom_4 : decode cX3_firstWithRoom 4 = .ok (.getfield 11, 3) := by decide +kernel
theorem dX3_firstWithRoom_7 : decode cX3_firstWithRoom 7 = .ok (.if_icmp .ge 38, 3) := by decide +kernel
theorem dX3_firstWithRoom_10 : decode cX3_firstWithRoom 10 = .ok (.aload_n 0, 1) := by decide +kernel
theorem dX3_firstWithRoom_11 : decode cX3_firstWithRoom 11 = .ok (.getfield 15, 3) := by decide +kernel
theorem dX3_firstWithRoom_14 : decode cX3_firstWithRoom 14 = .ok (.iload_n 3, 1) := by decide +kernel
theorem dX3_firstWithRoom_15 : decode cX3_firstWithRoom 15 = .ok (.iaload, 1) := by decide +kernel
theorem dX3_firstWithRoom_16 : decode cX3_firstWithRoom 16 = .ok (.iload_n 1, 1) := by decide +kernel
theorem dX3_firstWithRoom_17 : decode cX3_firstWithRoom 17 = .ok (.if_icmp .ne 22, 3) := by decide +kernel
theorem dX3_firstWithRoom_20 : decode cX3_firstWithRoom 20 = .ok (.iload_n 2, 1) := by decide +kernel
theorem dX3_firstWithRoom_21 : decode cX3_firstWithRoom 21 = .ok (.aload_n 0, 1) := by decide +kernel
theorem dX3_firstWithRoom_22 : decode cX3_firstWithRoom 22 = .ok (.getfield 19, 3) := by decide +kernel
theorem dX3_firstWithRoom_25 : decode cX3_firstWithRoom 25 = .ok (.iload_n 3, 1) := by decide +kernel
theorem dX3_firstWithRoom_26 : decode cX3_firstWithRoom 26 = .ok (.iaload, 1) := by decide +kernel
theorem dX3_firstWithRoom_27 : decode cX3_firstWithRoom 27 = .ok (.aload_n 0, 1) := by decide +kernel
theorem dX3_firstWithRoom_28 : decode cX3_firstWithRoom 28 = .ok (.getfield 28, 3) := by decide +kernel
theorem dX3_firstWithRoom_31 : decode cX3_firstWithRoom 31 = .ok (.iload_n 3, 1) := by decide +kernel
theorem dX3_firstWithRoom_32 : decode cX3_firstWithRoom 32 = .ok (.iaload, 1) := by decide +kernel
theorem dX3_firstWithRoom_33 : decode cX3_firstWithRoom 33 = .ok (.isub, 1) := by decide +kernel
theorem dX3_firstWithRoom_34 : decode cX3_firstWithRoom 34 = .ok (.if_icmp .gt 5, 3) := by decide +kernel
theorem dX3_firstWithRoom_37 : decode cX3_firstWithRoom 37 = .ok (.iload_n 3, 1) := by decide +kernel
theorem dX3_firstWithRoom_38 : decode cX3_firstWithRoom 38 = .ok (.ireturn, 1) := by decide +kernel
theorem dX3_firstWithRoom_39 : decode cX3_firstWithRoom 39 = .ok (.iinc 3 1, 3) := by decide +kernel
theorem dX3_firstWithRoom_42 : decode cX3_firstWithRoom 42 = .ok (.goto (-40), 3) := by decide +kernel
theorem dX3_firstWithRoom_45 : decode cX3_firstWithRoom 45 = .ok (.iconst (-1), 1) := by decide +kernel
theorem dX3_firstWithRoom_46 : decode cX3_firstWithRoom 46 = .ok (.ireturn, 1) := by decide +kernel
theorem dX3_suspect_0 : decode cX3_suspect 0 = .ok (.iconst 0, 1) := by decide +kernel
theorem dX3_suspect_1 : decode cX3_suspect 1 = .ok (.istore_n 2, 1) := by decide +kernel
theorem dX3_suspect_2 : decode cX3_suspect 2 = .ok (.iload_n 2, 1) := by decide +kernel
theorem dX3_suspect_3 : decode cX3_suspect 3 = .ok (.aload_n 0, 1) := by decide +kernel
theorem dX3_suspect_4 : decode cX3_suspect 4 = .ok (.getfield 11, 3) := by decide +kernel
theorem dX3_suspect_7 : decode cX3_suspect 7 = .ok (.if_icmp .ge 40, 3) := by decide +kernel
theorem dX3_suspect_10 : decode cX3_suspect 10 = .ok (.aload_n 0, 1) := by decide +kernel
theorem dX3_suspect_11 : decode cX3_suspect 11 = .ok (.getfield 15, 3) := by decide +kernel
theorem dX3_suspect_14 : decode cX3_suspect 14 = .ok (.iload_n 2, 1) := by decide +kernel
theorem dX3_suspect_15 : decode cX3_suspect 15 = .ok (.iaload, 1) := by decide +kernel
theorem dX3_suspect_16 : decode cX3_suspect 16 = .ok (.iload_n 1, 1) := by decide +kernel
theorem dX3_suspect_17 : decode cX3_suspect 17 = .ok (.if_icmp .ne 24, 3) := by decide +kernel
theorem dX3_suspect_20 : decode cX3_suspect 20 = .ok (.aload_n 0, 1) := by decide +kernel
theorem dX3_suspect_21 : decode cX3_suspect 21 = .ok (.getfield 25, 3) := by decide +kernel
theorem dX3_suspect_24 : decode cX3_suspect 24 = .ok (.iload_n 2, 1) := by decide +kernel
theorem dX3_suspect_25 : decode cX3_suspect 25 = .ok (.sipush 999, 3) := by decide +kernel
theorem dX3_suspect_28 : decode cX3_suspect 28 = .ok (.aload_n 0, 1) := by decide +kernel
theorem dX3_suspect_29 : decode cX3_suspect 29 = .ok (.getfield 25, 3) := by decide +kernel
theorem dX3_suspect_32 : decode cX3_suspect 32 = .ok (.iload_n 2, 1) := by decide +kernel
theorem dX3_suspect_33 : decode cX3_suspect 33 = .ok (.iaload, 1) := by decide +kernel
theorem dX3_suspect_34 : decode cX3_suspect 34 = .ok (.bipush 10, 2) := by decide +kernel
theorem dX3_suspect_36 : decode cX3_suspect 36 = .ok (.iadd, 1) := by decide +kernel
theorem dX3_suspect_37 : decode cX3_suspect 37 = .ok (.invokestatic 35, 3) := by decide +kernel
theorem dX3_suspect_40 : decode cX3_suspect 40 = .ok (.iastore, 1) := by decide +kernel
theorem dX3_suspect_41 : decode cX3_suspect 41 = .ok (.iinc 2 1, 3) := by decide +kernel
theorem dX3_suspect_44 : decode cX3_suspect 44 = .ok (.goto (-42), 3) := by decide +kernel
theorem dX3_suspect_47 : decode cX3_suspect 47 = .ok (.return_, 1) := by decide +kernel
theorem dX3_bestSet_0 : decode cX3_bestSet 0 = .ok (.iload_n 1, 1) := by decide +kernel
theorem dX3_bestSet_1 : decode cX3_bestSet 1 = .ok (.bipush 100, 2) := by decide +kernel
theorem dX3_bestSet_3 : decode cX3_bestSet 3 = .ok (.invokestatic 35, 3) := by decide +kernel
theorem dX3_bestSet_6 : decode cX3_bestSet 6 = .ok (.istore_n 2, 1) := by decide +kernel
theorem dX3_bestSet_7 : decode cX3_bestSet 7 = .ok (.iconst 0, 1) := by decide +kernel
theorem dX3_bestSet_8 : decode cX3_bestSet 8 = .ok (.istore_n 3, 1) := by decide +kernel
theorem dX3_bestSet_9 : decode cX3_bestSet 9 = .ok (.iload_n 3, 1) := by decide +kernel
theorem dX3_bestSet_10 : decode cX3_bestSet 10 = .ok (.iload_n 2, 1) := by decide +kernel
theorem dX3_bestSet_11 : decode cX3_bestSet 11 = .ok (.if_icmp .gt 16, 3) := by decide +kernel
theorem dX3_bestSet_14 : decode cX3_bestSet 14 = .ok (.aload_n 0, 1) := by decide +kernel
theorem dX3_bestSet_15 : decode cX3_bestSet 15 = .ok (.getfield 31, 3) := by decide +kernel
theorem dX3_bestSet_18 : decode cX3_bestSet 18 = .ok (.iload_n 3, 1) := by decide +kernel
theorem dX3_bestSet_19 : decode cX3_bestSet 19 = .ok (.lconst 0, 1) := by decide +kernel
theorem dX3_bestSet_20 : decode cX3_bestSet 20 = .ok (.lastore, 1) := by decide +kernel
theorem dX3_bestSet_21 : decode cX3_bestSet 21 = .ok (.iinc 3 1, 3) := by decide +kernel
theorem dX3_bestSet_24 : decode cX3_bestSet 24 = .ok (.goto (-15), 3) := by decide +kernel
theorem dX3_bestSet_27 : decode cX3_bestSet 27 = .ok (.iconst 0, 1) := by decide +kernel
theorem dX3_bestSet_28 : decode cX3_bestSet 28 = .ok (.istore_n 3, 1) := by decide +kernel
theorem dX3_bestSet_29 : decode cX3_bestSet 29 = .ok (.iload_n 3, 1) := by decide +kernel
theorem dX3_bestSet_30 : decode cX3_bestSet 30 = .ok (.aload_n 0, 1) := by decide +kernel
theorem dX3_bestSet_31 : decode cX3_bestSet 31 = .ok (.getfield 11, 3) := by decide +kernel
theorem dX3_bestSet_34 : decode cX3_bestSet 34 = .ok (.if_icmp .ge 83, 3) := by decide +kernel
theorem dX3_bestSet_37 : decode cX3_bestSet 37 = .ok (.aload_n 0, 1) := by decide +kernel
theorem dX3_bestSet_38 : decode cX3_bestSet 38 = .ok (.getfield 25, 3) := by decide +kernel
theorem dX3_bestSet_41 : decode cX3_bestSet 41 = .ok (.iload_n 3, 1) := by decide +kernel
theorem dX3_bestSet_42 : decode cX3_bestSet 42 = .ok (.iaload, 1) := by decide +kernel
theorem dX3_bestSet_43 : decode cX3_bestSet 43 = .ok (.i2l, 1) := by decide +kernel
theorem dX3_bestSet_44 : decode cX3_bestSet 44 = .ok (.bipush 20, 2) := by decide +kernel
theorem dX3_bestSet_46 : decode cX3_bestSet 46 = .ok (.lshl, 1) := by decide +kernel
theorem dX3_bestSet_47 : decode cX3_bestSet 47 = .ok (.ldc2_w 41, 3) := by decide +kernel
theorem dX3_bestSet_50 : decode cX3_bestSet 50 = .ok (.lsub, 1) := by decide +kernel
theorem dX3_bestSet_51 : decode cX3_bestSet 51 = .ok (.lconst 1, 1) := by decide +kernel
theorem dX3_bestSet_52 : decode cX3_bestSet 52 = .ok (.iload_n 3, 1) := by decide +kernel
theorem dX3_bestSet_53 : decode cX3_bestSet 53 = .ok (.lshl, 1) := by decide +kernel
theorem dX3_bestSet_54 : decode cX3_bestSet 54 = .ok (.lsub, 1) := by decide +kernel
theorem dX3_bestSet_55 : decode cX3_bestSet 55 = .ok (.lstore 4, 2) := by decide +kernel
theorem dX3_bestSet_57 : decode cX3_bestSet 57 = .ok (.iload_n 2, 1) := by decide +kernel
theorem dX3_bestSet_58 : decode cX3_bestSet 58 = .ok (.istore 6, 2) := by decide +kernel
theorem dX3_bestSet_60 : decode cX3_bestSet 60 = .ok (.iload 6, 2) := by decide +kernel
theorem dX3_bestSet_62 : decode cX3_bestSet 62 = .ok (.aload_n 0, 1) := by decide +kernel
theorem dX3_bestSet_63 : decode cX3_bestSet 63 = .ok (.getfield 22, 3) := by decide +kernel
theorem dX3_bestSet_66 : decode cX3_bestSet 66 = .ok (.iload_n 3, 1) := by decide +kernel
theorem dX3_bestSet_67 : decode cX3_bestSet 67 = .ok (.iaload, 1) := by decide +kernel
theorem dX3_bestSet_68 : decode cX3_bestSet 68 = .ok (.if_icmp .lt 43, 3) := by decide +kernel
theorem dX3_bestSet_71 : decode cX3_bestSet 71 = .ok (.aload_n 0, 1) := by decide +kernel
theorem dX3_bestSet_72 : decode cX3_bestSet 72 = .ok (.getfield 31, 3) := by decide +kernel
theorem dX3_bestSet_75 : decode cX3_bestSet 75 = .ok (.iload 6, 2) := by decide +kernel
theorem dX3_bestSet_77 : decode cX3_bestSet 77 = .ok (.aload_n 0, 1) := by decide +kernel
theorem dX3_bestSet_78 : decode cX3_bestSet 78 = .ok (.getfield 31, 3) := by decide +kernel
theorem dX3_bestSet_81 : decode cX3_bestSet 81 = .ok (.iload 6, 2) := by decide +kernel
theorem dX3_bestSet_83 : decode cX3_bestSet 83 = .ok (.laload, 1) := by decide +kernel
theorem dX3_bestSet_84 : decode cX3_bestSet 84 = .ok (.aload_n 0, 1) := by decide +kernel
theorem dX3_bestSet_85 : decode cX3_bestSet 85 = .ok (.getfield 31, 3) := by decide +kernel
theorem dX3_bestSet_88 : decode cX3_bestSet 88 = .ok (.iload 6, 2) := by decide +kernel
theorem dX3_bestSet_90 : decode cX3_bestSet 90 = .ok (.aload_n 0, 1) := by decide +kernel
theorem dX3_bestSet_91 : decode cX3_bestSet 91 = .ok (.getfield 22, 3) := by decide +kernel
theorem dX3_bestSet_94 : decode cX3_bestSet 94 = .ok (.iload_n 3, 1) := by decide +kernel
theorem dX3_bestSet_95 : decode cX3_bestSet 95 = .ok (.iaload, 1) := by decide +kernel
theorem dX3_bestSet_96 : decode cX3_bestSet 96 = .ok (.isub, 1) := by decide +kernel
theorem dX3_bestSet_97 : decode cX3_bestSet 97 = .ok (.laload, 1) := by decide +kernel
theorem dX3_bestSet_98 : decode cX3_bestSet 98 = .ok (.lload 4, 2) := by decide +kernel
theorem dX3_bestSet_100 : decode cX3_bestSet 100 = .ok (.ladd, 1) := by decide +kernel
theorem dX3_bestSet_101 : decode cX3_bestSet 101 = .ok (.invokestatic 43, 3) := by decide +kernel
theorem dX3_bestSet_104 : decode cX3_bestSet 104 = .ok (.lastore, 1) := by decide +kernel
theorem dX3_bestSet_105 : decode cX3_bestSet 105 = .ok (.iinc 6 (-1), 3) := by decide +kernel
theorem dX3_bestSet_108 : decode cX3_bestSet 108 = .ok (.goto (-48), 3) := by decide +kernel
theorem dX3_bestSet_111 : decode cX3_bestSet 111 = .ok (.iinc 3 1, 3) := by decide +kernel
theorem dX3_bestSet_114 : decode cX3_bestSet 114 = .ok (.goto (-85), 3) := by decide +kernel
theorem dX3_bestSet_117 : decode cX3_bestSet 117 = .ok (.iload_n 2, 1) := by decide +kernel
theorem dX3_bestSet_118 : decode cX3_bestSet 118 = .ok (.ifCond .ge 7, 3) := by decide +kernel
theorem dX3_bestSet_121 : decode cX3_bestSet 121 = .ok (.iconst 0, 1) := by decide +kernel
theorem dX3_bestSet_122 : decode cX3_bestSet 122 = .ok (.goto 15, 3) := by decide +kernel
theorem dX3_bestSet_125 : decode cX3_bestSet 125 = .ok (.aload_n 0, 1) := by decide +kernel
theorem dX3_bestSet_126 : decode cX3_bestSet 126 = .ok (.getfield 31, 3) := by decide +kernel
theorem dX3_bestSet_129 : decode cX3_bestSet 129 = .ok (.iload_n 2, 1) := by decide +kernel
theorem dX3_bestSet_130 : decode cX3_bestSet 130 = .ok (.laload, 1) := by decide +kernel
theorem dX3_bestSet_131 : decode cX3_bestSet 131 = .ok (.lneg, 1) := by decide +kernel
theorem dX3_bestSet_132 : decode cX3_bestSet 132 = .ok (.ldc2_w 47, 3) := by decide +kernel
theorem dX3_bestSet_135 : decode cX3_bestSet 135 = .ok (.land, 1) := by decide +kernel
theorem dX3_bestSet_136 : decode cX3_bestSet 136 = .ok (.l2i, 1) := by decide +kernel
theorem dX3_bestSet_137 : decode cX3_bestSet 137 = .ok (.ireturn, 1) := by decide +kernel
theorem dX4_init_0 : decode cX4_init 0 = .ok (.aload_n 0, 1) := by decide +kernel
theorem dX4_init_1 : decode cX4_init 1 = .ok (.invokespecial 3, 3) := by decide +kernel
theorem dX4_init_4 : decode cX4_init 4 = .ok (.aload_n 0, 1) := by decide +kernel
theorem dX4_init_5 : decode cX4_init 5 = .ok (.iconst 0, 1) := by decide +kernel
theorem dX4_init_6 : decode cX4_init 6 = .ok (.putfield 9, 3) := by decide +kernel
theorem dX4_init_9 : decode cX4_init 9 = .ok (.aload_n 0, 1) := by decide +kernel
theorem dX4_init_10 : decode cX4_init 10 = .ok (.bipush 20, 2) := by decide +kernel
theorem dX4_init_12 : decode cX4_init 12 = .ok (.newarray .int, 2) := by decide +kernel
theorem dX4_init_14 : decode cX4_init 14 = .ok (.putfield 15, 3) := by decide +kernel
theorem dX4_init_17 : decode cX4_init 17 = .ok (.aload_n 0, 1) := by decide +kernel
theorem dX4_init_18 : decode cX4_init 18 = .ok (.bipush 20, 2) := by decide +kernel
theorem dX4_init_20 : decode cX4_init 20 = .ok (.newarray .int, 2) := by decide +kernel
theorem dX4_init_22 : decode cX4_init 22 = .ok (.putfield 19, 3) := by decide +kernel
theorem dX4_init_25 : decode cX4_init 25 = .ok (.aload_n 0, 1) := by decide +kernel
theorem dX4_init_26 : decode cX4_init 26 = .ok (.bipush 20, 2) := by decide +kernel
theorem dX4_init_28 : decode cX4_init 28 = .ok (.newarray .int, 2) := by decide +kernel
theorem dX4_init_30 : decode cX4_init 30 = .ok (.putfield 22, 3) := by decide +kernel
theorem dX4_init_33 : decode cX4_init 33 = .ok (.return_, 1) := by decide +kernel
theorem dX4_add_0 : decode cX4_add 0 = .ok (.aload_n 0, 1) := by decide +kernel
theorem dX4_add_1 : decode cX4_add 1 = .ok (.getfield 9, 3) := by decide +kernel
theorem dX4_add_4 : decode cX4_add 4 = .ok (.istore 4, 2) := by decide +kernel
theorem dX4_add_6 : decode cX4_add 6 = .ok (.iload 4, 2) := by decide +kernel
theorem dX4_add_8 : decode cX4_add 8 = .ok (.bipush 20, 2) := by decide +kernel
theorem dX4_add_10 : decode cX4_add 10 = .ok (.if_icmp .lt 5, 3) := by decide +kernel
theorem dX4_add_13 : decode cX4_add 13 = .ok (.iconst (-1), 1) := by decide +kernel
theorem dX4_add_14 : decode cX4_add 14 = .ok (.ireturn, 1) := by decide +kernel
theorem dX4_add_15 : decode cX4_add 15 = .ok (.aload_n 0, 1) := by decide +kernel
theorem dX4_add_16 : decode cX4_add 16 = .ok (.getfield 15, 3) := by decide +kernel
theorem dX4_add_19 : decode cX4_add 19 = .ok (.iload 4, 2) := by decide +kernel
theorem dX4_add_21 : decode cX4_add 21 = .ok (.iload_n 1, 1) := by decide +kernel
theorem dX4_add_22 : decode cX4_add 22 = .ok (.iastore, 1) := by decide +kernel
theorem dX4_add_23 : decode cX4_add 23 = .ok (.aload_n 0, 1) := by decide +kernel
theorem dX4_add_24 : decode cX4_add 24 = .ok (.getfield 19, 3) := by decide +kernel
theorem dX4_add_27 : decode cX4_add 27 = .ok (.iload 4, 2) := by decide +kernel
theorem dX4_add_29 : decode cX4_add 29 = .ok (.iload_n 2, 1) := by decide +kernel
theorem dX4_add_30 : decode cX4_add 30 = .ok (.iastore, 1) := by decide +kernel
theorem dX4_add_31 : decode cX4_add 31 = .ok (.aload_n 0, 1) := by decide +kernel
theorem dX4_add_32 : decode cX4_add 32 = .ok (.getfield 22, 3) := by decide +kernel
theorem dX4_add_35 : decode cX4_add 35 = .ok (.iload 4, 2) := by decide +kernel
theorem dX4_add_37 : decode cX4_add 37 = .ok (.iload_n 3, 1) := by decide +kernel
theorem dX4_add_38 : decode cX4_add 38 = .ok (.iastore, 1) := by decide +kernel
theorem dX4_add_39 : decode cX4_add 39 = .ok (.aload_n 0, 1) := by decide +kernel
theorem dX4_add_40 : decode cX4_add 40 = .ok (.iload 4, 2) := by decide +kernel
theorem dX4_add_42 : decode cX4_add 42 = .ok (.iconst 1, 1) := by decide +kernel
theorem dX4_add_43 : decode cX4_add 43 = .ok (.iadd, 1) := by decide +kernel
theorem dX4_add_44 : decode cX4_add 44 = .ok (.putfield 9, 3) := by decide +kernel
theorem dX4_add_47 : decode cX4_add 47 = .ok (.iload 4, 2) := by decide +kernel
theorem dX4_add_49 : decode cX4_add 49 = .ok (.ireturn, 1) := by decide +kernel
theorem dX4_inForceOn_0 : decode cX4_inForceOn 0 = .ok (.iconst (-1), 1) := by decide +kernel
theorem dX4_inForceOn_1 : decode cX4_inForceOn 1 = .ok (.istore_n 2, 1) := by decide +kernel
theorem dX4_inForceOn_2 : decode cX4_inForceOn 2 = .ok (.iconst 0, 1) := by decide +kernel
theorem dX4_inForceOn_3 : decode cX4_inForceOn 3 = .ok (.istore_n 3, 1) := by decide +kernel
theorem dX4_inForceOn_4 : decode cX4_inForceOn 4 = .ok (.iload_n 3, 1) := by decide +kernel
theorem dX4_inForceOn_5 : decode cX4_inForceOn 5 = .ok (.aload_n 0, 1) := by decide +kernel
theorem dX4_inForceOn_6 : decode cX4_inForceOn 6 = .ok (.getfield 9, 3) := by decide +kernel
theorem dX4_inForceOn_9 : decode cX4_inForceOn 9 = .ok (.if_icmp .ge 41, 3) := by decide +kernel
theorem dX4_inForceOn_12 : decode cX4_inForceOn 12 = .ok (.aload_n 0, 1) := by decide +kernel
theorem dX4_inForceOn_13 : decode cX4_inForceOn 13 = .ok (.getfield 22, 3) := by decide +kernel
theorem dX4_inForceOn_16 : decode cX4_inForceOn 16 = .ok (.iload_n 3, 1) := by decide +kernel
theorem dX4_inForceOn_17 : decode cX4_inForceOn 17 = .ok (.iaload, 1) := by decide +kernel
theorem dX4_inForceOn_18 : decode cX4_inForceOn 18 = .ok (.iload_n 1, 1) := by decide +kernel
theorem dX4_inForceOn_19 : decode cX4_inForceOn 19 = .ok (.if_icmp .gt 25, 3) := by decide +kernel
theorem dX4_inForceOn_22 : decode cX4_inForceOn 22 = .ok (.iload_n 2, 1) := by decide +kernel
theorem dX4_inForceOn_23 : decode cX4_inForceOn 23 = .ok (.iconst (-1), 1) := by decide +kernel
theorem dX4_inForceOn_24 : decode cX4_inForceOn 24 = .ok (.if_icmp .eq 18, 3) := by decide +kernel
theorem dX4_inForceOn_27 : decode cX4_inForceOn 27 = .ok (.aload_n 0, 1) := by decide +kernel
theorem dX4_inForceOn_28 : decode cX4_inForceOn 28 = .ok (.getfield 22, 3) := by decide +kernel
theorem dX4_inForceOn_31 : decode cX4_inForceOn 31 = .ok (.iload_n 3, 1) := by decide +kernel
theorem dX4_inForceOn_32 : decode cX4_inForceOn 32 = .ok (.iaload, 1) := by decide +kernel
theorem dX4_inForceOn_33 : decode cX4_inForceOn 33 = .ok (.aload_n 0, 1) := by decide +kernel
theorem dX4_inForceOn_34 : decode cX4_inForceOn 34 = .ok (.getfield 22, 3) := by decide +kernel
theorem dX4_inForceOn_37 : decode cX4_inForceOn 37 = .ok (.iload_n 2, 1) := by decide +kernel
theorem dX4_inForceOn_38 : decode cX4_inForceOn 38 = .ok (.iaload, 1) := by decide +kernel
theorem dX4_inForceOn_39 : decode cX4_inForceOn 39 = .ok (.if_icmp .lt 5, 3) := by decide +kernel
theorem dX4_inForceOn_42 : decode cX4_inForceOn 42 = .ok (.iload_n 3, 1) := by decide +kernel
theorem dX4_inForceOn_43 : decode cX4_inForceOn 43 = .ok (.istore_n 2, 1) := by decide +kernel
theorem dX4_inForceOn_44 : decode cX4_inForceOn 44 = .ok (.iinc 3 1, 3) := by decide +kernel
theorem dX4_inForceOn_47 : decode cX4_inForceOn 47 = .ok (.goto (-43), 3) := by decide +kernel
theorem dX4_inForceOn_50 : decode cX4_inForceOn 50 = .ok (.iload_n 2, 1) := by decide +kernel
theorem dX4_inForceOn_51 : decode cX4_inForceOn 51 = .ok (.ireturn, 1) := by decide +kernel
theorem dX5_init_0 : decode cX5_init 0 = .ok (.aload_n 0, 1) := by decide +kernel
theorem dX5_init_1 : decode cX5_init 1 = .ok (.invokespecial 3, 3) := by decide +kernel
theorem dX5_init_4 : decode cX5_init 4 = .ok (.aload_n 0, 1) := by decide +kernel
theorem dX5_init_5 : decode cX5_init 5 = .ok (.iconst 0, 1) := by decide +kernel
theorem dX5_init_6 : decode cX5_init 6 = .ok (.putfield 9, 3) := by decide +kernel
theorem dX5_init_9 : decode cX5_init 9 = .ok (.aload_n 0, 1) := by decide +kernel
theorem dX5_init_10 : decode cX5_init 10 = .ok (.bipush 100, 2) := by decide +kernel
theorem dX5_init_12 : decode cX5_init 12 = .ok (.newarray .int, 2) := by decide +kernel
theorem dX5_init_14 : decode cX5_init 14 = .ok (.putfield 15, 3) := by decide +kernel
theorem dX5_init_17 : decode cX5_init 17 = .ok (.aload_n 0, 1) := by decide +kernel
theorem dX5_init_18 : decode cX5_init 18 = .ok (.bipush 100, 2) := by decide +kernel
theorem dX5_init_20 : decode cX5_init 20 = .ok (.newarray .int, 2) := by decide +kernel
theorem dX5_init_22 : decode cX5_init 22 = .ok (.putfield 19, 3) := by decide +kernel
theorem dX5_init_25 : decode cX5_init 25 = .ok (.aload_n 0, 1) := by decide +kernel
theorem dX5_init_26 : decode cX5_init 26 = .ok (.bipush 100, 2) := by decide +kernel
theorem dX5_init_28 : decode cX5_init 28 = .ok (.newarray .int, 2) := by decide +kernel
theorem dX5_init_30 : decode cX5_init 30 = .ok (.putfield 22, 3) := by decide +kernel
theorem dX5_init_33 : decode cX5_init 33 = .ok (.aload_n 0, 1) := by decide +kernel
theorem dX5_init_34 : decode cX5_init 34 = .ok (.bipush 100, 2) := by decide +kernel
theorem dX5_init_36 : decode cX5_init 36 = .ok (.newarray .int, 2) := by decide +kernel
theorem dX5_init_38 : decode cX5_init 38 = .ok (.putfield 25, 3) := by decide +kernel
theorem dX5_init_41 : decode cX5_init 41 = .ok (.aload_n 0, 1) := by decide +kernel
theorem dX5_init_42 : decode cX5_init 42 = .ok (.bipush 100, 2) := by decide +kernel
theorem dX5_init_44 : decode cX5_init 44 = .ok (.newarray .int, 2) := by decide +kernel
theorem dX5_init_46 : decode cX5_init 46 = .ok (.putfield 28, 3) := by decide +kernel
theorem dX5_init_49 : decode cX5_init 49 = .ok (.aload_n 0, 1) := by decide +kernel
theorem dX5_init_50 : decode cX5_init 50 = .ok (.bipush 100, 2) := by decide +kernel
theorem dX5_init_52 : decode cX5_init 52 = .ok (.newarray .int, 2) := by decide +kernel
theorem dX5_init_54 : decode cX5_init 54 = .ok (.putfield 31, 3) := by decide +kernel
theorem dX5_init_57 : decode cX5_init 57 = .ok (.return_, 1) := by decide +kernel
theorem dX5_add_0 : decode cX5_add 0 = .ok (.aload_n 0, 1) := by decide +kernel
theorem dX5_add_1 : decode cX5_add 1 = .ok (.getfield 9, 3) := by decide +kernel
theorem dX5_add_4 : decode cX5_add 4 = .ok (.bipush 100, 2) := by decide +kernel
theorem dX5_add_6 : decode cX5_add 6 = .ok (.if_icmp .lt 4, 3) := by decide +kernel
theorem dX5_add_9 : decode cX5_add 9 = .ok (.return_, 1) := by decide +kernel
theorem dX5_add_10 : decode cX5_add 10 = .ok (.aload_n 0, 1) := by decide +kernel
theorem dX5_add_11 : decode cX5_add 11 = .ok (.getfield 15, 3) := by decide +kernel
theorem dX5_add_14 : decode cX5_add 14 = .ok (.aload_n 0, 1) := by decide +kernel
theorem dX5_add_15 : decode cX5_add 15 = .ok (.getfield 9, 3) := by decide +kernel
theorem dX5_add_18 : decode cX5_add 18 = .ok (.iload_n 1, 1) := by decide +kernel
theorem dX5_add_19 : decode cX5_add 19 = .ok (.iastore, 1) := by decide +kernel
theorem dX5_add_20 : decode cX5_add 20 = .ok (.aload_n 0, 1) := by decide +kernel
theorem dX5_add_21 : decode cX5_add 21 = .ok (.getfield 19, 3) := by decide +kernel
theorem dX5_add_24 : decode cX5_add 24 = .ok (.aload_n 0, 1) := by decide +kernel
theorem dX5_add_25 : decode cX5_add 25 = .ok (.getfield 9, 3) := by decide +kernel
theorem dX5_add_28 : decode cX5_add 28 = .ok (.iload_n 2, 1) := by decide +kernel
theorem dX5_add_29 : decode cX5_add 29 = .ok (.iastore, 1) := by decide +kernel
theorem dX5_add_30 : decode cX5_add 30 = .ok (.aload_n 0, 1) := by decide +kernel
theorem dX5_add_31 : decode cX5_add 31 = .ok (.getfield 22, 3) := by decide +kernel
theorem dX5_add_34 : decode cX5_add 34 = .ok (.aload_n 0, 1) := by decide +kernel
theorem dX5_add_35 : decode cX5_add 35 = .ok (.getfield 9, 3) := by decide +kernel
theorem dX5_add_38 : decode cX5_add 38 = .ok (.iload_n 3, 1) := by decide +kernel
theorem dX5_add_39 : decode cX5_add 39 = .ok (.iastore, 1) := by decide +kernel
theorem dX5_add_40 : decode cX5_add 40 = .ok (.aload_n 0, 1) := by decide +kernel
theorem dX5_add_41 : decode cX5_add 41 = .ok (.getfield 25, 3) := by decide +kernel
theorem dX5_add_44 : decode cX5_add 44 = .ok (.aload_n 0, 1) := by decide +kernel
theorem dX5_add_45 : decode cX5_add 45 = .ok (.getfield 9, 3) := by decide +kernel
theorem dX5_add_48 : decode cX5_add 48 = .ok (.iload 4, 2) := by decide +kernel
theorem dX5_add_50 : decode cX5_add 50 = .ok (.iastore, 1) := by decide +kernel
theorem dX5_add_51 : decode cX5_add 51 = .ok (.aload_n 0, 1) := by decide +kernel
theorem dX5_add_52 : decode cX5_add 52 = .ok (.getfield 28, 3) := by decide +kernel
theorem dX5_add_55 : decode cX5_add 55 = .ok (.aload_n 0, 1) := by decide +kernel
theorem dX5_add_56 : decode cX5_add 56 = .ok (.getfield 9, 3) := by decide +kernel
theorem dX5_add_59 : decode cX5_add 59 = .ok (.iload 5, 2) := by decide +kernel
theorem dX5_add_61 : decode cX5_add 61 = .ok (.iastore, 1) := by decide +kernel
theorem dX5_add_62 : decode cX5_add 62 = .ok (.aload_n 0, 1) := by decide +kernel
theorem dX5_add_63 : decode cX5_add 63 = .ok (.getfield 31, 3) := by decide +kernel
theorem dX5_add_66 : decode cX5_add 66 = .ok (.aload_n 0, 1) := by decide +kernel
theorem dX5_add_67 : decode cX5_add 67 = .ok (.getfield 9, 3) := by decide +kernel
theorem dX5_add_70 : decode cX5_add 70 = .ok (.iload 6, 2) := by decide +kernel
theorem dX5_add_72 : decode cX5_add 72 = .ok (.iastore, 1) := by decide +kernel
theorem dX5_add_73 : decode cX5_add 73 = .ok (.aload_n 0, 1) := by decide +kernel
theorem dX5_add_74 : decode cX5_add 74 = .ok (.dup, 1) := by decide +kernel
theorem dX5_add_75 : decode cX5_add 75 = .ok (.getfield 9, 3) := by decide +kernel
theorem dX5_add_78 : decode cX5_add 78 = .ok (.iconst 1, 1) := by decide +kernel
theorem dX5_add_79 : decode cX5_add 79 = .ok (.iadd, 1) := by decide +kernel
theorem dX5_add_80 : decode cX5_add 80 = .ok (.putfield 9, 3) := by decide +kernel
theorem dX5_add_83 : decode cX5_add 83 = .ok (.return_, 1) := by decide +kernel
theorem dX5_liesIn_0 : decode cX5_liesIn 0 = .ok (.aload_n 0, 1) := by decide +kernel
theorem dX5_liesIn_1 : decode cX5_liesIn 1 = .ok (.getfield 28, 3) := by decide +kernel
theorem dX5_liesIn_4 : decode cX5_liesIn 4 = .ok (.iload_n 1, 1) := by decide +kernel
theorem dX5_liesIn_5 : decode cX5_liesIn 5 = .ok (.iaload, 1) := by decide +kernel
theorem dX5_liesIn_6 : decode cX5_liesIn 6 = .ok (.ifCond .ne 17, 3) := by decide +kernel
theorem dX5_liesIn_9 : decode cX5_liesIn 9 = .ok (.aload_n 0, 1) := by decide +kernel
theorem dX5_liesIn_10 : decode cX5_liesIn 10 = .ok (.getfield 31, 3) := by decide +kernel
theorem dX5_liesIn_13 : decode cX5_liesIn 13 = .ok (.iload_n 1, 1) := by decide +kernel
theorem dX5_liesIn_14 : decode cX5_liesIn 14 = .ok (.iaload, 1) := by decide +kernel
theorem dX5_liesIn_15 : decode cX5_liesIn 15 = .ok (.iload_n 2, 1) := by decide +kernel
theorem dX5_liesIn_16 : decode cX5_liesIn 16 = .ok (.if_icmp .ne 7, 3) := by decide +kernel
theorem dX5_liesIn_19 : decode cX5_liesIn 19 = .ok (.iconst 1, 1) := by decide +kernel
theorem dX5_liesIn_20 : decode cX5_liesIn 20 = .ok (.goto 4, 3) := by decide +kernel
theorem dX5_liesIn_23 : decode cX5_liesIn 23 = .ok (.iconst 0, 1) := by decide +kernel
theorem dX5_liesIn_24 : decode cX5_liesIn 24 = .ok (.ireturn, 1) := by decide +kernel
theorem dX5_cameTo_0 : decode cX5_cameTo 0 = .ok (.iconst 0, 1) := by decide +kernel
theorem dX5_cameTo_1 : decode cX5_cameTo 1 = .ok (.istore_n 3, 1) := by decide +kernel
theorem dX5_cameTo_2 : decode cX5_cameTo 2 = .ok (.iload_n 3, 1) := by decide +kernel
theorem dX5_cameTo_3 : decode cX5_cameTo 3 = .ok (.aload_n 0, 1) := by decide +kernel
theorem dX5_cameTo_4 : decode cX5_cameTo 4 = .ok (.getfield 9, 3) := by decide +kernel
theorem dX5_cameTo_7 : decode cX5_cameTo 7 = .ok (.if_icmp .ge 31, 3) := by decide +kernel
theorem dX5_cameTo_10 : decode cX5_cameTo 10 = .ok (.aload_n 0, 1) := by decide +kernel
theorem dX5_cameTo_11 : decode cX5_cameTo 11 = .ok (.getfield 25, 3) := by decide +kernel
theorem dX5_cameTo_14 : decode cX5_cameTo 14 = .ok (.iload_n 3, 1) := by decide +kernel
theorem dX5_cameTo_15 : decode cX5_cameTo 15 = .ok (.iaload, 1) := by decide +kernel
theorem dX5_cameTo_16 : decode cX5_cameTo 16 = .ok (.iload_n 1, 1) := by decide +kernel
theorem dX5_cameTo_17 : decode cX5_cameTo 17 = .ok (.if_icmp .ne 15, 3) := by decide +kernel
theorem dX5_cameTo_20 : decode cX5_cameTo 20 = .ok (.aload_n 0, 1) := by decide +kernel
theorem dX5_cameTo_21 : decode cX5_cameTo 21 = .ok (.getfield 22, 3) := by decide +kernel
theorem dX5_cameTo_24 : decode cX5_cameTo 24 = .ok (.iload_n 3, 1) := by decide +kernel
theorem dX5_cameTo_25 : decode cX5_cameTo 25 = .ok (.iaload, 1) := by decide +kernel
theorem dX5_cameTo_26 : decode cX5_cameTo 26 = .ok (.iload_n 2, 1) := by decide +kernel
theorem dX5_cameTo_27 : decode cX5_cameTo 27 = .ok (.if_icmp .ne 5, 3) := by decide +kernel
theorem dX5_cameTo_30 : decode cX5_cameTo 30 = .ok (.iconst 1, 1) := by decide +kernel
theorem dX5_cameTo_31 : decode cX5_cameTo 31 = .ok (.ireturn, 1) := by decide +kernel
theorem dX5_cameTo_32 : decode cX5_cameTo 32 = .ok (.iinc 3 1, 3) := by decide +kernel
theorem dX5_cameTo_35 : decode cX5_cameTo 35 = .ok (.goto (-33), 3) := by decide +kernel
theorem dX5_cameTo_38 : decode cX5_cameTo 38 = .ok (.iconst 0, 1) := by decide +kernel
theorem dX5_cameTo_39 : decode cX5_cameTo 39 = .ok (.ireturn, 1) := by decide +kernel
theorem dX5_heldIn_0 : decode cX5_heldIn 0 = .ok (.iconst 0, 1) := by decide +kernel
theorem dX5_heldIn_1 : decode cX5_heldIn 1 = .ok (.istore_n 2, 1) := by decide +kernel
theorem dX5_heldIn_2 : decode cX5_heldIn 2 = .ok (.iconst 0, 1) := by decide +kernel
theorem dX5_heldIn_3 : decode cX5_heldIn 3 = .ok (.istore_n 3, 1) := by decide +kernel
theorem dX5_heldIn_4 : decode cX5_heldIn 4 = .ok (.iload_n 3, 1) := by decide +kernel
theorem dX5_heldIn_5 : decode cX5_heldIn 5 = .ok (.aload_n 0, 1) := by decide +kernel
theorem dX5_heldIn_6 : decode cX5_heldIn 6 = .ok (.getfield 9, 3) := by decide +kernel
theorem dX5_heldIn_9 : decode cX5_heldIn 9 = .ok (.if_icmp .ge 40, 3) := by decide +kernel
theorem dX5_heldIn_12 : decode cX5_heldIn 12 = .ok (.aload_n 0, 1) := by decide +kernel
theorem dX5_heldIn_13 : decode cX5_heldIn 13 = .ok (.getfield 22, 3) := by decide +kernel
theorem dX5_heldIn_16 : decode cX5_heldIn 16 = .ok (.iload_n 3, 1) := by decide +kernel
theorem dX5_heldIn_17 : decode cX5_heldIn 17 = .ok (.iaload, 1) := by decide +kernel
theorem dX5_heldIn_18 : decode cX5_heldIn 18 = .ok (.bipush 30, 2) := by decide +kernel
theorem dX5_heldIn_20 : decode cX5_heldIn 20 = .ok (.idiv, 1) := by decide +kernel
theorem dX5_heldIn_21 : decode cX5_heldIn 21 = .ok (.iload_n 1, 1) := by decide +kernel
theorem dX5_heldIn_22 : decode cX5_heldIn 22 = .ok (.if_icmp .ne 21, 3) := by decide +kernel
theorem dX5_heldIn_25 : decode cX5_heldIn 25 = .ok (.aload_n 0, 1) := by decide +kernel
theorem dX5_heldIn_26 : decode cX5_heldIn 26 = .ok (.getfield 28, 3) := by decide +kernel
theorem dX5_heldIn_29 : decode cX5_heldIn 29 = .ok (.iload_n 3, 1) := by decide +kernel
theorem dX5_heldIn_30 : decode cX5_heldIn 30 = .ok (.iaload, 1) := by decide +kernel
theorem dX5_heldIn_31 : decode cX5_heldIn 31 = .ok (.ifCond .ne 12, 3) := by decide +kernel
theorem dX5_heldIn_34 : decode cX5_heldIn 34 = .ok (.iload_n 2, 1) := by decide +kernel
theorem dX5_heldIn_35 : decode cX5_heldIn 35 = .ok (.aload_n 0, 1) := by decide +kernel
theorem dX5_heldIn_36 : decode cX5_heldIn 36 = .ok (.getfield 19, 3) := by decide +kernel
theorem dX5_heldIn_39 : decode cX5_heldIn 39 = .ok (.iload_n 3, 1) := by decide +kernel
theorem dX5_heldIn_40 : decode cX5_heldIn 40 = .ok (.iaload, 1) := by decide +kernel
theorem dX5_heldIn_41 : decode cX5_heldIn 41 = .ok (.iadd, 1) := by decide +kernel
theorem dX5_heldIn_42 : decode cX5_heldIn 42 = .ok (.istore_n 2, 1) := by decide +kernel
theorem dX5_heldIn_43 : decode cX5_heldIn 43 = .ok (.iinc 3 1, 3) := by decide +kernel
theorem dX5_heldIn_46 : decode cX5_heldIn 46 = .ok (.goto (-42), 3) := by decide +kernel
theorem dX5_heldIn_49 : decode cX5_heldIn 49 = .ok (.iload_n 2, 1) := by decide +kernel
theorem dX5_heldIn_50 : decode cX5_heldIn 50 = .ok (.ireturn, 1) := by decide +kernel
theorem dX5_seizedIn_0 : decode cX5_seizedIn 0 = .ok (.iconst 0, 1) := by decide +kernel
theorem dX5_seizedIn_1 : decode cX5_seizedIn 1 = .ok (.istore_n 2, 1) := by decide +kernel
theorem dX5_seizedIn_2 : decode cX5_seizedIn 2 = .ok (.iconst 0, 1) := by decide +kernel
theorem dX5_seizedIn_3 : decode cX5_seizedIn 3 = .ok (.istore_n 3, 1) := by decide +kernel
theorem dX5_seizedIn_4 : decode cX5_seizedIn 4 = .ok (.iload_n 3, 1) := by decide +kernel
theorem dX5_seizedIn_5 : decode cX5_seizedIn 5 = .ok (.aload_n 0, 1) := by decide +kernel
theorem dX5_seizedIn_6 : decode cX5_seizedIn 6 = .ok (.getfield 9, 3) := by decide +kernel
theorem dX5_seizedIn_9 : decode cX5_seizedIn 9 = .ok (.if_icmp .ge 40, 3) := by decide +kernel
theorem dX5_seizedIn_12 : decode cX5_seizedIn 12 = .ok (.aload_n 0, 1) := by decide +kernel
theorem dX5_seizedIn_13 : decode cX5_seizedIn 13 = .ok (.getfield 22, 3) := by decide +kernel
theorem dX5_seizedIn_16 : decode cX5_seizedIn 16 = .ok (.iload_n 3, 1) := by decide +kernel
theorem dX5_seizedIn_17 : decode cX5_seizedIn 17 = .ok (.iaload, 1) := by decide +kernel
theorem dX5_seizedIn_18 : decode cX5_seizedIn 18 = .ok (.bipush 30, 2) := by decide +kernel
theorem dX5_seizedIn_20 : decode cX5_seizedIn 20 = .ok (.idiv, 1) := by decide +kernel
theorem dX5_seizedIn_21 : decode cX5_seizedIn 21 = .ok (.iload_n 1, 1) := by decide +kernel
theorem dX5_seizedIn_22 : decode cX5_seizedIn 22 = .ok (.if_icmp .ne 21, 3) := by decide +kernel
theorem dX5_seizedIn_25 : decode cX5_seizedIn 25 = .ok (.aload_n 0, 1) := by decide +kernel
theorem dX5_seizedIn_26 : decode cX5_seizedIn 26 = .ok (.getfield 28, 3) := by decide +kernel
theorem dX5_seizedIn_29 : decode cX5_seizedIn 29 = .ok (.iload_n 3, 1) := by decide +kernel
theorem dX5_seizedIn_30 : decode cX5_seizedIn 30 = .ok (.iaload, 1) := by decide +kernel
theorem dX5_seizedIn_31 : decode cX5_seizedIn 31 = .ok (.ifCond .eq 12, 3) := by decide +kernel
theorem dX5_seizedIn_34 : decode cX5_seizedIn 34 = .ok (.iload_n 2, 1) := by decide +kernel
theorem dX5_seizedIn_35 : decode cX5_seizedIn 35 = .ok (.aload_n 0, 1) := by decide +kernel
theorem dX5_seizedIn_36 : decode cX5_seizedIn 36 = .ok (.getfield 19, 3) := by decide +kernel
theorem dX5_seizedIn_39 : decode cX5_seizedIn 39 = .ok (.iload_n 3, 1) := by decide +kernel
theorem dX5_seizedIn_40 : decode cX5_seizedIn 40 = .ok (.iaload, 1) := by decide +kernel
theorem dX5_seizedIn_41 : decode cX5_seizedIn 41 = .ok (.iadd, 1) := by decide +kernel
theorem dX5_seizedIn_42 : decode cX5_seizedIn 42 = .ok (.istore_n 2, 1) := by decide +kernel
theorem dX5_seizedIn_43 : decode cX5_seizedIn 43 = .ok (.iinc 3 1, 3) := by decide +kernel
theorem dX5_seizedIn_46 : decode cX5_seizedIn 46 = .ok (.goto (-42), 3) := by decide +kernel
theorem dX5_seizedIn_49 : decode cX5_seizedIn 49 = .ok (.iload_n 2, 1) := by decide +kernel
theorem dX5_seizedIn_50 : decode cX5_seizedIn 50 = .ok (.ireturn, 1) := by decide +kernel
theorem dX6_init_0 : decode cX6_init 0 = .ok (.aload_n 0, 1) := by decide +kernel
theorem dX6_init_1 : decode cX6_init 1 = .ok (.invokespecial 3, 3) := by decide +kernel
theorem dX6_init_4 : decode cX6_init 4 = .ok (.aload_n 0, 1) := by decide +kernel
theorem dX6_init_5 : decode cX6_init 5 = .ok (.bipush 34, 2) := by decide +kernel
theorem dX6_init_7 : decode cX6_init 7 = .ok (.newarray .int, 2) := by decide +kernel
theorem dX6_init_9 : decode cX6_init 9 = .ok (.putfield 9, 3) := by decide +kernel
theorem dX6_init_12 : decode cX6_init 12 = .ok (.aload_n 0, 1) := by decide +kernel
theorem dX6_init_13 : decode cX6_init 13 = .ok (.bipush 34, 2) := by decide +kernel
theorem dX6_init_15 : decode cX6_init 15 = .ok (.newarray .int, 2) := by decide +kernel
theorem dX6_init_17 : decode cX6_init 17 = .ok (.putfield 15, 3) := by decide +kernel
theorem dX6_init_20 : decode cX6_init 20 = .ok (.aload_n 0, 1) := by decide +kernel
theorem dX6_init_21 : decode cX6_init 21 = .ok (.bipush 34, 2) := by decide +kernel
theorem dX6_init_23 : decode cX6_init 23 = .ok (.newarray .int, 2) := by decide +kernel
theorem dX6_init_25 : decode cX6_init 25 = .ok (.putfield 18, 3) := by decide +kernel
theorem dX6_init_28 : decode cX6_init 28 = .ok (.return_, 1) := by decide +kernel
theorem dX6_landedOf_0 : decode cX6_landedOf 0 = .ok (.iconst 0, 1) := by decide +kernel
theorem dX6_landedOf_1 : decode cX6_landedOf 1 = .ok (.iload_n 2, 1) := by decide +kernel
theorem dX6_landedOf_2 : decode cX6_landedOf 2 = .ok (.aload_n 0, 1) := by decide +kernel
theorem dX6_landedOf_3 : decode cX6_landedOf 3 = .ok (.getfield 18, 3) := by decide +kernel
theorem dX6_landedOf_6 : decode cX6_landedOf 6 = .ok (.iload_n 1, 1) := by decide +kernel
theorem dX6_landedOf_7 : decode cX6_landedOf 7 = .ok (.iaload, 1) := by decide +kernel
theorem dX6_landedOf_8 : decode cX6_landedOf 8 = .ok (.isub, 1) := by decide +kernel
theorem dX6_landedOf_9 : decode cX6_landedOf 9 = .ok (.iload_n 3, 1) := by decide +kernel
theorem dX6_landedOf_10 : decode cX6_landedOf 10 = .ok (.isub, 1) := by decide +kernel
theorem dX6_landedOf_11 : decode cX6_landedOf 11 = .ok (.invokestatic 21, 3) := by decide +kernel
theorem dX6_landedOf_14 : decode cX6_landedOf 14 = .ok (.ireturn, 1) := by decide +kernel
theorem dX7_init_0 : decode cX7_init 0 = .ok (.aload_n 0, 1) := by decide +kernel
theorem dX7_init_1 : decode cX7_init 1 = .ok (.invokespecial 3, 3) := by decide +kernel
theorem dX7_init_4 : decode cX7_init 4 = .ok (.aload_n 0, 1) := by decide +kernel
theorem dX7_init_5 : decode cX7_init 5 = .ok (.iconst 4, 1) := by decide +kernel
theorem dX7_init_6 : decode cX7_init 6 = .ok (.bipush 30, 2) := by decide +kernel
theorem dX7_init_8 : decode cX7_init 8 = .ok (.multianewarray 9 2, 4) := by decide +kernel
theorem dX7_init_12 : decode cX7_init 12 = .ok (.putfield 11, 3) := by decide +kernel
theorem dX7_init_15 : decode cX7_init 15 = .ok (.aload_n 0, 1) := by decide +kernel
theorem dX7_init_16 : decode cX7_init 16 = .ok (.iconst 4, 1) := by decide +kernel
theorem dX7_init_17 : decode cX7_init 17 = .ok (.newarray .int, 2) := by decide +kernel
theorem dX7_init_19 : decode cX7_init 19 = .ok (.putfield 16, 3) := by decide +kernel
theorem dX7_init_22 : decode cX7_init 22 = .ok (.iconst 0, 1) := by decide +kernel
theorem dX7_init_23 : decode cX7_init 23 = .ok (.istore_n 1, 1) := by decide +kernel
theorem dX7_init_24 : decode cX7_init 24 = .ok (.iload_n 1, 1) := by decide +kernel
theorem dX7_init_25 : decode cX7_init 25 = .ok (.iconst 4, 1) := by decide +kernel
theorem dX7_init_26 : decode cX7_init 26 = .ok (.if_icmp .ge 16, 3) := by decide +kernel
theorem dX7_init_29 : decode cX7_init 29 = .ok (.aload_n 0, 1) := by decide +kernel
theorem dX7_init_30 : decode cX7_init 30 = .ok (.getfield 16, 3) := by decide +kernel
theorem dX7_init_33 : decode cX7_init 33 = .ok (.iload_n 1, 1) := by decide +kernel
theorem dX7_init_34 : decode cX7_init 34 = .ok (.iconst (-1), 1) := by decide +kernel
theorem dX7_init_35 : decode cX7_init 35 = .ok (.iastore, 1) := by decide +kernel
theorem dX7_init_36 : decode cX7_init 36 = .ok (.iinc 1 1, 3) := by decide +kernel
theorem dX7_init_39 : decode cX7_init 39 = .ok (.goto (-15), 3) := by decide +kernel
theorem dX7_init_42 : decode cX7_init 42 = .ok (.return_, 1) := by decide +kernel
theorem dX7_isMissing_0 : decode cX7_isMissing 0 = .ok (.aload_n 0, 1) := by decide +kernel
theorem dX7_isMissing_1 : decode cX7_isMissing 1 = .ok (.getfield 16, 3) := by decide +kernel
theorem dX7_isMissing_4 : decode cX7_isMissing 4 = .ok (.iload_n 1, 1) := by decide +kernel
theorem dX7_isMissing_5 : decode cX7_isMissing 5 = .ok (.iaload, 1) := by decide +kernel
theorem dX7_isMissing_6 : decode cX7_isMissing 6 = .ok (.ifCond .ge 7, 3) := by decide +kernel
theorem dX7_isMissing_9 : decode cX7_isMissing 9 = .ok (.iconst 1, 1) := by decide +kernel
theorem dX7_isMissing_10 : decode cX7_isMissing 10 = .ok (.goto 4, 3) := by decide +kernel
theorem dX7_isMissing_13 : decode cX7_isMissing 13 = .ok (.iconst 0, 1) := by decide +kernel
theorem dX7_isMissing_14 : decode cX7_isMissing 14 = .ok (.ireturn, 1) := by decide +kernel
theorem dX7_begin_0 : decode cX7_begin 0 = .ok (.aload_n 0, 1) := by decide +kernel
theorem dX7_begin_1 : decode cX7_begin 1 = .ok (.getfield 16, 3) := by decide +kernel
theorem dX7_begin_4 : decode cX7_begin 4 = .ok (.iload_n 1, 1) := by decide +kernel
theorem dX7_begin_5 : decode cX7_begin 5 = .ok (.iload_n 2, 1) := by decide +kernel
theorem dX7_begin_6 : decode cX7_begin 6 = .ok (.iastore, 1) := by decide +kernel
theorem dX7_begin_7 : decode cX7_begin 7 = .ok (.iconst 0, 1) := by decide +kernel
theorem dX7_begin_8 : decode cX7_begin 8 = .ok (.istore_n 3, 1) := by decide +kernel
theorem dX7_begin_9 : decode cX7_begin 9 = .ok (.iload_n 3, 1) := by decide +kernel
theorem dX7_begin_10 : decode cX7_begin 10 = .ok (.bipush 30, 2) := by decide +kernel
theorem dX7_begin_12 : decode cX7_begin 12 = .ok (.if_icmp .ge 18, 3) := by decide +kernel
theorem dX7_begin_15 : decode cX7_begin 15 = .ok (.aload_n 0, 1) := by decide +kernel
theorem dX7_begin_16 : decode cX7_begin 16 = .ok (.getfield 11, 3) := by decide +kernel
theorem dX7_begin_19 : decode cX7_begin 19 = .ok (.iload_n 1, 1) := by decide +kernel
theorem dX7_begin_20 : decode cX7_begin 20 = .ok (.aaload, 1) := by decide +kernel
theorem dX7_begin_21 : decode cX7_begin 21 = .ok (.iload_n 3, 1) := by decide +kernel
theorem dX7_begin_22 : decode cX7_begin 22 = .ok (.iconst 0, 1) := by decide +kernel
theorem dX7_begin_23 : decode cX7_begin 23 = .ok (.iastore, 1) := by decide +kernel
theorem dX7_begin_24 : decode cX7_begin 24 = .ok (.iinc 3 1, 3) := by decide +kernel
theorem dX7_begin_27 : decode cX7_begin 27 = .ok (.goto (-18), 3) := by decide +kernel
theorem dX7_begin_30 : decode cX7_begin 30 = .ok (.return_, 1) := by decide +kernel
theorem dX7_forget_0 : decode cX7_forget 0 = .ok (.aload_n 0, 1) := by decide +kernel
theorem dX7_forget_1 : decode cX7_forget 1 = .ok (.getfield 16, 3) := by decide +kernel
theorem dX7_forget_4 : decode cX7_forget 4 = .ok (.iload_n 1, 1) := by decide +kernel
theorem dX7_forget_5 : decode cX7_forget 5 = .ok (.iconst (-1), 1) := by decide +kernel
theorem dX7_forget_6 : decode cX7_forget 6 = .ok (.iastore, 1) := by decide +kernel
theorem dX7_forget_7 : decode cX7_forget 7 = .ok (.return_, 1) := by decide +kernel
theorem dX7_hasPlaces_0 : decode cX7_hasPlaces 0 = .ok (.iload_n 3, 1) := by decide +kernel
theorem dX7_hasPlaces_1 : decode cX7_hasPlaces 1 = .ok (.ifCond .lt 23, 3) := by decide +kernel
theorem dX7_hasPlaces_4 : decode cX7_hasPlaces 4 = .ok (.iload_n 2, 1) := by decide +kernel
theorem dX7_hasPlaces_5 : decode cX7_hasPlaces 5 = .ok (.ifCond .lt 19, 3) := by decide +kernel
theorem dX7_hasPlaces_8 : decode cX7_hasPlaces 8 = .ok (.iload_n 2, 1) := by decide +kernel
theorem dX7_hasPlaces_9 : decode cX7_hasPlaces 9 = .ok (.aload_n 0, 1) := by decide +kernel
theorem dX7_hasPlaces_10 : decode cX7_hasPlaces 10 = .ok (.getfield 16, 3) := by decide +kernel
theorem dX7_hasPlaces_13 : decode cX7_hasPlaces 13 = .ok (.iload_n 1, 1) := by decide +kernel
theorem dX7_hasPlaces_14 : decode cX7_hasPlaces 14 = .ok (.iaload, 1) := by decide +kernel
theorem dX7_hasPlaces_15 : decode cX7_hasPlaces 15 = .ok (.iload_n 3, 1) := by decide +kernel
theorem dX7_hasPlaces_16 : decode cX7_hasPlaces 16 = .ok (.isub, 1) := by decide +kernel
theorem dX7_hasPlaces_17 : decode cX7_hasPlaces 17 = .ok (.if_icmp .gt 7, 3) := by decide +kernel
theorem dX7_hasPlaces_20 : decode cX7_hasPlaces 20 = .ok (.iconst 1, 1) := by decide +kernel
theorem dX7_hasPlaces_21 : decode cX7_hasPlaces 21 = .ok (.goto 4, 3) := by decide +kernel
theorem dX7_hasPlaces_24 : decode cX7_hasPlaces 24 = .ok (.iconst 0, 1) := by decide +kernel
theorem dX7_hasPlaces_25 : decode cX7_hasPlaces 25 = .ok (.ireturn, 1) := by decide +kernel
theorem dX8_init_0 : decode cX8_init 0 = .ok (.aload_n 0, 1) := by decide +kernel
theorem dX8_init_1 : decode cX8_init 1 = .ok (.invokespecial 3, 3) := by decide +kernel
theorem dX8_init_4 : decode cX8_init 4 = .ok (.aload_n 0, 1) := by decide +kernel
theorem dX8_init_5 : decode cX8_init 5 = .ok (.iconst 0, 1) := by decide +kernel
theorem dX8_init_6 : decode cX8_init 6 = .ok (.putfield 9, 3) := by decide +kernel
theorem dX8_init_9 : decode cX8_init 9 = .ok (.aload_n 0, 1) := by decide +kernel
theorem dX8_init_10 : decode cX8_init 10 = .ok (.bipush 60, 2) := by decide +kernel
theorem dX8_init_12 : decode cX8_init 12 = .ok (.newarray .int, 2) := by decide +kernel
theorem dX8_init_14 : decode cX8_init 14 = .ok (.putfield 15, 3) := by decide +kernel
theorem dX8_init_17 : decode cX8_init 17 = .ok (.aload_n 0, 1) := by decide +kernel
theorem dX8_init_18 : decode cX8_init 18 = .ok (.bipush 60, 2) := by decide +kernel
theorem dX8_init_20 : decode cX8_init 20 = .ok (.newarray .int, 2) := by decide +kernel
theorem dX8_init_22 : decode cX8_init 22 = .ok (.putfield 19, 3) := by decide +kernel
theorem dX8_init_25 : decode cX8_init 25 = .ok (.aload_n 0, 1) := by decide +kernel
theorem dX8_init_26 : decode cX8_init 26 = .ok (.bipush 60, 2) := by decide +kernel
theorem dX8_init_28 : decode cX8_init 28 = .ok (.newarray .int, 2) := by decide +kernel
theorem dX8_init_30 : decode cX8_init 30 = .ok (.putfield 22, 3) := by decide +kernel
theorem dX8_init_33 : decode cX8_init 33 = .ok (.aload_n 0, 1) := by decide +kernel
theorem dX8_init_34 : decode cX8_init 34 = .ok (.bipush 6, 2) := by decide +kernel
theorem dX8_init_36 : decode cX8_init 36 = .ok (.newarray .int, 2) := by decide +kernel
theorem dX8_init_38 : decode cX8_init 38 = .ok (.putfield 25, 3) := by decide +kernel
theorem dX8_init_41 : decode cX8_init 41 = .ok (.aload_n 0, 1) := by decide +kernel
theorem dX8_init_42 : decode cX8_init 42 = .ok (.bipush 6, 2) := by decide +kernel
theorem dX8_init_44 : decode cX8_init 44 = .ok (.newarray .int, 2) := by decide +kernel
theorem dX8_init_46 : decode cX8_init 46 = .ok (.putfield 28, 3) := by decide +kernel
theorem dX8_init_49 : decode cX8_init 49 = .ok (.return_, 1) := by decide +kernel
theorem dX8_add_0 : decode cX8_add 0 = .ok (.aload_n 0, 1) := by decide +kernel
theorem dX8_add_1 : decode cX8_add 1 = .ok (.getfield 9, 3) := by decide +kernel
theorem dX8_add_4 : decode cX8_add 4 = .ok (.istore 4, 2) := by decide +kernel
theorem dX8_add_6 : decode cX8_add 6 = .ok (.iload 4, 2) := by decide +kernel
theorem dX8_add_8 : decode cX8_add 8 = .ok (.bipush 60, 2) := by decide +kernel
theorem dX8_add_10 : decode cX8_add 10 = .ok (.if_icmp .lt 5, 3) := by decide +kernel
theorem dX8_add_13 : decode cX8_add 13 = .ok (.iconst (-1), 1) := by decide +kernel
theorem dX8_add_14 : decode cX8_add 14 = .ok (.ireturn, 1) := by decide +kernel
theorem dX8_add_15 : decode cX8_add 15 = .ok (.aload_n 0, 1) := by decide +kernel
theorem dX8_add_16 : decode cX8_add 16 = .ok (.getfield 15, 3) := by decide +kernel
theorem dX8_add_19 : decode cX8_add 19 = .ok (.iload 4, 2) := by decide +kernel
theorem dX8_add_21 : decode cX8_add 21 = .ok (.iload_n 1, 1) := by decide +kernel
theorem dX8_add_22 : decode cX8_add 22 = .ok (.iastore, 1) := by decide +kernel
theorem dX8_add_23 : decode cX8_add 23 = .ok (.aload_n 0, 1) := by decide +kernel
theorem dX8_add_24 : decode cX8_add 24 = .ok (.getfield 19, 3) := by decide +kernel
theorem dX8_add_27 : decode cX8_add 27 = .ok (.iload 4, 2) := by decide +kernel
theorem dX8_add_29 : decode cX8_add 29 = .ok (.iload_n 2, 1) := by decide +kernel
theorem dX8_add_30 : decode cX8_add 30 = .ok (.iastore, 1) := by decide +kernel
theorem dX8_add_31 : decode cX8_add 31 = .ok (.aload_n 0, 1) := by decide +kernel
theorem dX8_add_32 : decode cX8_add 32 = .ok (.getfield 22, 3) := by decide +kernel
theorem dX8_add_35 : decode cX8_add 35 = .ok (.iload 4, 2) := by decide +kernel
theorem dX8_add_37 : decode cX8_add 37 = .ok (.iload_n 3, 1) := by decide +kernel
theorem dX8_add_38 : decode cX8_add 38 = .ok (.iastore, 1) := by decide +kernel
theorem dX8_add_39 : decode cX8_add 39 = .ok (.aload_n 0, 1) := by decide +kernel
theorem dX8_add_40 : decode cX8_add 40 = .ok (.iload 4, 2) := by decide +kernel
theorem dX8_add_42 : decode cX8_add 42 = .ok (.iconst 1, 1) := by decide +kernel
theorem dX8_add_43 : decode cX8_add 43 = .ok (.iadd, 1) := by decide +kernel
theorem dX8_add_44 : decode cX8_add 44 = .ok (.putfield 9, 3) := by decide +kernel
theorem dX8_add_47 : decode cX8_add 47 = .ok (.iload 4, 2) := by decide +kernel
theorem dX8_add_49 : decode cX8_add 49 = .ok (.ireturn, 1) := by decide +kernel
theorem dX8_names_0 : decode cX8_names 0 = .ok (.aload_n 0, 1) := by decide +kernel
theorem dX8_names_1 : decode cX8_names 1 = .ok (.getfield 19, 3) := by decide +kernel
theorem dX8_names_4 : decode cX8_names 4 = .ok (.iload_n 1, 1) := by decide +kernel
theorem dX8_names_5 : decode cX8_names 5 = .ok (.iaload, 1) := by decide +kernel
theorem dX8_names_6 : decode cX8_names 6 = .ok (.iload_n 2, 1) := by decide +kernel
theorem dX8_names_7 : decode cX8_names 7 = .ok (.if_icmp .ne 17, 3) := by decide +kernel
theorem dX8_names_10 : decode cX8_names 10 = .ok (.aload_n 0, 1) := by decide +kernel
theorem dX8_names_11 : decode cX8_names 11 = .ok (.getfield 22, 3) := by decide +kernel
theorem dX8_names_14 : decode cX8_names 14 = .ok (.iload_n 1, 1) := by decide +kernel
theorem dX8_names_15 : decode cX8_names 15 = .ok (.iaload, 1) := by decide +kernel
theorem dX8_names_16 : decode cX8_names 16 = .ok (.iload_n 3, 1) := by decide +kernel
theorem dX8_names_17 : decode cX8_names 17 = .ok (.if_icmp .ne 7, 3) := by decide +kernel
theorem dX8_names_20 : decode cX8_names 20 = .ok (.iconst 1, 1) := by decide +kernel
theorem dX8_names_21 : decode cX8_names 21 = .ok (.goto 4, 3) := by decide +kernel
theorem dX8_names_24 : decode cX8_names 24 = .ok (.iconst 0, 1) := by decide +kernel
theorem dX8_names_25 : decode cX8_names 25 = .ok (.ireturn, 1) := by decide +kernel
set_option maxRecDepth 20000 in
theorem ggX8_isToldBy_X8_names : GoodIn wsX8_isToldBy wsX8_names := goodIn_r _ [7, 8, 9, 10, 11, 12, 13, 14, 15] (by decide +kernel) (by decide +kernel)
set_option maxRecDepth 20000 in
theorem gX8_isToldBy_X8_names : GoodIn wsX8_isToldBy (wsV RX8 31 RX8 yX8_names wsX8_names) := goodIn_app (goodIn_of _ (by decide +kernel)) ggX8_isToldBy_X8_names
theorem dX8_isToldBy_0 : decode cX8_isToldBy 0 = .ok (.iconst 0, 1) := by decide +kernel
theorem dX8_isToldBy_1 : decode cX8_isToldBy 1 = .ok (.istore 4, 2) := by decide +kernel
theorem dX8_isToldBy_3 : decode cX8_isToldBy 3 = .ok (.iload 4, 2) := by decide +kernel
theorem dX8_isToldBy_5 : decode cX8_isToldBy 5 = .ok (.aload_n 0, 1) := by decide +kernel
theorem dX8_isToldBy_6 : decode cX8_isToldBy 6 = .ok (.getfield 9, 3) := by decide +kernel
theorem dX8_isToldBy_9 : decode cX8_isToldBy 9 = .ok (.if_icmp .ge 33, 3) := by decide +kernel
theorem dX8_isToldBy_12 : decode cX8_isToldBy 12 = .ok (.aload_n 0, 1) := by decide +kernel
theorem dX8_isToldBy_13 : decode cX8_isToldBy 13 = .ok (.getfield 15, 3) := by decide +kernel
theorem dX8_isToldBy_16 : decode cX8_isToldBy 16 = .ok (.iload 4, 2) := by decide +kernel
theorem dX8_isToldBy_18 : decode cX8_isToldBy 18 = .ok (.iaload, 1) := by decide +kernel
theorem dX8_isToldBy_19 : decode cX8_isToldBy 19 = .ok (.iload_n 1, 1) := by decide +kernel
theorem dX8_isToldBy_20 : decode cX8_isToldBy 20 = .ok (.if_icmp .ne 16, 3) := by decide +kernel
theorem dX8_isToldBy_23 : decode cX8_isToldBy 23 = .ok (.aload_n 0, 1) := by decide +kernel
theorem dX8_isToldBy_24 : decode cX8_isToldBy 24 = .ok (.iload 4, 2) := by decide +kernel
theorem dX8_isToldBy_26 : decode cX8_isToldBy 26 = .ok (.iload_n 2, 1) := by decide +kernel
theorem dX8_isToldBy_27 : decode cX8_isToldBy 27 = .ok (.iload_n 3, 1) := by decide +kernel
theorem dX8_isToldBy_28 : decode cX8_isToldBy 28 = .ok (.invokevirtual 31, 3) := by decide +kernel
theorem dX8_isToldBy_31 : decode cX8_isToldBy 31 = .ok (.ifCond .eq 5, 3) := by decide +kernel
theorem dX8_isToldBy_34 : decode cX8_isToldBy 34 = .ok (.iconst 1, 1) := by decide +kernel
theorem dX8_isToldBy_35 : decode cX8_isToldBy 35 = .ok (.ireturn, 1) := by decide +kernel
theorem dX8_isToldBy_36 : decode cX8_isToldBy 36 = .ok (.iinc 4 1, 3) := by decide +kernel
theorem dX8_isToldBy_39 : decode cX8_isToldBy 39 = .ok (.goto (-36), 3) := by decide +kernel
theorem dX8_isToldBy_42 : decode cX8_isToldBy 42 = .ok (.iconst 0, 1) := by decide +kernel
theorem dX8_isToldBy_43 : decode cX8_isToldBy 43 = .ok (.ireturn, 1) := by decide +kernel
set_option maxRecDepth 20000 in
theorem ggX8_firstInformer_X8_names : GoodIn wsX8_firstInformer wsX8_names := goodIn_r _ [7, 8, 9, 10, 11, 12, 13, 14, 15] (by decide +kernel) (by decide +kernel)
set_option maxRecDepth 20000 in
theorem gX8_firstInformer_X8_names : GoodIn wsX8_firstInformer (wsV RX8 31 RX8 yX8_names wsX8_names) := goodIn_app (goodIn_of _ (by decide +kernel)) ggX8_firstInformer_X8_names
theorem dX8_firstInformer_0 : decode cX8_firstInformer 0 = .ok (.iconst 0, 1) := by decide +kernel
theorem dX8_firstInformer_1 : decode cX8_firstInformer 1 = .ok (.istore_n 3, 1) := by decide +kernel
theorem dX8_firstInformer_2 : decode cX8_firstInformer 2 = .ok (.iload_n 3, 1) := by decide +kernel
theorem dX8_firstInformer_3 : decode cX8_firstInformer 3 = .ok (.aload_n 0, 1) := by decide +kernel
theorem dX8_firstInformer_4 : decode cX8_firstInformer 4 = .ok (.getfield 9, 3) := by decide +kernel
theorem dX8_firstInformer_7 : decode cX8_firstInformer 7 = .ok (.if_icmp .ge 26, 3) := by decide +kernel
theorem dX8_firstInformer_10 : decode cX8_firstInformer 10 = .ok (.aload_n 0, 1) := by decide +kernel
theorem dX8_firstInformer_11 : decode cX8_firstInformer 11 = .ok (.iload_n 3, 1) := by decide +kernel
theorem dX8_firstInformer_12 : decode cX8_firstInformer 12 = .ok (.iload_n 1, 1) := by decide +kernel
theorem dX8_firstInformer_13 : decode cX8_firstInformer 13 = .ok (.iload_n 2, 1) := by decide +kernel
theorem dX8_firstInformer_14 : decode cX8_firstInformer 14 = .ok (.invokevirtual 31, 3) := by decide +kernel
theorem dX8_firstInformer_17 : decode cX8_firstInformer 17 = .ok (.ifCond .eq 10, 3) := by decide +kernel
theorem dX8_firstInformer_20 : decode cX8_firstInformer 20 = .ok (.aload_n 0, 1) := by decide +kernel
theorem dX8_firstInformer_21 : decode cX8_firstInformer 21 = .ok (.getfield 15, 3) := by decide +kernel
theorem dX8_firstInformer_24 : decode cX8_firstInformer 24 = .ok (.iload_n 3, 1) := by decide +kernel
theorem dX8_firstInformer_25 : decode cX8_firstInformer 25 = .ok (.iaload, 1) := by decide +kernel
theorem dX8_firstInformer_26 : decode cX8_firstInformer 26 = .ok (.ireturn, 1) := by decide +kernel
theorem dX8_firstInformer_27 : decode cX8_firstInformer 27 = .ok (.iinc 3 1, 3) := by decide +kernel
theorem dX8_firstInformer_30 : decode cX8_firstInformer 30 = .ok (.goto (-28), 3) := by decide +kernel
theorem dX8_firstInformer_33 : decode cX8_firstInformer 33 = .ok (.iconst (-1), 1) := by decide +kernel
theorem dX8_firstInformer_34 : decode cX8_firstInformer 34 = .ok (.ireturn, 1) := by decide +kernel
theorem dX8_prove_0 : decode cX8_prove 0 = .ok (.iload_n 2, 1) := by decide +kernel
theorem dX8_prove_1 : decode cX8_prove 1 = .ok (.ifCond .eq 21, 3) := by decide +kernel
theorem dX8_prove_4 : decode cX8_prove 4 = .ok (.aload_n 0, 1) := by decide +kernel
theorem dX8_prove_5 : decode cX8_prove 5 = .ok (.getfield 25, 3) := by decide +kernel
theorem dX8_prove_8 : decode cX8_prove 8 = .ok (.aload_n 0, 1) := by decide +kernel
theorem dX8_prove_9 : decode cX8_prove 9 = .ok (.getfield 15, 3) := by decide +kernel
theorem dX8_prove_12 : decode cX8_prove 12 = .ok (.iload_n 1, 1) := by decide +kernel
theorem dX8_prove_13 : decode cX8_prove 13 = .ok (.iaload, 1) := by decide +kernel
theorem dX8_prove_14 : decode cX8_prove 14 = .ok (.dup2, 1) := by decide +kernel
theorem dX8_prove_15 : decode cX8_prove 15 = .ok (.iaload, 1) := by decide +kernel
theorem dX8_prove_16 : decode cX8_prove 16 = .ok (.iconst 1, 1) := by decide +kernel
theorem dX8_prove_17 : decode cX8_prove 17 = .ok (.iadd, 1) := by decide +kernel
theorem dX8_prove_18 : decode cX8_prove 18 = .ok (.iastore, 1) := by decide +kernel
theorem dX8_prove_19 : decode cX8_prove 19 = .ok (.goto 18, 3) := by decide +kernel
theorem dX8_prove_22 : decode cX8_prove 22 = .ok (.aload_n 0, 1) := by decide +kernel
theorem dX8_prove_23 : decode cX8_prove 23 = .ok (.getfield 28, 3) := by decide +kernel
theorem dX8_prove_26 : decode cX8_prove 26 = .ok (.aload_n 0, 1) := by decide +kernel
theorem dX8_prove_27 : decode cX8_prove 27 = .ok (.getfield 15, 3) := by decide +kernel
theorem dX8_prove_30 : decode cX8_prove 30 = .ok (.iload_n 1, 1) := by decide +kernel
theorem dX8_prove_31 : decode cX8_prove 31 = .ok (.iaload, 1) := by decide +kernel
theorem dX8_prove_32 : decode cX8_prove 32 = .ok (.dup2, 1) := by decide +kernel
theorem dX8_prove_33 : decode cX8_prove 33 = .ok (.iaload, 1) := by decide +kernel
theorem dX8_prove_34 : decode cX8_prove 34 = .ok (.iconst 1, 1) := by decide +kernel
theorem dX8_prove_35 : decode cX8_prove 35 = .ok (.iadd, 1) := by decide +kernel
theorem dX8_prove_36 : decode cX8_prove 36 = .ok (.iastore, 1) := by decide +kernel
theorem dX8_prove_37 : decode cX8_prove 37 = .ok (.return_, 1) := by decide +kernel
theorem dX8_provedOf_0 : decode cX8_provedOf 0 = .ok (.aload_n 0, 1) := by decide +kernel
theorem dX8_provedOf_1 : decode cX8_provedOf 1 = .ok (.getfield 25, 3) := by decide +kernel
theorem dX8_provedOf_4 : decode cX8_provedOf 4 = .ok (.iload_n 1, 1) := by decide +kernel
theorem dX8_provedOf_5 : decode cX8_provedOf 5 = .ok (.iaload, 1) := by decide +kernel
theorem dX8_provedOf_6 : decode cX8_provedOf 6 = .ok (.aload_n 0, 1) := by decide +kernel
theorem dX8_provedOf_7 : decode cX8_provedOf 7 = .ok (.getfield 28, 3) := by decide +kernel
theorem dX8_provedOf_10 : decode cX8_provedOf 10 = .ok (.iload_n 1, 1) := by decide +kernel
theorem dX8_provedOf_11 : decode cX8_provedOf 11 = .ok (.iaload, 1) := by decide +kernel
theorem dX8_provedOf_12 : decode cX8_provedOf 12 = .ok (.iadd, 1) := by decide +kernel
theorem dX8_provedOf_13 : decode cX8_provedOf 13 = .ok (.ireturn, 1) := by decide +kernel
theorem dX8_rightOnes_0 : decode cX8_rightOnes 0 = .ok (.iconst 0, 1) := by decide +kernel
theorem dX8_rightOnes_1 : decode cX8_rightOnes 1 = .ok (.istore_n 1, 1) := by decide +kernel
theorem dX8_rightOnes_2 : decode cX8_rightOnes 2 = .ok (.iconst 0, 1) := by decide +kernel
theorem dX8_rightOnes_3 : decode cX8_rightOnes 3 = .ok (.istore_n 2, 1) := by decide +kernel
theorem dX8_rightOnes_4 : decode cX8_rightOnes 4 = .ok (.iload_n 2, 1) := by decide +kernel
theorem dX8_rightOnes_5 : decode cX8_rightOnes 5 = .ok (.bipush 6, 2) := by decide +kernel
theorem dX8_rightOnes_7 : decode cX8_rightOnes 7 = .ok (.if_icmp .ge 18, 3) := by decide +kernel
theorem dX8_rightOnes_10 : decode cX8_rightOnes 10 = .ok (.iload_n 1, 1) := by decide +kernel
theorem dX8_rightOnes_11 : decode cX8_rightOnes 11 = .ok (.aload_n 0, 1) := by decide +kernel
theorem dX8_rightOnes_12 : decode cX8_rightOnes 12 = .ok (.getfield 25, 3) := by decide +kernel
theorem dX8_rightOnes_15 : decode cX8_rightOnes 15 = .ok (.iload_n 2, 1) := by decide +kernel
theorem dX8_rightOnes_16 : decode cX8_rightOnes 16 = .ok (.iaload, 1) := by decide +kernel
theorem dX8_rightOnes_17 : decode cX8_rightOnes 17 = .ok (.iadd, 1) := by decide +kernel
theorem dX8_rightOnes_18 : decode cX8_rightOnes 18 = .ok (.istore_n 1, 1) := by decide +kernel
theorem dX8_rightOnes_19 : decode cX8_rightOnes 19 = .ok (.iinc 2 1, 3) := by decide +kernel
theorem dX8_rightOnes_22 : decode cX8_rightOnes 22 = .ok (.goto (-18), 3) := by decide +kernel
theorem dX8_rightOnes_25 : decode cX8_rightOnes 25 = .ok (.iload_n 1, 1) := by decide +kernel
theorem dX8_rightOnes_26 : decode cX8_rightOnes 26 = .ok (.ireturn, 1) := by decide +kernel
theorem dX8_wrongOnes_0 : decode cX8_wrongOnes 0 = .ok (.iconst 0, 1) := by decide +kernel
theorem dX8_wrongOnes_1 : decode cX8_wrongOnes 1 = .ok (.istore_n 1, 1) := by decide +kernel
theorem dX8_wrongOnes_2 : decode cX8_wrongOnes 2 = .ok (.iconst 0, 1) := by decide +kernel
theorem dX8_wrongOnes_3 : decode cX8_wrongOnes 3 = .ok (.istore_n 2, 1) := by decide +kernel
theorem dX8_wrongOnes_4 : decode cX8_wrongOnes 4 = .ok (.iload_n 2, 1) := by decide +kernel
theorem dX8_wrongOnes_5 : decode cX8_wrongOnes 5 = .ok (.bipush 6, 2) := by decide +kernel
theorem dX8_wrongOnes_7 : decode cX8_wrongOnes 7 = .ok (.if_icmp .ge 18, 3) := by decide +kernel
theorem dX8_wrongOnes_10 : decode cX8_wrongOnes 10 = .ok (.iload_n 1, 1) := by decide +kernel
theorem dX8_wrongOnes_11 : decode cX8_wrongOnes 11 = .ok (.aload_n 0, 1) := by decide +kernel
theorem dX8_wrongOnes_12 : decode cX8_wrongOnes 12 = .ok (.getfield 28, 3) := by decide +kernel
theorem dX8_wrongOnes_15 : decode cX8_wrongOnes 15 = .ok (.iload_n 2, 1) := by decide +kernel
theorem dX8_wrongOnes_16 : decode cX8_wrongOnes 16 = .ok (.iaload, 1) := by decide +kernel
theorem dX8_wrongOnes_17 : decode cX8_wrongOnes 17 = .ok (.iadd, 1) := by decide +kernel
theorem dX8_wrongOnes_18 : decode cX8_wrongOnes 18 = .ok (.istore_n 1, 1) := by decide +kernel
theorem dX8_wrongOnes_19 : decode cX8_wrongOnes 19 = .ok (.iinc 2 1, 3) := by decide +kernel
theorem dX8_wrongOnes_22 : decode cX8_wrongOnes 22 = .ok (.goto (-18), 3) := by decide +kernel
theorem dX8_wrongOnes_25 : decode cX8_wrongOnes 25 = .ok (.iload_n 1, 1) := by decide +kernel
theorem dX8_wrongOnes_26 : decode cX8_wrongOnes 26 = .ok (.ireturn, 1) := by decide +kernel
set_option maxRecDepth 20000 in
theorem ggX8_doubtAbove_X8_names : GoodIn wsX8_doubtAbove wsX8_names := goodIn_r _ [8, 9, 10, 11, 12, 13, 14, 15, 16] (by decide +kernel) (by decide +kernel)
set_option maxRecDepth 20000 in
theorem gX8_doubtAbove_X8_names : GoodIn wsX8_doubtAbove (wsV RX8 31 RX8 yX8_names wsX8_names) := goodIn_app (goodIn_of _ (by decide +kernel)) ggX8_doubtAbove_X8_names
theorem dX8_doubtAbove_0 : decode cX8_doubtAbove 0 = .ok (.lconst 1, 1) := by decide +kernel
theorem dX8_doubtAbove_1 : decode cX8_doubtAbove 1 = .ok (.lstore_n 3, 1) := by decide +kernel
theorem dX8_doubtAbove_2 : decode cX8_doubtAbove 2 = .ok (.iconst 0, 1) := by decide +kernel
theorem dX8_doubtAbove_3 : decode cX8_doubtAbove 3 = .ok (.istore 5, 2) := by decide +kernel
theorem dX8_doubtAbove_5 : decode cX8_doubtAbove 5 = .ok (.iload 5, 2) := by decide +kernel
theorem dX8_doubtAbove_7 : decode cX8_doubtAbove 7 = .ok (.aload_n 0, 1) := by decide +kernel
theorem dX8_doubtAbove_8 : decode cX8_doubtAbove 8 = .ok (.getfield 9, 3) := by decide +kernel
theorem dX8_doubtAbove_11 : decode cX8_doubtAbove 11 = .ok (.if_icmp .ge 38, 3) := by decide +kernel
theorem dX8_doubtAbove_14 : decode cX8_doubtAbove 14 = .ok (.aload_n 0, 1) := by decide +kernel
theorem dX8_doubtAbove_15 : decode cX8_doubtAbove 15 = .ok (.iload 5, 2) := by decide +kernel
theorem dX8_doubtAbove_17 : decode cX8_doubtAbove 17 = .ok (.iload_n 1, 1) := by decide +kernel
theorem dX8_doubtAbove_18 : decode cX8_doubtAbove 18 = .ok (.iload_n 2, 1) := by decide +kernel
theorem dX8_doubtAbove_19 : decode cX8_doubtAbove 19 = .ok (.invokevirtual 31, 3) := by decide +kernel
theorem dX8_doubtAbove_22 : decode cX8_doubtAbove 22 = .ok (.ifCond .eq 21, 3) := by decide +kernel
theorem dX8_doubtAbove_25 : decode cX8_doubtAbove 25 = .ok (.lload_n 3, 1) := by decide +kernel
theorem dX8_doubtAbove_26 : decode cX8_doubtAbove 26 = .ok (.aload_n 0, 1) := by decide +kernel
theorem dX8_doubtAbove_27 : decode cX8_doubtAbove 27 = .ok (.getfield 28, 3) := by decide +kernel
theorem dX8_doubtAbove_30 : decode cX8_doubtAbove 30 = .ok (.aload_n 0, 1) := by decide +kernel
theorem dX8_doubtAbove_31 : decode cX8_doubtAbove 31 = .ok (.getfield 15, 3) := by decide +kernel
theorem dX8_doubtAbove_34 : decode cX8_doubtAbove 34 = .ok (.iload 5, 2) := by decide +kernel
theorem dX8_doubtAbove_36 : decode cX8_doubtAbove 36 = .ok (.iaload, 1) := by decide +kernel
theorem dX8_doubtAbove_37 : decode cX8_doubtAbove 37 = .ok (.iaload, 1) := by decide +kernel
theorem dX8_doubtAbove_38 : decode cX8_doubtAbove 38 = .ok (.iconst 1, 1) := by decide +kernel
theorem dX8_doubtAbove_39 : decode cX8_doubtAbove 39 = .ok (.iadd, 1) := by decide +kernel
theorem dX8_doubtAbove_40 : decode cX8_doubtAbove 40 = .ok (.i2l, 1) := by decide +kernel
theorem dX8_doubtAbove_41 : decode cX8_doubtAbove 41 = .ok (.lmul, 1) := by decide +kernel
theorem dX8_doubtAbove_42 : decode cX8_doubtAbove 42 = .ok (.lstore_n 3, 1) := by decide +kernel
theorem dX8_doubtAbove_43 : decode cX8_doubtAbove 43 = .ok (.iinc 5 1, 3) := by decide +kernel
theorem dX8_doubtAbove_46 : decode cX8_doubtAbove 46 = .ok (.goto (-41), 3) := by decide +kernel
theorem dX8_doubtAbove_49 : decode cX8_doubtAbove 49 = .ok (.lload_n 3, 1) := by decide +kernel
theorem dX8_doubtAbove_50 : decode cX8_doubtAbove 50 = .ok (.lreturn, 1) := by decide +kernel
set_option maxRecDepth 20000 in
theorem ggX8_doubtBelow_X8_names : GoodIn wsX8_doubtBelow wsX8_names := goodIn_r _ [7, 8, 9, 16, 17, 18, 19, 20, 21] (by decide +kernel) (by decide +kernel)
set_option maxRecDepth 20000 in
theorem gX8_doubtBelow_X8_names : GoodIn wsX8_doubtBelow (wsV RX8 31 RX8 yX8_names wsX8_names) := goodIn_app (goodIn_of _ (by decide +kernel)) ggX8_doubtBelow_X8_names
set_option maxRecDepth 20000 in
theorem ggX8_doubtBelow_X8_provedOf : GoodIn wsX8_doubtBelow wsX8_provedOf := goodIn_r _ [13, 14, 15, 16, 17, 18, 19, 20, 21] (by decide +kernel) (by decide +kernel)
set_option maxRecDepth 20000 in
theorem gX8_doubtBelow_X8_provedOf : GoodIn wsX8_doubtBelow (wsV RX8 35 RX8 yX8_provedOf wsX8_provedOf) := goodIn_app (goodIn_of _ (by decide +kernel)) ggX8_doubtBelow_X8_provedOf
theorem dX8_doubtBelow_0 : decode cX8_doubtBelow 0 = .ok (.lconst 1, 1) := by decide +kernel
theorem dX8_doubtBelow_1 : decode cX8_doubtBelow 1 = .ok (.lstore_n 3, 1) := by decide +kernel
theorem dX8_doubtBelow_2 : decode cX8_doubtBelow 2 = .ok (.iconst 0, 1) := by decide +kernel
theorem dX8_doubtBelow_3 : decode cX8_doubtBelow 3 = .ok (.istore 5, 2) := by decide +kernel
theorem dX8_doubtBelow_5 : decode cX8_doubtBelow 5 = .ok (.iload 5, 2) := by decide +kernel
theorem dX8_doubtBelow_7 : decode cX8_doubtBelow 7 = .ok (.aload_n 0, 1) := by decide +kernel
theorem dX8_doubtBelow_8 : decode cX8_doubtBelow 8 = .ok (.getfield 9, 3) := by decide +kernel
theorem dX8_doubtBelow_11 : decode cX8_doubtBelow 11 = .ok (.if_icmp .ge 37, 3) := by decide +kernel
theorem dX8_doubtBelow_14 : decode cX8_doubtBelow 14 = .ok (.aload_n 0, 1) := by decide +kernel
theorem dX8_doubtBelow_15 : decode cX8_doubtBelow 15 = .ok (.iload 5, 2) := by decide +kernel
theorem dX8_doubtBelow_17 : decode cX8_doubtBelow 17 = .ok (.iload_n 1, 1) := by decide +kernel
theorem dX8_doubtBelow_18 : decode cX8_doubtBelow 18 = .ok (.iload_n 2, 1) := by decide +kernel
theorem dX8_doubtBelow_19 : decode cX8_doubtBelow 19 = .ok (.invokevirtual 31, 3) := by decide +kernel
theorem dX8_doubtBelow_22 : decode cX8_doubtBelow 22 = .ok (.ifCond .eq 20, 3) := by decide +kernel
theorem dX8_doubtBelow_25 : decode cX8_doubtBelow 25 = .ok (.lload_n 3, 1) := by decide +kernel
theorem dX8_doubtBelow_26 : decode cX8_doubtBelow 26 = .ok (.aload_n 0, 1) := by decide +kernel
theorem dX8_doubtBelow_27 : decode cX8_doubtBelow 27 = .ok (.aload_n 0, 1) := by decide +kernel
theorem dX8_doubtBelow_28 : decode cX8_doubtBelow 28 = .ok (.getfield 15, 3) := by decide +kernel
theorem dX8_doubtBelow_31 : decode cX8_doubtBelow 31 = .ok (.iload 5, 2) := by decide +kernel
theorem dX8_doubtBelow_33 : decode cX8_doubtBelow 33 = .ok (.iaload, 1) := by decide +kernel
theorem dX8_doubtBelow_34 : decode cX8_doubtBelow 34 = .ok (.invokevirtual 35, 3) := by decide +kernel
theorem dX8_doubtBelow_37 : decode cX8_doubtBelow 37 = .ok (.iconst 2, 1) := by decide +kernel
theorem dX8_doubtBelow_38 : decode cX8_doubtBelow 38 = .ok (.iadd, 1) := by decide +kernel
theorem dX8_doubtBelow_39 : decode cX8_doubtBelow 39 = .ok (.i2l, 1) := by decide +kernel
theorem dX8_doubtBelow_40 : decode cX8_doubtBelow 40 = .ok (.lmul, 1) := by decide +kernel
theorem dX8_doubtBelow_41 : decode cX8_doubtBelow 41 = .ok (.lstore_n 3, 1) := by decide +kernel
theorem dX8_doubtBelow_42 : decode cX8_doubtBelow 42 = .ok (.iinc 5 1, 3) := by decide +kernel
theorem dX8_doubtBelow_45 : decode cX8_doubtBelow 45 = .ok (.goto (-40), 3) := by decide +kernel
theorem dX8_doubtBelow_48 : decode cX8_doubtBelow 48 = .ok (.lload_n 3, 1) := by decide +kernel
theorem dX8_doubtBelow_49 : decode cX8_doubtBelow 49 = .ok (.lreturn, 1) := by decide +kernel
set_option maxRecDepth 20000 in
theorem ggX9_init_X7_init : GoodIn wsX9_init wsX7_init := goodIn_r _ [49, 50, 2, 3, 51, 8, 52, 53, 143, 144] (by decide +kernel) (by decide +kernel)
set_option maxRecDepth 20000 in
theorem gX9_init_X7_init : GoodIn wsX9_init (wsX7_init) := ggX9_init_X7_init
set_option maxRecDepth 20000 in
theorem ggX9_init_X1_init : GoodIn wsX9_init wsX1_init := goodIn_r _ [56, 57, 2, 3, 8, 58, 59, 60, 61, 62, 63, 64, 65, 145, 146, 147, 148, 149, 150, 151] (by decide +kernel) (by decide +kernel)
set_option maxRecDepth 20000 in
theorem gX9_init_X1_init : GoodIn wsX9_init (wsX1_init) := ggX9_init_X1_init
set_option maxRecDepth 20000 in
theorem ggX9_init_X0_init : GoodIn wsX9_init wsX0_init := goodIn_r _ [67, 68, 2, 3, 69, 8, 70, 71, 72, 73, 74, 75, 76, 77, 78, 152, 153, 154, 155, 156, 157, 158, 159, 160] (by decide +kernel) (by decide +kernel)
set_option maxRecDepth 20000 in
theorem gX9_init_X0_init_n45 : GoodIn wsX9_init (wsX0_init) := ggX9_init_X0_init
set_option maxRecDepth 20000 in
theorem ggX9_init_X3_init : GoodIn wsX9_init wsX3_init := goodIn_r _ [80, 81, 2, 3, 82, 8, 83, 84, 85, 86, 87, 88, 89, 161, 162, 163, 164, 165, 166, 167] (by decide +kernel) (by decide +kernel)
set_option maxRecDepth 20000 in
theorem gX9_init_X3_init_n52 : GoodIn wsX9_init (wsX3_init) := ggX9_init_X3_init
set_option maxRecDepth 20000 in
theorem ggX9_init_X5_init : GoodIn wsX9_init wsX5_init := goodIn_r _ [91, 92, 2, 3, 93, 8, 94, 95, 96, 97, 98, 99, 168, 169, 170, 171, 172, 173, 174] (by decide +kernel) (by decide +kernel)
set_option maxRecDepth 20000 in
theorem gX9_init_X5_init_n59 : GoodIn wsX9_init (wsX5_init) := ggX9_init_X5_init
set_option maxRecDepth 20000 in
theorem ggX9_init_X4_init : GoodIn wsX9_init wsX4_init := goodIn_r _ [101, 102, 2, 3, 103, 8, 104, 105, 106, 175, 176, 177, 178] (by decide +kernel) (by decide +kernel)
set_option maxRecDepth 20000 in
theorem gX9_init_X4_init_n66 : GoodIn wsX9_init (wsX4_init) := ggX9_init_X4_init
set_option maxRecDepth 20000 in
theorem ggX9_init_X8_init : GoodIn wsX9_init wsX8_init := goodIn_r _ [108, 109, 2, 3, 110, 8, 111, 112, 113, 114, 115, 179, 180, 181, 182, 183, 184] (by decide +kernel) (by decide +kernel)
set_option maxRecDepth 20000 in
theorem gX9_init_X8_init_n73 : GoodIn wsX9_init (wsX8_init) := ggX9_init_X8_init
set_option maxRecDepth 20000 in
theorem ggX9_init_X6_init : GoodIn wsX9_init wsX6_init := goodIn_r _ [117, 118, 2, 3, 8, 119, 120, 121, 185, 186, 187] (by decide +kernel) (by decide +kernel)
set_option maxRecDepth 20000 in
theorem gX9_init_X6_init_n80 : GoodIn wsX9_init (wsX6_init) := ggX9_init_X6_init
set_option maxRecDepth 20000 in
theorem ggX9_init_X2_init : GoodIn wsX9_init wsX2_init := goodIn_r _ [123, 124, 2, 3, 8, 125, 126, 127, 188, 189, 190] (by decide +kernel) (by decide +kernel)
set_option maxRecDepth 20000 in
theorem gX9_init_X2_init_n87 : GoodIn wsX9_init (wsX2_init) := ggX9_init_X2_init
end
section
/-! the generic layer: states as numbered functions, loops as a least fixed point, worlds, calls, entries -/
abbrev gS : Type := (Nat → Int32) × (Nat → Nat → Int32) × (Nat → Int64) × (Nat → Int64)
def gi (S : gS) (k : Nat) : Int32 := S.1 k
def ga (S : gS) (k : Nat) : Nat → Int32 := S.2.1 k
def gl (S : gS) (k : Nat) : Int64 := S.2.2.1 k
def gc (S : gS) : Nat → Int64 := S.2.2.2
def sI (S : gS) (k : Nat) (v : Int32) : gS := (fun j => if j = k then v else S.1 j, S.2)
def sA (S : gS) (k : Nat) (f : Nat → Int32) : gS := (S.1, fun j => if j = k then f else S.2.1 j, S.2.2)
def sL (S : gS) (k : Nat) (v : Int64) : gS := (S.1, S.2.1, fun j => if j = k then v else S.2.2.1 j, S.2.2.2)
def sC (S : gS) (f : Nat → Int64) : gS := (S.1, S.2.1, S.2.2.1, f)
def lpN {α : Type} (B : (α → Prop) → α → Prop) : Nat → α → Prop
  | 0, _ => False
  | n + 1, a => B (lpN B n) a
def lp {α : Type} (B : (α → Prop) → α → Prop) (a : α) : Prop := ∃ n, lpN B n a
theorem lp_walk {α : Type} {B : (α → Prop) → α → Prop} {G : α → Prop} (hs : ∀ (K : α → Prop) (a : α), (∀ a', K a' → G a') → B K a → G a) (a : α) (h : lp B a) : G a := by
  obtain ⟨n, h⟩ := h
  induction n generalizing a with
  | zero => exact h.elim
  | succ n ih => exact hs _ a (fun a' q => ih a' q) h
theorem lp_inv {α : Type} {B : (α → Prop) → α → Prop} (I : α → Prop) (μ : α → Nat) (hs : ∀ (K : α → Prop) (a : α), I a → (∀ a', I a' → μ a' < μ a → K a') → B K a) (a : α) (h : I a) : lp B a := by
  suffices H : ∀ (n : Nat) (a : α), I a → μ a < n → lpN B n a from ⟨μ a + 1, H _ a h (Nat.lt_succ_self _)⟩
  intro n
  induction n with
  | zero => intro a _ h; omega
  | succ n ih => intro a hi hm; exact hs _ a hi (fun a' hi' hm' => ih a' hi' (by omega))
theorem vp_lt {i : Int32} {n : Nat} (h : vp_in i n) : i.toNatClampNeg < n := Nat.not_le.mp fun q => h (Or.inr q)
theorem ne_toInt {x k : Int32} {z : Int} (h : ¬ x = k) (e : k.toInt = z) : x.toInt ≠ z := by
  subst e
  exact fun q => h (Int32.toInt_inj.mp q)
theorem gD {ws : va_W} {n : Nat} {ad : Nat → Nat} (hm : ws.map (fun q => q.1) = (List.range n).map ad) (hi : ∀ i j, i < n → j < n → ad i = ad j → i = j) {A0 : Nat → Prop} (ha : ∀ k, k < n → A0 (ad k)) : va_D A0 ws := by
  have key : ∀ (k : Nat) (q : Nat × va_E), ws[k]? = some q → k < n ∧ q.1 = ad k := by
    intro k q h
    have h1 : (ws.map (fun q => q.1))[k]? = some q.1 := by rw [List.getElem?_map, h]; rfl
    rw [hm, List.getElem?_map] at h1
    by_cases hk : k < n
    · rw [List.getElem?_range hk] at h1
      exact ⟨hk, (Option.some.inj h1).symm⟩
    · rw [List.getElem?_eq_none (by rw [List.length_range]; omega)] at h1
      cases h1
  refine ⟨fun i j p q hp hq e => ?_, fun k q h => ?_⟩
  · obtain ⟨a1, a2⟩ := key i p hp
    obtain ⟨b1, b2⟩ := key j q hq
    exact hi i j a1 b1 (by rw [← a2, ← b2, e])
  · obtain ⟨a1, a2⟩ := key k q h
    rw [a2]; exact ha k a1
def gF (ad : Nat → Nat) (n sz : Nat) : Nat → Prop := fun q => (∃ k, k < n ∧ q = ad k) ∨ sz ≤ q
theorem gF_in {ad : Nat → Nat} {n sz k : Nat} (h : k < n) : gF ad n sz (ad k) := Or.inl ⟨k, h, rfl⟩
theorem gF_le {ad : Nat → Nat} {n a b : Nat} (h : a ≤ b) : ∀ q, gF ad n b q → gF ad n a q := fun _ z => z.imp id (fun w => Nat.le_trans h w)
def gH (D : va_G) (cl : List vw_C) (tys : List (ClassId × FieldType)) (ws : va_W) (U : State) : Prop := va_P D cl ws U.heap ∧ va_K D cl tys U
def gPc (av : List Value) (sz : Nat) (D : va_G) (cl : List vw_C) (tys : List (ClassId × FieldType)) (ws : va_W) : Array Value → State → Prop := va_Pc av (fun U => U.heap.size = sz ∧ gH D cl tys ws U)
theorem gPc_blind {av : List Value} {sz : Nat} {D : va_G} {cl : List vw_C} {tys : List (ClassId × FieldType)} {ws : va_W} : FrameBlind (gPc av sz D cl tys ws) := fun a U g mk q => ⟨q.1, q.2.1, q.2.2.1, va_K.moved (u := U) (U := U.calling g mk a) (Vm.Alike.refl U.vm) q.2.2.2⟩
section GC
variable {p : Program} {l : Launch} {e : Env} {R : Room} {s : State} {m : MethodId} {args : Array Value} {below : List Frame} {meth : Method} {c : Code} {H : Heap} {locs : List Loc} {cells slots : Nat} {Z : State → Prop}
variable {pc : Nat} {ls : Array Slot} {rest st : List Value} {D : va_G} {cl : List vw_C} {tys : List (ClassId × FieldType)} {A0 : Nat → Prop} {H0 : Heap} {σ : Type} {wd : σ → va_W} {w0 : va_W} {F : Nat → Prop}
variable {y : MethodName} {bytes cc : ByteArray} {maxL nL n index : Nat} {ret : Option FieldType} {ws : List Cond} {rm : Room} {Ts : List Cond} {own C : String} {b q0 ci N : Nat} {As fs : List Value} {T : u_T}
theorem gVi (S : CallFix p m c cc nL s args Ts own) {Q : Int32 → σ → Prop} (hM : Met l y ws rm (gPc (.ref b :: As) H.size D cl tys w0) (va_Qi Q (fun S' t => gH D cl tys (wd S') t) F) 0 0 F) (cw : CallW R s args own C index y bytes maxL ret ws rm 0 0 n) (hK : va_K D cl tys s) (hP : va_P D cl w0 H) (hS : va_S A0 H0 H locs) (hF : ∀ q, F q → A0 q) (he : w0[q0]? = some (b, .inr (ci, fs))) (hc : cl[ci]? = some (C, T, N)) (hst : st = As.reverse ++ .ref b :: rest) (hn : As.length = n) (hsz : ls.size = nL) (hW : (rest.map fun v => v.category).sum ≤ 8) (hdg : decode cc pc = .ok (.invokevirtual index, 3)) (hf : cells ≤ R.cells ∧ slots ≤ R.slots)
    (kk : ∀ (r : Int32) (S' : σ) (H1 : Heap) (locs1 : List Loc), Q r S' → va_P D cl (wd S') H1 → va_S A0 H0 H1 locs1 → W p l e R s m args below meth c H1 locs1 cells slots Z (F0 m (pc + 3) ls (.int r :: rest))) : W p l e R s m args below meth c H locs cells slots Z (F0 m pc ls st) := by
  subst hst
  exact va_calli (va_runV S hM cw ⟨gPc_blind, va_recv hK hP hc he, fun U hU hW => ⟨rfl, by rw [hU], by rw [hU]; exact hP, va_K.moved hW.alike hK⟩⟩ rfl hn hsz rfl (lv_room hW) hdg hf) hS (fun q _ h => hF q h) hF (fun r u t H1 locs ht _ hw hB _ _ hS => kk r u H1 locs hw (by rw [← ht]; exact hB.1) hS)
theorem gVl (S : CallFix p m c cc nL s args Ts own) {Q : Int64 → σ → Prop} (hM : Met l y ws rm (gPc (.ref b :: As) H.size D cl tys w0) (va_Ql Q (fun S' t => gH D cl tys (wd S') t) F) 0 0 F) (cw : CallW R s args own C index y bytes maxL ret ws rm 0 0 n) (hK : va_K D cl tys s) (hP : va_P D cl w0 H) (hS : va_S A0 H0 H locs) (hF : ∀ q, F q → A0 q) (he : w0[q0]? = some (b, .inr (ci, fs))) (hc : cl[ci]? = some (C, T, N)) (hst : st = As.reverse ++ .ref b :: rest) (hn : As.length = n) (hsz : ls.size = nL) (hW : (rest.map fun v => v.category).sum ≤ 8) (hdg : decode cc pc = .ok (.invokevirtual index, 3)) (hf : cells ≤ R.cells ∧ slots ≤ R.slots)
    (kk : ∀ (r : Int64) (S' : σ) (H1 : Heap) (locs1 : List Loc), Q r S' → va_P D cl (wd S') H1 → va_S A0 H0 H1 locs1 → W p l e R s m args below meth c H1 locs1 cells slots Z (F0 m (pc + 3) ls (.long r :: rest))) : W p l e R s m args below meth c H locs cells slots Z (F0 m pc ls st) := by
  subst hst
  exact va_calll (va_runV S hM cw ⟨gPc_blind, va_recv hK hP hc he, fun U hU hW => ⟨rfl, by rw [hU], by rw [hU]; exact hP, va_K.moved hW.alike hK⟩⟩ rfl hn hsz rfl (lv_room hW) hdg hf) hS (fun q _ h => hF q h) hF (fun r u t H1 locs ht _ hw hB _ _ hS => kk r u H1 locs hw (by rw [← ht]; exact hB.1) hS)
theorem gVv (S : CallFix p m c cc nL s args Ts own) {Q : σ → Prop} (hM : Met l y ws rm (gPc (.ref b :: As) H.size D cl tys w0) (va_Qv Q (fun S' t => gH D cl tys (wd S') t) F) 0 0 F) (cw : CallW R s args own C index y bytes maxL ret ws rm 0 0 n) (hK : va_K D cl tys s) (hP : va_P D cl w0 H) (hS : va_S A0 H0 H locs) (hF : ∀ q, F q → A0 q) (he : w0[q0]? = some (b, .inr (ci, fs))) (hc : cl[ci]? = some (C, T, N)) (hst : st = As.reverse ++ .ref b :: rest) (hn : As.length = n) (hsz : ls.size = nL) (hW : (rest.map fun v => v.category).sum ≤ 8) (hdg : decode cc pc = .ok (.invokevirtual index, 3)) (hf : cells ≤ R.cells ∧ slots ≤ R.slots)
    (kk : ∀ (S' : σ) (H1 : Heap) (locs1 : List Loc), Q S' → va_P D cl (wd S') H1 → va_S A0 H0 H1 locs1 → W p l e R s m args below meth c H1 locs1 cells slots Z (F0 m (pc + 3) ls rest)) : W p l e R s m args below meth c H locs cells slots Z (F0 m pc ls st) := by
  subst hst
  exact va_callv (va_runV S hM cw ⟨gPc_blind, va_recv hK hP hc he, fun U hU hW => ⟨rfl, by rw [hU], by rw [hU]; exact hP, va_K.moved hW.alike hK⟩⟩ rfl hn hsz rfl (lv_room hW) hdg hf) hS (fun q _ h => hF q h) hF (fun u t H1 locs ht _ hw hB _ _ hS => kk u H1 locs hw (by rw [← ht]; exact hB.1) hS)
theorem gSi (S : CallFix p m c cc nL s args Ts own) {Q : Int32 → σ → Prop} (hM : Met l y ws rm (gPc As H.size D cl tys w0) (va_Qi Q (fun S' t => gH D cl tys (wd S') t) F) 0 0 F) (cw : CallB R s args own index y bytes maxL ret ws rm 0 0 n ∧ (Cond.static y).before args s = true) (hK : va_K D cl tys s) (hP : va_P D cl w0 H) (hS : va_S A0 H0 H locs) (hF : ∀ q, F q → A0 q) (hst : st = As.reverse ++ rest) (hn : As.length = n) (hsz : ls.size = nL) (hW : (rest.map fun v => v.category).sum ≤ 8) (hdg : decode cc pc = .ok (.invokestatic index, 3)) (hf : cells ≤ R.cells ∧ slots ≤ R.slots)
    (kk : ∀ (r : Int32) (S' : σ) (H1 : Heap) (locs1 : List Loc), Q r S' → va_P D cl (wd S') H1 → va_S A0 H0 H1 locs1 → W p l e R s m args below meth c H1 locs1 cells slots Z (F0 m (pc + 3) ls (.int r :: rest))) : W p l e R s m args below meth c H locs cells slots Z (F0 m pc ls st) := by
  subst hst
  exact va_calli (va_runS S hM cw ⟨gPc_blind, fun U hU hW => ⟨rfl, by rw [hU], by rw [hU]; exact hP, va_K.moved hW.alike hK⟩⟩ rfl hn hsz rfl (lv_room hW) hdg hf) hS (fun q _ h => hF q h) hF (fun r u t H1 locs ht _ hw hB _ _ hS => kk r u H1 locs hw (by rw [← ht]; exact hB.1) hS)
theorem gSl (S : CallFix p m c cc nL s args Ts own) {Q : Int64 → σ → Prop} (hM : Met l y ws rm (gPc As H.size D cl tys w0) (va_Ql Q (fun S' t => gH D cl tys (wd S') t) F) 0 0 F) (cw : CallB R s args own index y bytes maxL ret ws rm 0 0 n ∧ (Cond.static y).before args s = true) (hK : va_K D cl tys s) (hP : va_P D cl w0 H) (hS : va_S A0 H0 H locs) (hF : ∀ q, F q → A0 q) (hst : st = As.reverse ++ rest) (hn : As.length = n) (hsz : ls.size = nL) (hW : (rest.map fun v => v.category).sum ≤ 8) (hdg : decode cc pc = .ok (.invokestatic index, 3)) (hf : cells ≤ R.cells ∧ slots ≤ R.slots)
    (kk : ∀ (r : Int64) (S' : σ) (H1 : Heap) (locs1 : List Loc), Q r S' → va_P D cl (wd S') H1 → va_S A0 H0 H1 locs1 → W p l e R s m args below meth c H1 locs1 cells slots Z (F0 m (pc + 3) ls (.long r :: rest))) : W p l e R s m args below meth c H locs cells slots Z (F0 m pc ls st) := by
  subst hst
  exact va_calll (va_runS S hM cw ⟨gPc_blind, fun U hU hW => ⟨rfl, by rw [hU], by rw [hU]; exact hP, va_K.moved hW.alike hK⟩⟩ rfl hn hsz rfl (lv_room hW) hdg hf) hS (fun q _ h => hF q h) hF (fun r u t H1 locs ht _ hw hB _ _ hS => kk r u H1 locs hw (by rw [← ht]; exact hB.1) hS)
theorem gAald (hexec : p.tables.exec = Jvm.exec) (hb : c.code = cc) (hK : va_K D cl tys s) (hP : va_P D cl w0 H) (q0 t0 : Nat) {cA : ClassId} {ty : FieldType} {n a : Nat} {f : Nat → Option Nat} {g : Nat → Nat} (ha : w0[q0]? = some (a, .inl (cA, n, .inr (.inr (.inr (.inr f)))))) (ht : tys[t0]? = some (cA, .array ty)) (hfg : ∀ j, j < n → f j = some (g j)) {i : Int32} (hin : vp_in i n) (hdg : decode cc pc = .ok (.aaload, 1))
    (kk : W p l e R s m args below meth c H locs cells slots Z (F0 m (pc + 1) ls (.ref (g i.toNatClampNeg) :: rest))) : W p l e R s m args below meth c H locs cells slots Z (F0 m pc ls (.int i :: .ref a :: rest)) := by
  have hlt : i.toNatClampNeg < n := vp_lt hin
  refine W.aald (v := va_rf (f i.toNatClampNeg)) (ty := .array ty) hexec hb (hP q0 _ ha) ((hK.2 t0 _ ht).1 n (fun j => va_rf (f j))) rfl (fun q => by cases q) (by show ¬ (i < 0 ∨ (arrV _ _ _).slots.size ≤ _); rw [arrV_size]; exact hin) (by show (arrV _ _ _).slots[_]? = _; rw [arrV_read _ _ hlt]) rfl rfl hdg ?_
  rw [hfg _ hlt]
  exact kk
end GC
section GM
variable {l : Launch} {y : MethodName} {ws ws' : List Cond} {rm : Room} {cc : ByteArray} {maxL : Nat} {av : List Value} {D : va_G} {cl : List vw_C} {tys : List (ClassId × FieldType)} {σ : Type} {wd : σ → va_W} {w0 : va_W} {sz n : Nat} {ad : Nat → Nat}
theorem gMet_i {Q : Int32 → σ → Prop} (hy : plainName y.cls = true) (hw : ws = Cond.code y cc maxL (some .int) :: ws') (hav : (lg_sl av).length ≤ maxL)
    (body : ∀ (p : Program) (e : Env) (s : State) (m : MethodId) (args : Array Value) (below : List Frame) (meth : Method) (c : Code) (Z : State → Prop) (H : Heap) (locs : List Loc), p.tables.exec = Jvm.exec → c.code = cc → c.maxLocals = maxL → (∀ w ∈ ws, w.before args s = true) → s.vm.findClass y.cls = some m.cls → va_K D cl tys s → va_P D cl w0 H → va_S (gF ad n s.heap.size) s.heap H locs →
      (∀ (r : Int32) (S' : σ) (H : Heap) (locs : List Loc) (pc : Nat) (ls : Array Slot), decode cc pc = .ok (.ireturn, 1) → Q r S' → va_P D cl (wd S') H → va_S (gF ad n s.heap.size) s.heap H locs → W p l e rm s m args below meth c H locs 0 0 Z (F0 m pc ls [.int r])) →
      ∀ ls : Array Slot, lv_has ls maxL (lv_args 0 av) → W p l e rm s m args below meth c H locs 0 0 Z (F0 m 0 ls [])) :
    Met l y ws rm (gPc av sz D cl tys w0) (va_Qi Q (fun S' t => gH D cl tys (wd S') t) (gF ad n sz)) 0 0 (gF ad n sz) := by
  refine Met.ofW (cc := cc) (maxL := maxL) (ret := some .int) hy hw ?_
  intro p e s m args below meth c s₁ B hml hv
  obtain ⟨rfl, hsz, hP, hK⟩ := hv
  have hown := findClass_of_methodNamed B.named
  rw [lg_entry_eq]
  subst hsz
  refine body p e s m _ below meth c _ _ _ B.exec B.bytes hml (atoms_spec (ws := ws) B.pre) hown hK hP va_S.rf ?_ _ (lv_entry av hav)
  intro r S' H locs pc ls hd hq hP' hS
  exact W.iret (v := r) B.exec B.bytes B.returns (fun t ht hW => ⟨⟨r, S', rfl, hq, by rw [ht]; exact hP', va_K.moved hW.alike hK⟩, hS.F ht⟩) hS.2.2 hd (hlocks := B.notSynchronized)
theorem gMet_z {Q : Int32 → σ → Prop} (hy : plainName y.cls = true) (hw : ws = Cond.code y cc maxL (some .boolean) :: ws') (hav : (lg_sl av).length ≤ maxL)
    (body : ∀ (p : Program) (e : Env) (s : State) (m : MethodId) (args : Array Value) (below : List Frame) (meth : Method) (c : Code) (Z : State → Prop) (H : Heap) (locs : List Loc), p.tables.exec = Jvm.exec → c.code = cc → c.maxLocals = maxL → (∀ w ∈ ws, w.before args s = true) → s.vm.findClass y.cls = some m.cls → va_K D cl tys s → va_P D cl w0 H → va_S (gF ad n s.heap.size) s.heap H locs →
      (∀ (r : Int32) (S' : σ) (H : Heap) (locs : List Loc) (pc : Nat) (ls : Array Slot), decode cc pc = .ok (.ireturn, 1) → narrow .boolean (.int r) = .int r → Q r S' → va_P D cl (wd S') H → va_S (gF ad n s.heap.size) s.heap H locs → W p l e rm s m args below meth c H locs 0 0 Z (F0 m pc ls [.int r])) →
      ∀ ls : Array Slot, lv_has ls maxL (lv_args 0 av) → W p l e rm s m args below meth c H locs 0 0 Z (F0 m 0 ls [])) :
    Met l y ws rm (gPc av sz D cl tys w0) (va_Qi Q (fun S' t => gH D cl tys (wd S') t) (gF ad n sz)) 0 0 (gF ad n sz) := by
  refine Met.ofW (cc := cc) (maxL := maxL) (ret := some .boolean) hy hw ?_
  intro p e s m args below meth c s₁ B hml hv
  obtain ⟨rfl, hsz, hP, hK⟩ := hv
  have hown := findClass_of_methodNamed B.named
  rw [lg_entry_eq]
  subst hsz
  refine body p e s m _ below meth c _ _ _ B.exec B.bytes hml (atoms_spec (ws := ws) B.pre) hown hK hP va_S.rf ?_ _ (lv_entry av hav)
  intro r S' H locs pc ls hd hn hq hP' hS
  exact W.zret (v := r) B.exec B.bytes B.returns hn (fun t ht hW => ⟨⟨r, S', rfl, hq, by rw [ht]; exact hP', va_K.moved hW.alike hK⟩, hS.F ht⟩) hS.2.2 hd (hlocks := B.notSynchronized)
theorem gMet_l {Q : Int64 → σ → Prop} (hy : plainName y.cls = true) (hw : ws = Cond.code y cc maxL (some .long) :: ws') (hav : (lg_sl av).length ≤ maxL)
    (body : ∀ (p : Program) (e : Env) (s : State) (m : MethodId) (args : Array Value) (below : List Frame) (meth : Method) (c : Code) (Z : State → Prop) (H : Heap) (locs : List Loc), p.tables.exec = Jvm.exec → c.code = cc → c.maxLocals = maxL → (∀ w ∈ ws, w.before args s = true) → s.vm.findClass y.cls = some m.cls → va_K D cl tys s → va_P D cl w0 H → va_S (gF ad n s.heap.size) s.heap H locs →
      (∀ (r : Int64) (S' : σ) (H : Heap) (locs : List Loc) (pc : Nat) (ls : Array Slot), decode cc pc = .ok (.lreturn, 1) → Q r S' → va_P D cl (wd S') H → va_S (gF ad n s.heap.size) s.heap H locs → W p l e rm s m args below meth c H locs 0 0 Z (F0 m pc ls [.long r])) →
      ∀ ls : Array Slot, lv_has ls maxL (lv_args 0 av) → W p l e rm s m args below meth c H locs 0 0 Z (F0 m 0 ls [])) :
    Met l y ws rm (gPc av sz D cl tys w0) (va_Ql Q (fun S' t => gH D cl tys (wd S') t) (gF ad n sz)) 0 0 (gF ad n sz) := by
  refine Met.ofW (cc := cc) (maxL := maxL) (ret := some .long) hy hw ?_
  intro p e s m args below meth c s₁ B hml hv
  obtain ⟨rfl, hsz, hP, hK⟩ := hv
  have hown := findClass_of_methodNamed B.named
  rw [lg_entry_eq]
  subst hsz
  refine body p e s m _ below meth c _ _ _ B.exec B.bytes hml (atoms_spec (ws := ws) B.pre) hown hK hP va_S.rf ?_ _ (lv_entry av hav)
  intro r S' H locs pc ls hd hq hP' hS
  exact W.lret (v := r) B.exec B.bytes B.returns (fun t ht hW => ⟨⟨r, S', rfl, hq, by rw [ht]; exact hP', va_K.moved hW.alike hK⟩, hS.F ht⟩) hS.2.2 hd (hlocks := B.notSynchronized)
theorem gMet_v {Q : σ → Prop} (hy : plainName y.cls = true) (hw : ws = Cond.code y cc maxL none :: ws') (hav : (lg_sl av).length ≤ maxL)
    (body : ∀ (p : Program) (e : Env) (s : State) (m : MethodId) (args : Array Value) (below : List Frame) (meth : Method) (c : Code) (Z : State → Prop) (H : Heap) (locs : List Loc), p.tables.exec = Jvm.exec → c.code = cc → c.maxLocals = maxL → (∀ w ∈ ws, w.before args s = true) → s.vm.findClass y.cls = some m.cls → va_K D cl tys s → va_P D cl w0 H → va_S (gF ad n s.heap.size) s.heap H locs →
      (∀ (S' : σ) (H : Heap) (locs : List Loc) (pc : Nat) (ls : Array Slot), decode cc pc = .ok (.return_, 1) → Q S' → va_P D cl (wd S') H → va_S (gF ad n s.heap.size) s.heap H locs → W p l e rm s m args below meth c H locs 0 0 Z (F0 m pc ls [])) →
      ∀ ls : Array Slot, lv_has ls maxL (lv_args 0 av) → W p l e rm s m args below meth c H locs 0 0 Z (F0 m 0 ls [])) :
    Met l y ws rm (gPc av sz D cl tys w0) (va_Qv Q (fun S' t => gH D cl tys (wd S') t) (gF ad n sz)) 0 0 (gF ad n sz) := by
  refine Met.ofW (cc := cc) (maxL := maxL) (ret := none) hy hw ?_
  intro p e s m args below meth c s₁ B hml hv
  obtain ⟨rfl, hsz, hP, hK⟩ := hv
  have hown := findClass_of_methodNamed B.named
  rw [lg_entry_eq]
  subst hsz
  refine body p e s m _ below meth c _ _ _ B.exec B.bytes hml (atoms_spec (ws := ws) B.pre) hown hK hP va_S.rf ?_ _ (lv_entry av hav)
  intro S' H locs pc ls hd hq hP' hS
  exact W.vret B.exec B.bytes B.returns (fun t ht hW => ⟨⟨S', rfl, hq, by rw [ht]; exact hP', va_K.moved hW.alike hK⟩, hS.F ht⟩) hS.2.2 hd (hlocks := B.notSynchronized)
end GM
abbrev vwCl : List vw_C := [(RX0, TX0, 9), (RX1, TX1, 7), (RX2, TX2, 3), (RX3, TX3, 7), (RX4, TX4, 4), (RX5, TX5, 7), (RX6, TX6, 3), (RX7, TX7, 2), (RX8, TX8, 6), (RX9, TX9, 15), (RX10, TX10, 54)]
abbrev tY (Y : Nat → ClassId) : List (ClassId × FieldType) := [(Y 0, .int), (Y 1, .boolean), (Y 2, .long), (Y 3, .array .int)]
/-! the world of C: 65 cells; ints 0 X9.night, 1 X9.seed, 2 X9.drawCount, 3 X9.casksPrice, 4 X0.size, 5 X3.size, 6 X5.size, 7 X4.size, 8 X8.size; longs 0 above, 1 below -/
-- arrays: 0 X9.refusals, 1 X9.purses, 2 X7.numbers0, 3 X7.numbers1, 4 X7.numbers2, 5 X7.numbers3, 6 X7.length, 7 X1.depth, 8 X1.worth, 9 X1.ledBy, 10 X1.standing, 11 X1.shares, 12 X1.bribed, 13 X1.watchers, 14 X0.draught, 15 X0.hold, 16 X0.strength, 17 X0.bold, 18 X0.casks, 19 X0.escapes, 20 X0.returns, 21 X0.fear0, 22 X0.fear1, 23 X0.fear2, 24 X0.fear3, 25 X0.fear4, 26 X0.fear5, 27 X0.fear6, 28 X0.fear7, 29 X3.cove, 30 X3.room, 31 X3.cost, 32 X3.guess, 33 X3.lying, 34 X5.boat, 35 X5.casks, 36 X5.night, 37 X5.cove, 38 X5.place, 39 X5.hide, 40 X4.crew, 41 X4.informer, 42 X4.from, 43 X8.informer, 44 X8.night, 45 X8.cove, 46 X8.right, 47 X8.wrong, 48 X6.least, 49 X6.most, 50 X6.byLaw, 51 X2.worths
def wC (Y : Nat → ClassId) (A : Nat → Nat) (S : gS) : va_W := [(A 0, .inr (9, [.int (gi S 0), .int (gi S 1), .int (gi S 2), .int (gi S 3), .ref (A 10), .ref (A 11), .ref (A 1), .ref (A 2), .ref (A 3), .ref (A 4), .ref (A 5), .ref (A 6), .ref (A 7), .ref (A 8), .ref (A 9)])), (A 1, .inr (7, [.ref (A 12), .ref (A 17)])), (A 2, .inr (1, [.ref (A 18), .ref (A 19), .ref (A 20), .ref (A 21), .ref (A 22), .ref (A 23), .ref (A 24)])), (A 3, .inr (0, [.int (gi S 4), .ref (A 25), .ref (A 26), .ref (A 27), .ref (A 28), .ref (A 29), .ref (A 30), .ref (A 31), .ref (A 32)])), (A 4, .inr (3, [.int (gi S 5), .ref (A 41), .ref (A 42), .ref (A 43), .ref (A 44), .ref (A 45), .ref (A 46)])), (A 5, .inr (5, [.int (gi S 6), .ref (A 47), .ref (A 48), .ref (A 49), .ref (A 50), .ref (A 51), .ref (A 52)])), (A 6, .inr (4, [.int (gi S 7), .ref (A 53), .ref (A 54), .ref (A 55)])), (A 7, .inr (8, [.int (gi S 8), .ref (A 56), .ref (A 57), .ref (A 58), .ref (A 59), .ref (A 60)])), (A 8, .inr (6, [.ref (A 61), .ref (A 62), .ref (A 63)])), (A 9, .inr (2, [.ref (A 64), .long (gl S 0), .long (gl S 1)])), (A 10, .inl (Y 0, 8, .inl (ga S 0))), (A 11, .inl (Y 0, 8, .inl (ga S 1))), (A 12, .inl (Y 3, 4, .inr (.inr (.inr (.inr (fun j => if j < 4 then some (A (13 + j)) else none)))))), (A 13, .inl (Y 0, 30, .inl (ga S 2))), (A 14, .inl (Y 0, 30, .inl (ga S 3))), (A 15, .inl (Y 0, 30, .inl (ga S 4))), (A 16, .inl (Y 0, 30, .inl (ga S 5))), (A 17, .inl (Y 0, 4, .inl (ga S 6))), (A 18, .inl (Y 0, 6, .inl (ga S 7))), (A 19, .inl (Y 0, 6, .inl (ga S 8))), (A 20, .inl (Y 0, 6, .inl (ga S 9))), (A 21, .inl (Y 0, 6, .inl (ga S 10))), (A 22, .inl (Y 0, 6, .inl (ga S 11))), (A 23, .inl (Y 1, 6, .inl (ga S 12))), (A 24, .inl (Y 0, 6, .inl (ga S 13))), (A 25, .inl (Y 0, 8, .inl (ga S 14))), (A 26, .inl (Y 0, 8, .inl (ga S 15))), (A 27, .inl (Y 0, 8, .inl (ga S 16))), (A 28, .inl (Y 0, 8, .inl (ga S 17))), (A 29, .inl (Y 0, 8, .inl (ga S 18))), (A 30, .inl (Y 0, 8, .inl (ga S 19))), (A 31, .inl (Y 0, 8, .inl (ga S 20))), (A 32, .inl (Y 3, 8, .inr (.inr (.inr (.inr (fun j => if j < 8 then some (A (33 + j)) else none)))))), (A 33, .inl (Y 0, 6, .inl (ga S 21))), (A 34, .inl (Y 0, 6, .inl (ga S 22))), (A 35, .inl (Y 0, 6, .inl (ga S 23))), (A 36, .inl (Y 0, 6, .inl (ga S 24))), (A 37, .inl (Y 0, 6, .inl (ga S 25))), (A 38, .inl (Y 0, 6, .inl (ga S 26))), (A 39, .inl (Y 0, 6, .inl (ga S 27))), (A 40, .inl (Y 0, 6, .inl (ga S 28))), (A 41, .inl (Y 0, 12, .inl (ga S 29))), (A 42, .inl (Y 0, 12, .inl (ga S 30))), (A 43, .inl (Y 0, 12, .inl (ga S 31))), (A 44, .inl (Y 0, 12, .inl (ga S 32))), (A 45, .inl (Y 0, 12, .inl (ga S 33))), (A 46, .inl (Y 2, 101, .inr (.inl (gc S)))), (A 47, .inl (Y 0, 100, .inl (ga S 34))), (A 48, .inl (Y 0, 100, .inl (ga S 35))), (A 49, .inl (Y 0, 100, .inl (ga S 36))), (A 50, .inl (Y 0, 100, .inl (ga S 37))), (A 51, .inl (Y 0, 100, .inl (ga S 38))), (A 52, .inl (Y 0, 100, .inl (ga S 39))), (A 53, .inl (Y 0, 20, .inl (ga S 40))), (A 54, .inl (Y 0, 20, .inl (ga S 41))), (A 55, .inl (Y 0, 20, .inl (ga S 42))), (A 56, .inl (Y 0, 60, .inl (ga S 43))), (A 57, .inl (Y 0, 60, .inl (ga S 44))), (A 58, .inl (Y 0, 60, .inl (ga S 45))), (A 59, .inl (Y 0, 6, .inl (ga S 46))), (A 60, .inl (Y 0, 6, .inl (ga S 47))), (A 61, .inl (Y 0, 34, .inl (ga S 48))), (A 62, .inl (Y 0, 34, .inl (ga S 49))), (A 63, .inl (Y 0, 34, .inl (ga S 50))), (A 64, .inl (Y 0, 6, .inl (ga S 51)))]
theorem aC0 (Y : Nat → ClassId) (A : Nat → Nat) (S : gS) : (wC Y A S)[0]? = some (A 0, .inr (9, [.int (gi S 0), .int (gi S 1), .int (gi S 2), .int (gi S 3), .ref (A 10), .ref (A 11), .ref (A 1), .ref (A 2), .ref (A 3), .ref (A 4), .ref (A 5), .ref (A 6), .ref (A 7), .ref (A 8), .ref (A 9)])) := rfl
theorem aC1 (Y : Nat → ClassId) (A : Nat → Nat) (S : gS) : (wC Y A S)[1]? = some (A 1, .inr (7, [.ref (A 12), .ref (A 17)])) := rfl
theorem aC2 (Y : Nat → ClassId) (A : Nat → Nat) (S : gS) : (wC Y A S)[2]? = some (A 2, .inr (1, [.ref (A 18), .ref (A 19), .ref (A 20), .ref (A 21), .ref (A 22), .ref (A 23), .ref (A 24)])) := rfl
theorem aC3 (Y : Nat → ClassId) (A : Nat → Nat) (S : gS) : (wC Y A S)[3]? = some (A 3, .inr (0, [.int (gi S 4), .ref (A 25), .ref (A 26), .ref (A 27), .ref (A 28), .ref (A 29), .ref (A 30), .ref (A 31), .ref (A 32)])) := rfl
theorem aC4 (Y : Nat → ClassId) (A : Nat → Nat) (S : gS) : (wC Y A S)[4]? = some (A 4, .inr (3, [.int (gi S 5), .ref (A 41), .ref (A 42), .ref (A 43), .ref (A 44), .ref (A 45), .ref (A 46)])) := rfl
theorem aC5 (Y : Nat → ClassId) (A : Nat → Nat) (S : gS) : (wC Y A S)[5]? = some (A 5, .inr (5, [.int (gi S 6), .ref (A 47), .ref (A 48), .ref (A 49), .ref (A 50), .ref (A 51), .ref (A 52)])) := rfl
theorem aC6 (Y : Nat → ClassId) (A : Nat → Nat) (S : gS) : (wC Y A S)[6]? = some (A 6, .inr (4, [.int (gi S 7), .ref (A 53), .ref (A 54), .ref (A 55)])) := rfl
theorem aC7 (Y : Nat → ClassId) (A : Nat → Nat) (S : gS) : (wC Y A S)[7]? = some (A 7, .inr (8, [.int (gi S 8), .ref (A 56), .ref (A 57), .ref (A 58), .ref (A 59), .ref (A 60)])) := rfl
theorem aC8 (Y : Nat → ClassId) (A : Nat → Nat) (S : gS) : (wC Y A S)[8]? = some (A 8, .inr (6, [.ref (A 61), .ref (A 62), .ref (A 63)])) := rfl
theorem aC9 (Y : Nat → ClassId) (A : Nat → Nat) (S : gS) : (wC Y A S)[9]? = some (A 9, .inr (2, [.ref (A 64), .long (gl S 0), .long (gl S 1)])) := rfl
theorem aC10 (Y : Nat → ClassId) (A : Nat → Nat) (S : gS) : (wC Y A S)[10]? = some (A 10, .inl (Y 0, 8, .inl (ga S 0))) := rfl
theorem aC11 (Y : Nat → ClassId) (A : Nat → Nat) (S : gS) : (wC Y A S)[11]? = some (A 11, .inl (Y 0, 8, .inl (ga S 1))) := rfl
theorem aC12 (Y : Nat → ClassId) (A : Nat → Nat) (S : gS) : (wC Y A S)[12]? = some (A 12, .inl (Y 3, 4, .inr (.inr (.inr (.inr (fun j => if j < 4 then some (A (13 + j)) else none)))))) := rfl
theorem aC13 (Y : Nat → ClassId) (A : Nat → Nat) (S : gS) : (wC Y A S)[13]? = some (A 13, .inl (Y 0, 30, .inl (ga S 2))) := rfl
theorem aC14 (Y : Nat → ClassId) (A : Nat → Nat) (S : gS) : (wC Y A S)[14]? = some (A 14, .inl (Y 0, 30, .inl (ga S 3))) := rfl
theorem aC15 (Y : Nat → ClassId) (A : Nat → Nat) (S : gS) : (wC Y A S)[15]? = some (A 15, .inl (Y 0, 30, .inl (ga S 4))) := rfl
theorem aC16 (Y : Nat → ClassId) (A : Nat → Nat) (S : gS) : (wC Y A S)[16]? = some (A 16, .inl (Y 0, 30, .inl (ga S 5))) := rfl
theorem aC17 (Y : Nat → ClassId) (A : Nat → Nat) (S : gS) : (wC Y A S)[17]? = some (A 17, .inl (Y 0, 4, .inl (ga S 6))) := rfl
theorem aC18 (Y : Nat → ClassId) (A : Nat → Nat) (S : gS) : (wC Y A S)[18]? = some (A 18, .inl (Y 0, 6, .inl (ga S 7))) := rfl
theorem aC19 (Y : Nat → ClassId) (A : Nat → Nat) (S : gS) : (wC Y A S)[19]? = some (A 19, .inl (Y 0, 6, .inl (ga S 8))) := rfl
theorem aC20 (Y : Nat → ClassId) (A : Nat → Nat) (S : gS) : (wC Y A S)[20]? = some (A 20, .inl (Y 0, 6, .inl (ga S 9))) := rfl
theorem aC21 (Y : Nat → ClassId) (A : Nat → Nat) (S : gS) : (wC Y A S)[21]? = some (A 21, .inl (Y 0, 6, .inl (ga S 10))) := rfl
theorem aC22 (Y : Nat → ClassId) (A : Nat → Nat) (S : gS) : (wC Y A S)[22]? = some (A 22, .inl (Y 0, 6, .inl (ga S 11))) := rfl
theorem aC23 (Y : Nat → ClassId) (A : Nat → Nat) (S : gS) : (wC Y A S)[23]? = some (A 23, .inl (Y 1, 6, .inl (ga S 12))) := rfl
theorem aC24 (Y : Nat → ClassId) (A : Nat → Nat) (S : gS) : (wC Y A S)[24]? = some (A 24, .inl (Y 0, 6, .inl (ga S 13))) := rfl
theorem aC25 (Y : Nat → ClassId) (A : Nat → Nat) (S : gS) : (wC Y A S)[25]? = some (A 25, .inl (Y 0, 8, .inl (ga S 14))) := rfl
theorem aC26 (Y : Nat → ClassId) (A : Nat → Nat) (S : gS) : (wC Y A S)[26]? = some (A 26, .inl (Y 0, 8, .inl (ga S 15))) := rfl
theorem aC27 (Y : Nat → ClassId) (A : Nat → Nat) (S : gS) : (wC Y A S)[27]? = some (A 27, .inl (Y 0, 8, .inl (ga S 16))) := rfl
theorem aC28 (Y : Nat → ClassId) (A : Nat → Nat) (S : gS) : (wC Y A S)[28]? = some (A 28, .inl (Y 0, 8, .inl (ga S 17))) := rfl
theorem aC29 (Y : Nat → ClassId) (A : Nat → Nat) (S : gS) : (wC Y A S)[29]? = some (A 29, .inl (Y 0, 8, .inl (ga S 18))) := rfl
theorem aC30 (Y : Nat → ClassId) (A : Nat → Nat) (S : gS) : (wC Y A S)[30]? = some (A 30, .inl (Y 0, 8, .inl (ga S 19))) := rfl
theorem aC31 (Y : Nat → ClassId) (A : Nat → Nat) (S : gS) : (wC Y A S)[31]? = some (A 31, .inl (Y 0, 8, .inl (ga S 20))) := rfl
theorem aC32 (Y : Nat → ClassId) (A : Nat → Nat) (S : gS) : (wC Y A S)[32]? = some (A 32, .inl (Y 3, 8, .inr (.inr (.inr (.inr (fun j => if j < 8 then some (A (33 + j)) else none)))))) := rfl
theorem aC33 (Y : Nat → ClassId) (A : Nat → Nat) (S : gS) : (wC Y A S)[33]? = some (A 33, .inl (Y 0, 6, .inl (ga S 21))) := rfl
theorem aC34 (Y : Nat → ClassId) (A : Nat → Nat) (S : gS) : (wC Y A S)[34]? = some (A 34, .inl (Y 0, 6, .inl (ga S 22))) := rfl
theorem aC35 (Y : Nat → ClassId) (A : Nat → Nat) (S : gS) : (wC Y A S)[35]? = some (A 35, .inl (Y 0, 6, .inl (ga S 23))) := rfl
theorem aC36 (Y : Nat → ClassId) (A : Nat → Nat) (S : gS) : (wC Y A S)[36]? = some (A 36, .inl (Y 0, 6, .inl (ga S 24))) := rfl
theorem aC37 (Y : Nat → ClassId) (A : Nat → Nat) (S : gS) : (wC Y A S)[37]? = some (A 37, .inl (Y 0, 6, .inl (ga S 25))) := rfl
theorem aC38 (Y : Nat → ClassId) (A : Nat → Nat) (S : gS) : (wC Y A S)[38]? = some (A 38, .inl (Y 0, 6, .inl (ga S 26))) := rfl
theorem aC39 (Y : Nat → ClassId) (A : Nat → Nat) (S : gS) : (wC Y A S)[39]? = some (A 39, .inl (Y 0, 6, .inl (ga S 27))) := rfl
theorem aC40 (Y : Nat → ClassId) (A : Nat → Nat) (S : gS) : (wC Y A S)[40]? = some (A 40, .inl (Y 0, 6, .inl (ga S 28))) := rfl
theorem aC41 (Y : Nat → ClassId) (A : Nat → Nat) (S : gS) : (wC Y A S)[41]? = some (A 41, .inl (Y 0, 12, .inl (ga S 29))) := rfl
theorem aC42 (Y : Nat → ClassId) (A : Nat → Nat) (S : gS) : (wC Y A S)[42]? = some (A 42, .inl (Y 0, 12, .inl (ga S 30))) := rfl
theorem aC43 (Y : Nat → ClassId) (A : Nat → Nat) (S : gS) : (wC Y A S)[43]? = some (A 43, .inl (Y 0, 12, .inl (ga S 31))) := rfl
theorem aC44 (Y : Nat → ClassId) (A : Nat → Nat) (S : gS) : (wC Y A S)[44]? = some (A 44, .inl (Y 0, 12, .inl (ga S 32))) := rfl
theorem aC45 (Y : Nat → ClassId) (A : Nat → Nat) (S : gS) : (wC Y A S)[45]? = some (A 45, .inl (Y 0, 12, .inl (ga S 33))) := rfl
theorem aC46 (Y : Nat → ClassId) (A : Nat → Nat) (S : gS) : (wC Y A S)[46]? = some (A 46, .inl (Y 2, 101, .inr (.inl (gc S)))) := rfl
theorem aC47 (Y : Nat → ClassId) (A : Nat → Nat) (S : gS) : (wC Y A S)[47]? = some (A 47, .inl (Y 0, 100, .inl (ga S 34))) := rfl
theorem aC48 (Y : Nat → ClassId) (A : Nat → Nat) (S : gS) : (wC Y A S)[48]? = some (A 48, .inl (Y 0, 100, .inl (ga S 35))) := rfl
theorem aC49 (Y : Nat → ClassId) (A : Nat → Nat) (S : gS) : (wC Y A S)[49]? = some (A 49, .inl (Y 0, 100, .inl (ga S 36))) := rfl
theorem aC50 (Y : Nat → ClassId) (A : Nat → Nat) (S : gS) : (wC Y A S)[50]? = some (A 50, .inl (Y 0, 100, .inl (ga S 37))) := rfl
theorem aC51 (Y : Nat → ClassId) (A : Nat → Nat) (S : gS) : (wC Y A S)[51]? = some (A 51, .inl (Y 0, 100, .inl (ga S 38))) := rfl
theorem aC52 (Y : Nat → ClassId) (A : Nat → Nat) (S : gS) : (wC Y A S)[52]? = some (A 52, .inl (Y 0, 100, .inl (ga S 39))) := rfl
theorem aC53 (Y : Nat → ClassId) (A : Nat → Nat) (S : gS) : (wC Y A S)[53]? = some (A 53, .inl (Y 0, 20, .inl (ga S 40))) := rfl
theorem aC54 (Y : Nat → ClassId) (A : Nat → Nat) (S : gS) : (wC Y A S)[54]? = some (A 54, .inl (Y 0, 20, .inl (ga S 41))) := rfl
theorem aC55 (Y : Nat → ClassId) (A : Nat → Nat) (S : gS) : (wC Y A S)[55]? = some (A 55, .inl (Y 0, 20, .inl (ga S 42))) := rfl
theorem aC56 (Y : Nat → ClassId) (A : Nat → Nat) (S : gS) : (wC Y A S)[56]? = some (A 56, .inl (Y 0, 60, .inl (ga S 43))) := rfl
theorem aC57 (Y : Nat → ClassId) (A : Nat → Nat) (S : gS) : (wC Y A S)[57]? = some (A 57, .inl (Y 0, 60, .inl (ga S 44))) := rfl
theorem aC58 (Y : Nat → ClassId) (A : Nat → Nat) (S : gS) : (wC Y A S)[58]? = some (A 58, .inl (Y 0, 60, .inl (ga S 45))) := rfl
theorem aC59 (Y : Nat → ClassId) (A : Nat → Nat) (S : gS) : (wC Y A S)[59]? = some (A 59, .inl (Y 0, 6, .inl (ga S 46))) := rfl
theorem aC60 (Y : Nat → ClassId) (A : Nat → Nat) (S : gS) : (wC Y A S)[60]? = some (A 60, .inl (Y 0, 6, .inl (ga S 47))) := rfl
theorem aC61 (Y : Nat → ClassId) (A : Nat → Nat) (S : gS) : (wC Y A S)[61]? = some (A 61, .inl (Y 0, 34, .inl (ga S 48))) := rfl
theorem aC62 (Y : Nat → ClassId) (A : Nat → Nat) (S : gS) : (wC Y A S)[62]? = some (A 62, .inl (Y 0, 34, .inl (ga S 49))) := rfl
theorem aC63 (Y : Nat → ClassId) (A : Nat → Nat) (S : gS) : (wC Y A S)[63]? = some (A 63, .inl (Y 0, 34, .inl (ga S 50))) := rfl
theorem aC64 (Y : Nat → ClassId) (A : Nat → Nat) (S : gS) : (wC Y A S)[64]? = some (A 64, .inl (Y 0, 6, .inl (ga S 51))) := rfl
theorem pC0_0 {D : va_G} {Y : Nat → ClassId} {A : Nat → Nat} {S S1 : gS} {H : Heap} {v : Int32} (e : S1 = sI S 0 v) (h : va_P D vwCl ((wC Y A S).set 0 (A 0, .inr (9, ([.int (gi S 0), .int (gi S 1), .int (gi S 2), .int (gi S 3), .ref (A 10), .ref (A 11), .ref (A 1), .ref (A 2), .ref (A 3), .ref (A 4), .ref (A 5), .ref (A 6), .ref (A 7), .ref (A 8), .ref (A 9)] : List Value).set 0 (.int v)))) H) : va_P D vwCl (wC Y A S1) H := by subst e; exact h
theorem pC0_1 {D : va_G} {Y : Nat → ClassId} {A : Nat → Nat} {S S1 : gS} {H : Heap} {v : Int32} (e : S1 = sI S 1 v) (h : va_P D vwCl ((wC Y A S).set 0 (A 0, .inr (9, ([.int (gi S 0), .int (gi S 1), .int (gi S 2), .int (gi S 3), .ref (A 10), .ref (A 11), .ref (A 1), .ref (A 2), .ref (A 3), .ref (A 4), .ref (A 5), .ref (A 6), .ref (A 7), .ref (A 8), .ref (A 9)] : List Value).set 1 (.int v)))) H) : va_P D vwCl (wC Y A S1) H := by subst e; exact h
theorem pC0_2 {D : va_G} {Y : Nat → ClassId} {A : Nat → Nat} {S S1 : gS} {H : Heap} {v : Int32} (e : S1 = sI S 2 v) (h : va_P D vwCl ((wC Y A S).set 0 (A 0, .inr (9, ([.int (gi S 0), .int (gi S 1), .int (gi S 2), .int (gi S 3), .ref (A 10), .ref (A 11), .ref (A 1), .ref (A 2), .ref (A 3), .ref (A 4), .ref (A 5), .ref (A 6), .ref (A 7), .ref (A 8), .ref (A 9)] : List Value).set 2 (.int v)))) H) : va_P D vwCl (wC Y A S1) H := by subst e; exact h
theorem pC0_3 {D : va_G} {Y : Nat → ClassId} {A : Nat → Nat} {S S1 : gS} {H : Heap} {v : Int32} (e : S1 = sI S 3 v) (h : va_P D vwCl ((wC Y A S).set 0 (A 0, .inr (9, ([.int (gi S 0), .int (gi S 1), .int (gi S 2), .int (gi S 3), .ref (A 10), .ref (A 11), .ref (A 1), .ref (A 2), .ref (A 3), .ref (A 4), .ref (A 5), .ref (A 6), .ref (A 7), .ref (A 8), .ref (A 9)] : List Value).set 3 (.int v)))) H) : va_P D vwCl (wC Y A S1) H := by subst e; exact h
theorem pC3_0 {D : va_G} {Y : Nat → ClassId} {A : Nat → Nat} {S S1 : gS} {H : Heap} {v : Int32} (e : S1 = sI S 4 v) (h : va_P D vwCl ((wC Y A S).set 3 (A 3, .inr (0, ([.int (gi S 4), .ref (A 25), .ref (A 26), .ref (A 27), .ref (A 28), .ref (A 29), .ref (A 30), .ref (A 31), .ref (A 32)] : List Value).set 0 (.int v)))) H) : va_P D vwCl (wC Y A S1) H := by subst e; exact h
theorem pC4_0 {D : va_G} {Y : Nat → ClassId} {A : Nat → Nat} {S S1 : gS} {H : Heap} {v : Int32} (e : S1 = sI S 5 v) (h : va_P D vwCl ((wC Y A S).set 4 (A 4, .inr (3, ([.int (gi S 5), .ref (A 41), .ref (A 42), .ref (A 43), .ref (A 44), .ref (A 45), .ref (A 46)] : List Value).set 0 (.int v)))) H) : va_P D vwCl (wC Y A S1) H := by subst e; exact h
theorem pC5_0 {D : va_G} {Y : Nat → ClassId} {A : Nat → Nat} {S S1 : gS} {H : Heap} {v : Int32} (e : S1 = sI S 6 v) (h : va_P D vwCl ((wC Y A S).set 5 (A 5, .inr (5, ([.int (gi S 6), .ref (A 47), .ref (A 48), .ref (A 49), .ref (A 50), .ref (A 51), .ref (A 52)] : List Value).set 0 (.int v)))) H) : va_P D vwCl (wC Y A S1) H := by subst e; exact h
theorem pC6_0 {D : va_G} {Y : Nat → ClassId} {A : Nat → Nat} {S S1 : gS} {H : Heap} {v : Int32} (e : S1 = sI S 7 v) (h : va_P D vwCl ((wC Y A S).set 6 (A 6, .inr (4, ([.int (gi S 7), .ref (A 53), .ref (A 54), .ref (A 55)] : List Value).set 0 (.int v)))) H) : va_P D vwCl (wC Y A S1) H := by subst e; exact h
theorem pC7_0 {D : va_G} {Y : Nat → ClassId} {A : Nat → Nat} {S S1 : gS} {H : Heap} {v : Int32} (e : S1 = sI S 8 v) (h : va_P D vwCl ((wC Y A S).set 7 (A 7, .inr (8, ([.int (gi S 8), .ref (A 56), .ref (A 57), .ref (A 58), .ref (A 59), .ref (A 60)] : List Value).set 0 (.int v)))) H) : va_P D vwCl (wC Y A S1) H := by subst e; exact h
theorem pC9_1 {D : va_G} {Y : Nat → ClassId} {A : Nat → Nat} {S S1 : gS} {H : Heap} {v : Int64} (e : S1 = sL S 0 v) (h : va_P D vwCl ((wC Y A S).set 9 (A 9, .inr (2, ([.ref (A 64), .long (gl S 0), .long (gl S 1)] : List Value).set 1 (.long v)))) H) : va_P D vwCl (wC Y A S1) H := by subst e; exact h
theorem pC9_2 {D : va_G} {Y : Nat → ClassId} {A : Nat → Nat} {S S1 : gS} {H : Heap} {v : Int64} (e : S1 = sL S 1 v) (h : va_P D vwCl ((wC Y A S).set 9 (A 9, .inr (2, ([.ref (A 64), .long (gl S 0), .long (gl S 1)] : List Value).set 2 (.long v)))) H) : va_P D vwCl (wC Y A S1) H := by subst e; exact h
theorem uC10 {D : va_G} {Y : Nat → ClassId} {A : Nat → Nat} {S S1 : gS} {H : Heap} {f : Nat → Int32} (e : S1 = sA S 0 f) (h : va_P D vwCl ((wC Y A S).set 10 (A 10, .inl (Y 0, 8, .inl f))) H) : va_P D vwCl (wC Y A S1) H := by subst e; exact h
theorem uC11 {D : va_G} {Y : Nat → ClassId} {A : Nat → Nat} {S S1 : gS} {H : Heap} {f : Nat → Int32} (e : S1 = sA S 1 f) (h : va_P D vwCl ((wC Y A S).set 11 (A 11, .inl (Y 0, 8, .inl f))) H) : va_P D vwCl (wC Y A S1) H := by subst e; exact h
theorem uC13 {D : va_G} {Y : Nat → ClassId} {A : Nat → Nat} {S S1 : gS} {H : Heap} {f : Nat → Int32} (e : S1 = sA S 2 f) (h : va_P D vwCl ((wC Y A S).set 13 (A 13, .inl (Y 0, 30, .inl f))) H) : va_P D vwCl (wC Y A S1) H := by subst e; exact h
theorem uC14 {D : va_G} {Y : Nat → ClassId} {A : Nat → Nat} {S S1 : gS} {H : Heap} {f : Nat → Int32} (e : S1 = sA S 3 f) (h : va_P D vwCl ((wC Y A S).set 14 (A 14, .inl (Y 0, 30, .inl f))) H) : va_P D vwCl (wC Y A S1) H := by subst e; exact h
theorem uC15 {D : va_G} {Y : Nat → ClassId} {A : Nat → Nat} {S S1 : gS} {H : Heap} {f : Nat → Int32} (e : S1 = sA S 4 f) (h : va_P D vwCl ((wC Y A S).set 15 (A 15, .inl (Y 0, 30, .inl f))) H) : va_P D vwCl (wC Y A S1) H := by subst e; exact h
theorem uC16 {D : va_G} {Y : Nat → ClassId} {A : Nat → Nat} {S S1 : gS} {H : Heap} {f : Nat → Int32} (e : S1 = sA S 5 f) (h : va_P D vwCl ((wC Y A S).set 16 (A 16, .inl (Y 0, 30, .inl f))) H) : va_P D vwCl (wC Y A S1) H := by subst e; exact h
theorem uC17 {D : va_G} {Y : Nat → ClassId} {A : Nat → Nat} {S S1 : gS} {H : Heap} {f : Nat → Int32} (e : S1 = sA S 6 f) (h : va_P D vwCl ((wC Y A S).set 17 (A 17, .inl (Y 0, 4, .inl f))) H) : va_P D vwCl (wC Y A S1) H := by subst e; exact h
theorem uC18 {D : va_G} {Y : Nat → ClassId} {A : Nat → Nat} {S S1 : gS} {H : Heap} {f : Nat → Int32} (e : S1 = sA S 7 f) (h : va_P D vwCl ((wC Y A S).set 18 (A 18, .inl (Y 0, 6, .inl f))) H) : va_P D vwCl (wC Y A S1) H := by subst e; exact h
theorem uC19 {D : va_G} {Y : Nat → ClassId} {A : Nat → Nat} {S S1 : gS} {H : Heap} {f : Nat → Int32} (e : S1 = sA S 8 f) (h : va_P D vwCl ((wC Y A S).set 19 (A 19, .inl (Y 0, 6, .inl f))) H) : va_P D vwCl (wC Y A S1) H := by subst e; exact h
theorem uC20 {D : va_G} {Y : Nat → ClassId} {A : Nat → Nat} {S S1 : gS} {H : Heap} {f : Nat → Int32} (e : S1 = sA S 9 f) (h : va_P D vwCl ((wC Y A S).set 20 (A 20, .inl (Y 0, 6, .inl f))) H) : va_P D vwCl (wC Y A S1) H := by subst e; exact h
theorem uC21 {D : va_G} {Y : Nat → ClassId} {A : Nat → Nat} {S S1 : gS} {H : Heap} {f : Nat → Int32} (e : S1 = sA S 10 f) (h : va_P D vwCl ((wC Y A S).set 21 (A 21, .inl (Y 0, 6, .inl f))) H) : va_P D vwCl (wC Y A S1) H := by subst e; exact h
theorem uC22 {D : va_G} {Y : Nat → ClassId} {A : Nat → Nat} {S S1 : gS} {H : Heap} {f : Nat → Int32} (e : S1 = sA S 11 f) (h : va_P D vwCl ((wC Y A S).set 22 (A 22, .inl (Y 0, 6, .inl f))) H) : va_P D vwCl (wC Y A S1) H := by subst e; exact h
theorem uC23 {D : va_G} {Y : Nat → ClassId} {A : Nat → Nat} {S S1 : gS} {H : Heap} {f : Nat → Int32} (e : S1 = sA S 12 f) (h : va_P D vwCl ((wC Y A S).set 23 (A 23, .inl (Y 1, 6, .inl f))) H) : va_P D vwCl (wC Y A S1) H := by subst e; exact h
theorem uC24 {D : va_G} {Y : Nat → ClassId} {A : Nat → Nat} {S S1 : gS} {H : Heap} {f : Nat → Int32} (e : S1 = sA S 13 f) (h : va_P D vwCl ((wC Y A S).set 24 (A 24, .inl (Y 0, 6, .inl f))) H) : va_P D vwCl (wC Y A S1) H := by subst e; exact h
theorem uC25 {D : va_G} {Y : Nat → ClassId} {A : Nat → Nat} {S S1 : gS} {H : Heap} {f : Nat → Int32} (e : S1 = sA S 14 f) (h : va_P D vwCl ((wC Y A S).set 25 (A 25, .inl (Y 0, 8, .inl f))) H) : va_P D vwCl (wC Y A S1) H := by subst e; exact h
theorem uC26 {D : va_G} {Y : Nat → ClassId} {A : Nat → Nat} {S S1 : gS} {H : Heap} {f : Nat → Int32} (e : S1 = sA S 15 f) (h : va_P D vwCl ((wC Y A S).set 26 (A 26, .inl (Y 0, 8, .inl f))) H) : va_P D vwCl (wC Y A S1) H := by subst e; exact h
theorem uC27 {D : va_G} {Y : Nat → ClassId} {A : Nat → Nat} {S S1 : gS} {H : Heap} {f : Nat → Int32} (e : S1 = sA S 16 f) (h : va_P D vwCl ((wC Y A S).set 27 (A 27, .inl (Y 0, 8, .inl f))) H) : va_P D vwCl (wC Y A S1) H := by subst e; exact h
theorem uC28 {D : va_G} {Y : Nat → ClassId} {A : Nat → Nat} {S S1 : gS} {H : Heap} {f : Nat → Int32} (e : S1 = sA S 17 f) (h : va_P D vwCl ((wC Y A S).set 28 (A 28, .inl (Y 0, 8, .inl f))) H) : va_P D vwCl (wC Y A S1) H := by subst e; exact h
theorem uC29 {D : va_G} {Y : Nat → ClassId} {A : Nat → Nat} {S S1 : gS} {H : Heap} {f : Nat → Int32} (e : S1 = sA S 18 f) (h : va_P D vwCl ((wC Y A S).set 29 (A 29, .inl (Y 0, 8, .inl f))) H) : va_P D vwCl (wC Y A S1) H := by subst e; exact h
theorem uC30 {D : va_G} {Y : Nat → ClassId} {A : Nat → Nat} {S S1 : gS} {H : Heap} {f : Nat → Int32} (e : S1 = sA S 19 f) (h : va_P D vwCl ((wC Y A S).set 30 (A 30, .inl (Y 0, 8, .inl f))) H) : va_P D vwCl (wC Y A S1) H := by subst e; exact h
theorem uC31 {D : va_G} {Y : Nat → ClassId} {A : Nat → Nat} {S S1 : gS} {H : Heap} {f : Nat → Int32} (e : S1 = sA S 20 f) (h : va_P D vwCl ((wC Y A S).set 31 (A 31, .inl (Y 0, 8, .inl f))) H) : va_P D vwCl (wC Y A S1) H := by subst e; exact h
theorem uC33 {D : va_G} {Y : Nat → ClassId} {A : Nat → Nat} {S S1 : gS} {H : Heap} {f : Nat → Int32} (e : S1 = sA S 21 f) (h : va_P D vwCl ((wC Y A S).set 33 (A 33, .inl (Y 0, 6, .inl f))) H) : va_P D vwCl (wC Y A S1) H := by subst e; exact h
theorem uC34 {D : va_G} {Y : Nat → ClassId} {A : Nat → Nat} {S S1 : gS} {H : Heap} {f : Nat → Int32} (e : S1 = sA S 22 f) (h : va_P D vwCl ((wC Y A S).set 34 (A 34, .inl (Y 0, 6, .inl f))) H) : va_P D vwCl (wC Y A S1) H := by subst e; exact h
theorem uC35 {D : va_G} {Y : Nat → ClassId} {A : Nat → Nat} {S S1 : gS} {H : Heap} {f : Nat → Int32} (e : S1 = sA S 23 f) (h : va_P D vwCl ((wC Y A S).set 35 (A 35, .inl (Y 0, 6, .inl f))) H) : va_P D vwCl (wC Y A S1) H := by subst e; exact h
theorem uC36 {D : va_G} {Y : Nat → ClassId} {A : Nat → Nat} {S S1 : gS} {H : Heap} {f : Nat → Int32} (e : S1 = sA S 24 f) (h : va_P D vwCl ((wC Y A S).set 36 (A 36, .inl (Y 0, 6, .inl f))) H) : va_P D vwCl (wC Y A S1) H := by subst e; exact h
theorem uC37 {D : va_G} {Y : Nat → ClassId} {A : Nat → Nat} {S S1 : gS} {H : Heap} {f : Nat → Int32} (e : S1 = sA S 25 f) (h : va_P D vwCl ((wC Y A S).set 37 (A 37, .inl (Y 0, 6, .inl f))) H) : va_P D vwCl (wC Y A S1) H := by subst e; exact h
theorem uC38 {D : va_G} {Y : Nat → ClassId} {A : Nat → Nat} {S S1 : gS} {H : Heap} {f : Nat → Int32} (e : S1 = sA S 26 f) (h : va_P D vwCl ((wC Y A S).set 38 (A 38, .inl (Y 0, 6, .inl f))) H) : va_P D vwCl (wC Y A S1) H := by subst e; exact h
theorem uC39 {D : va_G} {Y : Nat → ClassId} {A : Nat → Nat} {S S1 : gS} {H : Heap} {f : Nat → Int32} (e : S1 = sA S 27 f) (h : va_P D vwCl ((wC Y A S).set 39 (A 39, .inl (Y 0, 6, .inl f))) H) : va_P D vwCl (wC Y A S1) H := by subst e; exact h
theorem uC40 {D : va_G} {Y : Nat → ClassId} {A : Nat → Nat} {S S1 : gS} {H : Heap} {f : Nat → Int32} (e : S1 = sA S 28 f) (h : va_P D vwCl ((wC Y A S).set 40 (A 40, .inl (Y 0, 6, .inl f))) H) : va_P D vwCl (wC Y A S1) H := by subst e; exact h
theorem uC41 {D : va_G} {Y : Nat → ClassId} {A : Nat → Nat} {S S1 : gS} {H : Heap} {f : Nat → Int32} (e : S1 = sA S 29 f) (h : va_P D vwCl ((wC Y A S).set 41 (A 41, .inl (Y 0, 12, .inl f))) H) : va_P D vwCl (wC Y A S1) H := by subst e; exact h
theorem uC42 {D : va_G} {Y : Nat → ClassId} {A : Nat → Nat} {S S1 : gS} {H : Heap} {f : Nat → Int32} (e : S1 = sA S 30 f) (h : va_P D vwCl ((wC Y A S).set 42 (A 42, .inl (Y 0, 12, .inl f))) H) : va_P D vwCl (wC Y A S1) H := by subst e; exact h
theorem uC43 {D : va_G} {Y : Nat → ClassId} {A : Nat → Nat} {S S1 : gS} {H : Heap} {f : Nat → Int32} (e : S1 = sA S 31 f) (h : va_P D vwCl ((wC Y A S).set 43 (A 43, .inl (Y 0, 12, .inl f))) H) : va_P D vwCl (wC Y A S1) H := by subst e; exact h
theorem uC44 {D : va_G} {Y : Nat → ClassId} {A : Nat → Nat} {S S1 : gS} {H : Heap} {f : Nat → Int32} (e : S1 = sA S 32 f) (h : va_P D vwCl ((wC Y A S).set 44 (A 44, .inl (Y 0, 12, .inl f))) H) : va_P D vwCl (wC Y A S1) H := by subst e; exact h
theorem uC45 {D : va_G} {Y : Nat → ClassId} {A : Nat → Nat} {S S1 : gS} {H : Heap} {f : Nat → Int32} (e : S1 = sA S 33 f) (h : va_P D vwCl ((wC Y A S).set 45 (A 45, .inl (Y 0, 12, .inl f))) H) : va_P D vwCl (wC Y A S1) H := by subst e; exact h
theorem uC46 {D : va_G} {Y : Nat → ClassId} {A : Nat → Nat} {S S1 : gS} {H : Heap} {f : Nat → Int64} (e : S1 = sC S f) (h : va_P D vwCl ((wC Y A S).set 46 (A 46, .inl (Y 2, 101, .inr (.inl f)))) H) : va_P D vwCl (wC Y A S1) H := by subst e; exact h
theorem uC47 {D : va_G} {Y : Nat → ClassId} {A : Nat → Nat} {S S1 : gS} {H : Heap} {f : Nat → Int32} (e : S1 = sA S 34 f) (h : va_P D vwCl ((wC Y A S).set 47 (A 47, .inl (Y 0, 100, .inl f))) H) : va_P D vwCl (wC Y A S1) H := by subst e; exact h
theorem uC48 {D : va_G} {Y : Nat → ClassId} {A : Nat → Nat} {S S1 : gS} {H : Heap} {f : Nat → Int32} (e : S1 = sA S 35 f) (h : va_P D vwCl ((wC Y A S).set 48 (A 48, .inl (Y 0, 100, .inl f))) H) : va_P D vwCl (wC Y A S1) H := by subst e; exact h
theorem uC49 {D : va_G} {Y : Nat → ClassId} {A : Nat → Nat} {S S1 : gS} {H : Heap} {f : Nat → Int32} (e : S1 = sA S 36 f) (h : va_P D vwCl ((wC Y A S).set 49 (A 49, .inl (Y 0, 100, .inl f))) H) : va_P D vwCl (wC Y A S1) H := by subst e; exact h
theorem uC50 {D : va_G} {Y : Nat → ClassId} {A : Nat → Nat} {S S1 : gS} {H : Heap} {f : Nat → Int32} (e : S1 = sA S 37 f) (h : va_P D vwCl ((wC Y A S).set 50 (A 50, .inl (Y 0, 100, .inl f))) H) : va_P D vwCl (wC Y A S1) H := by subst e; exact h
theorem uC51 {D : va_G} {Y : Nat → ClassId} {A : Nat → Nat} {S S1 : gS} {H : Heap} {f : Nat → Int32} (e : S1 = sA S 38 f) (h : va_P D vwCl ((wC Y A S).set 51 (A 51, .inl (Y 0, 100, .inl f))) H) : va_P D vwCl (wC Y A S1) H := by subst e; exact h
theorem uC52 {D : va_G} {Y : Nat → ClassId} {A : Nat → Nat} {S S1 : gS} {H : Heap} {f : Nat → Int32} (e : S1 = sA S 39 f) (h : va_P D vwCl ((wC Y A S).set 52 (A 52, .inl (Y 0, 100, .inl f))) H) : va_P D vwCl (wC Y A S1) H := by subst e; exact h
theorem uC53 {D : va_G} {Y : Nat → ClassId} {A : Nat → Nat} {S S1 : gS} {H : Heap} {f : Nat → Int32} (e : S1 = sA S 40 f) (h : va_P D vwCl ((wC Y A S).set 53 (A 53, .inl (Y 0, 20, .inl f))) H) : va_P D vwCl (wC Y A S1) H := by subst e; exact h
theorem uC54 {D : va_G} {Y : Nat → ClassId} {A : Nat → Nat} {S S1 : gS} {H : Heap} {f : Nat → Int32} (e : S1 = sA S 41 f) (h : va_P D vwCl ((wC Y A S).set 54 (A 54, .inl (Y 0, 20, .inl f))) H) : va_P D vwCl (wC Y A S1) H := by subst e; exact h
theorem uC55 {D : va_G} {Y : Nat → ClassId} {A : Nat → Nat} {S S1 : gS} {H : Heap} {f : Nat → Int32} (e : S1 = sA S 42 f) (h : va_P D vwCl ((wC Y A S).set 55 (A 55, .inl (Y 0, 20, .inl f))) H) : va_P D vwCl (wC Y A S1) H := by subst e; exact h
theorem uC56 {D : va_G} {Y : Nat → ClassId} {A : Nat → Nat} {S S1 : gS} {H : Heap} {f : Nat → Int32} (e : S1 = sA S 43 f) (h : va_P D vwCl ((wC Y A S).set 56 (A 56, .inl (Y 0, 60, .inl f))) H) : va_P D vwCl (wC Y A S1) H := by subst e; exact h
theorem uC57 {D : va_G} {Y : Nat → ClassId} {A : Nat → Nat} {S S1 : gS} {H : Heap} {f : Nat → Int32} (e : S1 = sA S 44 f) (h : va_P D vwCl ((wC Y A S).set 57 (A 57, .inl (Y 0, 60, .inl f))) H) : va_P D vwCl (wC Y A S1) H := by subst e; exact h
theorem uC58 {D : va_G} {Y : Nat → ClassId} {A : Nat → Nat} {S S1 : gS} {H : Heap} {f : Nat → Int32} (e : S1 = sA S 45 f) (h : va_P D vwCl ((wC Y A S).set 58 (A 58, .inl (Y 0, 60, .inl f))) H) : va_P D vwCl (wC Y A S1) H := by subst e; exact h
theorem uC59 {D : va_G} {Y : Nat → ClassId} {A : Nat → Nat} {S S1 : gS} {H : Heap} {f : Nat → Int32} (e : S1 = sA S 46 f) (h : va_P D vwCl ((wC Y A S).set 59 (A 59, .inl (Y 0, 6, .inl f))) H) : va_P D vwCl (wC Y A S1) H := by subst e; exact h
theorem uC60 {D : va_G} {Y : Nat → ClassId} {A : Nat → Nat} {S S1 : gS} {H : Heap} {f : Nat → Int32} (e : S1 = sA S 47 f) (h : va_P D vwCl ((wC Y A S).set 60 (A 60, .inl (Y 0, 6, .inl f))) H) : va_P D vwCl (wC Y A S1) H := by subst e; exact h
theorem uC61 {D : va_G} {Y : Nat → ClassId} {A : Nat → Nat} {S S1 : gS} {H : Heap} {f : Nat → Int32} (e : S1 = sA S 48 f) (h : va_P D vwCl ((wC Y A S).set 61 (A 61, .inl (Y 0, 34, .inl f))) H) : va_P D vwCl (wC Y A S1) H := by subst e; exact h
theorem uC62 {D : va_G} {Y : Nat → ClassId} {A : Nat → Nat} {S S1 : gS} {H : Heap} {f : Nat → Int32} (e : S1 = sA S 49 f) (h : va_P D vwCl ((wC Y A S).set 62 (A 62, .inl (Y 0, 34, .inl f))) H) : va_P D vwCl (wC Y A S1) H := by subst e; exact h
theorem uC63 {D : va_G} {Y : Nat → ClassId} {A : Nat → Nat} {S S1 : gS} {H : Heap} {f : Nat → Int32} (e : S1 = sA S 50 f) (h : va_P D vwCl ((wC Y A S).set 63 (A 63, .inl (Y 0, 34, .inl f))) H) : va_P D vwCl (wC Y A S1) H := by subst e; exact h
theorem uC64 {D : va_G} {Y : Nat → ClassId} {A : Nat → Nat} {S S1 : gS} {H : Heap} {f : Nat → Int32} (e : S1 = sA S 51 f) (h : va_P D vwCl ((wC Y A S).set 64 (A 64, .inl (Y 0, 6, .inl f))) H) : va_P D vwCl (wC Y A S1) H := by subst e; exact h
theorem arC12 (Y : Nat → ClassId) (A : Nat → Nat) (S : gS) {j : Nat} (h : j < 4) : (wC Y A S)[13 + j]? = some (A (13 + j), .inl (Y 0, 30, .inl (ga S (2 + j)))) := by
  match j, h with
  | 0, _ => rfl
  | 1, _ => rfl
  | 2, _ => rfl
  | 3, _ => rfl
  | j + 4, h => omega
theorem urC12 {D : va_G} {Y : Nat → ClassId} {A : Nat → Nat} {S S1 : gS} {H : Heap} {j : Nat} (hj : j < 4) {f : Nat → Int32} (e : S1 = sA S (2 + j) f) (h : va_P D vwCl ((wC Y A S).set (13 + j) (A (13 + j), .inl (Y 0, 30, .inl f))) H) : va_P D vwCl (wC Y A S1) H := by
  subst e
  match j, hj, h with
  | 0, _, h => exact h
  | 1, _, h => exact h
  | 2, _, h => exact h
  | 3, _, h => exact h
  | j + 4, hj, _ => omega
theorem arC32 (Y : Nat → ClassId) (A : Nat → Nat) (S : gS) {j : Nat} (h : j < 8) : (wC Y A S)[33 + j]? = some (A (33 + j), .inl (Y 0, 6, .inl (ga S (21 + j)))) := by
  match j, h with
  | 0, _ => rfl
  | 1, _ => rfl
  | 2, _ => rfl
  | 3, _ => rfl
  | 4, _ => rfl
  | 5, _ => rfl
  | 6, _ => rfl
  | 7, _ => rfl
  | j + 8, h => omega
theorem urC32 {D : va_G} {Y : Nat → ClassId} {A : Nat → Nat} {S S1 : gS} {H : Heap} {j : Nat} (hj : j < 8) {f : Nat → Int32} (e : S1 = sA S (21 + j) f) (h : va_P D vwCl ((wC Y A S).set (33 + j) (A (33 + j), .inl (Y 0, 6, .inl f))) H) : va_P D vwCl (wC Y A S1) H := by
  subst e
  match j, hj, h with
  | 0, _, h => exact h
  | 1, _, h => exact h
  | 2, _, h => exact h
  | 3, _, h => exact h
  | 4, _, h => exact h
  | 5, _, h => exact h
  | 6, _, h => exact h
  | 7, _, h => exact h
  | j + 8, hj, _ => omega
def iC (A : Nat → Nat) : Prop := ∀ i j, i < 65 → j < 65 → A i = A j → i = j
theorem dC {Y : Nat → ClassId} {A : Nat → Nat} (hI : iC A) (S : gS) {A0 : Nat → Prop} (ha : ∀ k, k < 65 → A0 (A k)) : va_D A0 (wC Y A S) := gD rfl hI ha
/-! the world of M: 44 cells; ints 0 X10.seed, 1 X10.night, 2 X10.boats, 3 X10.hides, 4 X10.lots, 5 X10.drawMany, 6 X10.price, 7 X10.laws, 8 X10.words; longs 0 gameAbove, 1 gameBelow -/
-- arrays: 0 X10.depth, 1 X10.worth, 2 X10.rowSize, 3 X10.row, 4 X10.led, 5 X10.draught, 6 X10.hold, 7 X10.strength, 8 X10.bold, 9 X10.aboard, 10 X10.away, 11 X10.home, 12 X10.fear, 13 X10.hideCove, 14 X10.hideRoom, 15 X10.hideCost, 16 X10.guess, 17 X10.lotBoat, 18 X10.lotCasks, 19 X10.lotNight, 20 X10.lotCove, 21 X10.lotLies, 22 X10.lotHide, 23 X10.standing, 24 X10.shares, 25 X10.bribed, 26 X10.there, 27 X10.came, 28 X10.lawCrew, 29 X10.lawInformer, 30 X10.lawNight, 31 X10.wordOf, 32 X10.wordNight, 33 X10.wordCove, 34 X10.right, 35 X10.wrong, 36 X10.usedLeast, 37 X10.usedMost, 38 X10.usedLaw, 39 X10.coins, 40 X10.refused, 41 X10.between, 42 X10.sorted
def wM (Y : Nat → ClassId) (A : Nat → Nat) (S : gS) : va_W := [(A 0, .inr (10, [.int (gi S 0), .int (gi S 1), .ref (A 1), .ref (A 2), .ref (A 3), .ref (A 4), .ref (A 5), .int (gi S 2), .ref (A 6), .ref (A 7), .ref (A 8), .ref (A 9), .ref (A 10), .ref (A 11), .ref (A 12), .ref (A 13), .int (gi S 3), .ref (A 14), .ref (A 15), .ref (A 16), .ref (A 17), .int (gi S 4), .ref (A 18), .ref (A 19), .ref (A 20), .ref (A 21), .ref (A 22), .ref (A 23), .ref (A 24), .ref (A 25), .ref (A 26), .ref (A 27), .ref (A 28), .int (gi S 5), .int (gi S 6), .int (gi S 7), .ref (A 29), .ref (A 30), .ref (A 31), .int (gi S 8), .ref (A 32), .ref (A 33), .ref (A 34), .ref (A 35), .ref (A 36), .ref (A 37), .ref (A 38), .ref (A 39), .ref (A 40), .ref (A 41), .ref (A 42), .ref (A 43), .long (gl S 0), .long (gl S 1)])), (A 1, .inl (Y 0, 6, .inl (ga S 0))), (A 2, .inl (Y 0, 6, .inl (ga S 1))), (A 3, .inl (Y 0, 4, .inl (ga S 2))), (A 4, .inl (Y 0, 120, .inl (ga S 3))), (A 5, .inl (Y 0, 6, .inl (ga S 4))), (A 6, .inl (Y 0, 8, .inl (ga S 5))), (A 7, .inl (Y 0, 8, .inl (ga S 6))), (A 8, .inl (Y 0, 8, .inl (ga S 7))), (A 9, .inl (Y 0, 8, .inl (ga S 8))), (A 10, .inl (Y 0, 8, .inl (ga S 9))), (A 11, .inl (Y 0, 8, .inl (ga S 10))), (A 12, .inl (Y 0, 8, .inl (ga S 11))), (A 13, .inl (Y 0, 48, .inl (ga S 12))), (A 14, .inl (Y 0, 12, .inl (ga S 13))), (A 15, .inl (Y 0, 12, .inl (ga S 14))), (A 16, .inl (Y 0, 12, .inl (ga S 15))), (A 17, .inl (Y 0, 12, .inl (ga S 16))), (A 18, .inl (Y 0, 100, .inl (ga S 17))), (A 19, .inl (Y 0, 100, .inl (ga S 18))), (A 20, .inl (Y 0, 100, .inl (ga S 19))), (A 21, .inl (Y 0, 100, .inl (ga S 20))), (A 22, .inl (Y 0, 100, .inl (ga S 21))), (A 23, .inl (Y 0, 100, .inl (ga S 22))), (A 24, .inl (Y 0, 6, .inl (ga S 23))), (A 25, .inl (Y 0, 6, .inl (ga S 24))), (A 26, .inl (Y 1, 6, .inl (ga S 25))), (A 27, .inl (Y 0, 6, .inl (ga S 26))), (A 28, .inl (Y 1, 6, .inl (ga S 27))), (A 29, .inl (Y 0, 20, .inl (ga S 28))), (A 30, .inl (Y 0, 20, .inl (ga S 29))), (A 31, .inl (Y 0, 20, .inl (ga S 30))), (A 32, .inl (Y 0, 60, .inl (ga S 31))), (A 33, .inl (Y 0, 60, .inl (ga S 32))), (A 34, .inl (Y 0, 60, .inl (ga S 33))), (A 35, .inl (Y 0, 6, .inl (ga S 34))), (A 36, .inl (Y 0, 6, .inl (ga S 35))), (A 37, .inl (Y 0, 34, .inl (ga S 36))), (A 38, .inl (Y 0, 34, .inl (ga S 37))), (A 39, .inl (Y 0, 34, .inl (ga S 38))), (A 40, .inl (Y 0, 8, .inl (ga S 39))), (A 41, .inl (Y 0, 8, .inl (ga S 40))), (A 42, .inl (Y 0, 30, .inl (ga S 41))), (A 43, .inl (Y 0, 6, .inl (ga S 42)))]
theorem aM0 (Y : Nat → ClassId) (A : Nat → Nat) (S : gS) : (wM Y A S)[0]? = some (A 0, .inr (10, [.int (gi S 0), .int (gi S 1), .ref (A 1), .ref (A 2), .ref (A 3), .ref (A 4), .ref (A 5), .int (gi S 2), .ref (A 6), .ref (A 7), .ref (A 8), .ref (A 9), .ref (A 10), .ref (A 11), .ref (A 12), .ref (A 13), .int (gi S 3), .ref (A 14), .ref (A 15), .ref (A 16), .ref (A 17), .int (gi S 4), .ref (A 18), .ref (A 19), .ref (A 20), .ref (A 21), .ref (A 22), .ref (A 23), .ref (A 24), .ref (A 25), .ref (A 26), .ref (A 27), .ref (A 28), .int (gi S 5), .int (gi S 6), .int (gi S 7), .ref (A 29), .ref (A 30), .ref (A 31), .int (gi S 8), .ref (A 32), .ref (A 33), .ref (A 34), .ref (A 35), .ref (A 36), .ref (A 37), .ref (A 38), .ref (A 39), .ref (A 40), .ref (A 41), .ref (A 42), .ref (A 43), .long (gl S 0), .long (gl S 1)])) := rfl
theorem aM1 (Y : Nat → ClassId) (A : Nat → Nat) (S : gS) : (wM Y A S)[1]? = some (A 1, .inl (Y 0, 6, .inl (ga S 0))) := rfl
theorem aM2 (Y : Nat → ClassId) (A : Nat → Nat) (S : gS) : (wM Y A S)[2]? = some (A 2, .inl (Y 0, 6, .inl (ga S 1))) := rfl
theorem aM3 (Y : Nat → ClassId) (A : Nat → Nat) (S : gS) : (wM Y A S)[3]? = some (A 3, .inl (Y 0, 4, .inl (ga S 2))) := rfl
theorem aM4 (Y : Nat → ClassId) (A : Nat → Nat) (S : gS) : (wM Y A S)[4]? = some (A 4, .inl (Y 0, 120, .inl (ga S 3))) := rfl
theorem aM5 (Y : Nat → ClassId) (A : Nat → Nat) (S : gS) : (wM Y A S)[5]? = some (A 5, .inl (Y 0, 6, .inl (ga S 4))) := rfl
theorem aM6 (Y : Nat → ClassId) (A : Nat → Nat) (S : gS) : (wM Y A S)[6]? = some (A 6, .inl (Y 0, 8, .inl (ga S 5))) := rfl
theorem aM7 (Y : Nat → ClassId) (A : Nat → Nat) (S : gS) : (wM Y A S)[7]? = some (A 7, .inl (Y 0, 8, .inl (ga S 6))) := rfl
theorem aM8 (Y : Nat → ClassId) (A : Nat → Nat) (S : gS) : (wM Y A S)[8]? = some (A 8, .inl (Y 0, 8, .inl (ga S 7))) := rfl
theorem aM9 (Y : Nat → ClassId) (A : Nat → Nat) (S : gS) : (wM Y A S)[9]? = some (A 9, .inl (Y 0, 8, .inl (ga S 8))) := rfl
theorem aM10 (Y : Nat → ClassId) (A : Nat → Nat) (S : gS) : (wM Y A S)[10]? = some (A 10, .inl (Y 0, 8, .inl (ga S 9))) := rfl
theorem aM11 (Y : Nat → ClassId) (A : Nat → Nat) (S : gS) : (wM Y A S)[11]? = some (A 11, .inl (Y 0, 8, .inl (ga S 10))) := rfl
theorem aM12 (Y : Nat → ClassId) (A : Nat → Nat) (S : gS) : (wM Y A S)[12]? = some (A 12, .inl (Y 0, 8, .inl (ga S 11))) := rfl
theorem aM13 (Y : Nat → ClassId) (A : Nat → Nat) (S : gS) : (wM Y A S)[13]? = some (A 13, .inl (Y 0, 48, .inl (ga S 12))) := rfl
theorem aM14 (Y : Nat → ClassId) (A : Nat → Nat) (S : gS) : (wM Y A S)[14]? = some (A 14, .inl (Y 0, 12, .inl (ga S 13))) := rfl
theorem aM15 (Y : Nat → ClassId) (A : Nat → Nat) (S : gS) : (wM Y A S)[15]? = some (A 15, .inl (Y 0, 12, .inl (ga S 14))) := rfl
theorem aM16 (Y : Nat → ClassId) (A : Nat → Nat) (S : gS) : (wM Y A S)[16]? = some (A 16, .inl (Y 0, 12, .inl (ga S 15))) := rfl
theorem aM17 (Y : Nat → ClassId) (A : Nat → Nat) (S : gS) : (wM Y A S)[17]? = some (A 17, .inl (Y 0, 12, .inl (ga S 16))) := rfl
theorem aM18 (Y : Nat → ClassId) (A : Nat → Nat) (S : gS) : (wM Y A S)[18]? = some (A 18, .inl (Y 0, 100, .inl (ga S 17))) := rfl
theorem aM19 (Y : Nat → ClassId) (A : Nat → Nat) (S : gS) : (wM Y A S)[19]? = some (A 19, .inl (Y 0, 100, .inl (ga S 18))) := rfl
theorem aM20 (Y : Nat → ClassId) (A : Nat → Nat) (S : gS) : (wM Y A S)[20]? = some (A 20, .inl (Y 0, 100, .inl (ga S 19))) := rfl
theorem aM21 (Y : Nat → ClassId) (A : Nat → Nat) (S : gS) : (wM Y A S)[21]? = some (A 21, .inl (Y 0, 100, .inl (ga S 20))) := rfl
theorem aM22 (Y : Nat → ClassId) (A : Nat → Nat) (S : gS) : (wM Y A S)[22]? = some (A 22, .inl (Y 0, 100, .inl (ga S 21))) := rfl
theorem aM23 (Y : Nat → ClassId) (A : Nat → Nat) (S : gS) : (wM Y A S)[23]? = some (A 23, .inl (Y 0, 100, .inl (ga S 22))) := rfl
theorem aM24 (Y : Nat → ClassId) (A : Nat → Nat) (S : gS) : (wM Y A S)[24]? = some (A 24, .inl (Y 0, 6, .inl (ga S 23))) := rfl
theorem aM25 (Y : Nat → ClassId) (A : Nat → Nat) (S : gS) : (wM Y A S)[25]? = some (A 25, .inl (Y 0, 6, .inl (ga S 24))) := rfl
theorem aM26 (Y : Nat → ClassId) (A : Nat → Nat) (S : gS) : (wM Y A S)[26]? = some (A 26, .inl (Y 1, 6, .inl (ga S 25))) := rfl
theorem aM27 (Y : Nat → ClassId) (A : Nat → Nat) (S : gS) : (wM Y A S)[27]? = some (A 27, .inl (Y 0, 6, .inl (ga S 26))) := rfl
theorem aM28 (Y : Nat → ClassId) (A : Nat → Nat) (S : gS) : (wM Y A S)[28]? = some (A 28, .inl (Y 1, 6, .inl (ga S 27))) := rfl
theorem aM29 (Y : Nat → ClassId) (A : Nat → Nat) (S : gS) : (wM Y A S)[29]? = some (A 29, .inl (Y 0, 20, .inl (ga S 28))) := rfl
theorem aM30 (Y : Nat → ClassId) (A : Nat → Nat) (S : gS) : (wM Y A S)[30]? = some (A 30, .inl (Y 0, 20, .inl (ga S 29))) := rfl
theorem aM31 (Y : Nat → ClassId) (A : Nat → Nat) (S : gS) : (wM Y A S)[31]? = some (A 31, .inl (Y 0, 20, .inl (ga S 30))) := rfl
theorem aM32 (Y : Nat → ClassId) (A : Nat → Nat) (S : gS) : (wM Y A S)[32]? = some (A 32, .inl (Y 0, 60, .inl (ga S 31))) := rfl
theorem aM33 (Y : Nat → ClassId) (A : Nat → Nat) (S : gS) : (wM Y A S)[33]? = some (A 33, .inl (Y 0, 60, .inl (ga S 32))) := rfl
theorem aM34 (Y : Nat → ClassId) (A : Nat → Nat) (S : gS) : (wM Y A S)[34]? = some (A 34, .inl (Y 0, 60, .inl (ga S 33))) := rfl
theorem aM35 (Y : Nat → ClassId) (A : Nat → Nat) (S : gS) : (wM Y A S)[35]? = some (A 35, .inl (Y 0, 6, .inl (ga S 34))) := rfl
theorem aM36 (Y : Nat → ClassId) (A : Nat → Nat) (S : gS) : (wM Y A S)[36]? = some (A 36, .inl (Y 0, 6, .inl (ga S 35))) := rfl
theorem aM37 (Y : Nat → ClassId) (A : Nat → Nat) (S : gS) : (wM Y A S)[37]? = some (A 37, .inl (Y 0, 34, .inl (ga S 36))) := rfl
theorem aM38 (Y : Nat → ClassId) (A : Nat → Nat) (S : gS) : (wM Y A S)[38]? = some (A 38, .inl (Y 0, 34, .inl (ga S 37))) := rfl
theorem aM39 (Y : Nat → ClassId) (A : Nat → Nat) (S : gS) : (wM Y A S)[39]? = some (A 39, .inl (Y 0, 34, .inl (ga S 38))) := rfl
theorem aM40 (Y : Nat → ClassId) (A : Nat → Nat) (S : gS) : (wM Y A S)[40]? = some (A 40, .inl (Y 0, 8, .inl (ga S 39))) := rfl
theorem aM41 (Y : Nat → ClassId) (A : Nat → Nat) (S : gS) : (wM Y A S)[41]? = some (A 41, .inl (Y 0, 8, .inl (ga S 40))) := rfl
theorem aM42 (Y : Nat → ClassId) (A : Nat → Nat) (S : gS) : (wM Y A S)[42]? = some (A 42, .inl (Y 0, 30, .inl (ga S 41))) := rfl
theorem aM43 (Y : Nat → ClassId) (A : Nat → Nat) (S : gS) : (wM Y A S)[43]? = some (A 43, .inl (Y 0, 6, .inl (ga S 42))) := rfl
theorem pM0_0 {D : va_G} {Y : Nat → ClassId} {A : Nat → Nat} {S S1 : gS} {H : Heap} {v : Int32} (e : S1 = sI S 0 v) (h : va_P D vwCl ((wM Y A S).set 0 (A 0, .inr (10, ([.int (gi S 0), .int (gi S 1), .ref (A 1), .ref (A 2), .ref (A 3), .ref (A 4), .ref (A 5), .int (gi S 2), .ref (A 6), .ref (A 7), .ref (A 8), .ref (A 9), .ref (A 10), .ref (A 11), .ref (A 12), .ref (A 13), .int (gi S 3), .ref (A 14), .ref (A 15), .ref (A 16), .ref (A 17), .int (gi S 4), .ref (A 18), .ref (A 19), .ref (A 20), .ref (A 21), .ref (A 22), .ref (A 23), .ref (A 24), .ref (A 25), .ref (A 26), .ref (A 27), .ref (A 28), .int (gi S 5), .int (gi S 6), .int (gi S 7), .ref (A 29), .ref (A 30), .ref (A 31), .int (gi S 8), .ref (A 32), .ref (A 33), .ref (A 34), .ref (A 35), .ref (A 36), .ref (A 37), .ref (A 38), .ref (A 39), .ref (A 40), .ref (A 41), .ref (A 42), .ref (A 43), .long (gl S 0), .long (gl S 1)] : List Value).set 0 (.int v)))) H) : va_P D vwCl (wM Y A S1) H := by subst e; exact h
theorem pM0_1 {D : va_G} {Y : Nat → ClassId} {A : Nat → Nat} {S S1 : gS} {H : Heap} {v : Int32} (e : S1 = sI S 1 v) (h : va_P D vwCl ((wM Y A S).set 0 (A 0, .inr (10, ([.int (gi S 0), .int (gi S 1), .ref (A 1), .ref (A 2), .ref (A 3), .ref (A 4), .ref (A 5), .int (gi S 2), .ref (A 6), .ref (A 7), .ref (A 8), .ref (A 9), .ref (A 10), .ref (A 11), .ref (A 12), .ref (A 13), .int (gi S 3), .ref (A 14), .ref (A 15), .ref (A 16), .ref (A 17), .int (gi S 4), .ref (A 18), .ref (A 19), .ref (A 20), .ref (A 21), .ref (A 22), .ref (A 23), .ref (A 24), .ref (A 25), .ref (A 26), .ref (A 27), .ref (A 28), .int (gi S 5), .int (gi S 6), .int (gi S 7), .ref (A 29), .ref (A 30), .ref (A 31), .int (gi S 8), .ref (A 32), .ref (A 33), .ref (A 34), .ref (A 35), .ref (A 36), .ref (A 37), .ref (A 38), .ref (A 39), .ref (A 40), .ref (A 41), .ref (A 42), .ref (A 43), .long (gl S 0), .long (gl S 1)] : List Value).set 1 (.int v)))) H) : va_P D vwCl (wM Y A S1) H := by subst e; exact h
theorem pM0_7 {D : va_G} {Y : Nat → ClassId} {A : Nat → Nat} {S S1 : gS} {H : Heap} {v : Int32} (e : S1 = sI S 2 v) (h : va_P D vwCl ((wM Y A S).set 0 (A 0, .inr (10, ([.int (gi S 0), .int (gi S 1), .ref (A 1), .ref (A 2), .ref (A 3), .ref (A 4), .ref (A 5), .int (gi S 2), .ref (A 6), .ref (A 7), .ref (A 8), .ref (A 9), .ref (A 10), .ref (A 11), .ref (A 12), .ref (A 13), .int (gi S 3), .ref (A 14), .ref (A 15), .ref (A 16), .ref (A 17), .int (gi S 4), .ref (A 18), .ref (A 19), .ref (A 20), .ref (A 21), .ref (A 22), .ref (A 23), .ref (A 24), .ref (A 25), .ref (A 26), .ref (A 27), .ref (A 28), .int (gi S 5), .int (gi S 6), .int (gi S 7), .ref (A 29), .ref (A 30), .ref (A 31), .int (gi S 8), .ref (A 32), .ref (A 33), .ref (A 34), .ref (A 35), .ref (A 36), .ref (A 37), .ref (A 38), .ref (A 39), .ref (A 40), .ref (A 41), .ref (A 42), .ref (A 43), .long (gl S 0), .long (gl S 1)] : List Value).set 7 (.int v)))) H) : va_P D vwCl (wM Y A S1) H := by subst e; exact h
theorem pM0_16 {D : va_G} {Y : Nat → ClassId} {A : Nat → Nat} {S S1 : gS} {H : Heap} {v : Int32} (e : S1 = sI S 3 v) (h : va_P D vwCl ((wM Y A S).set 0 (A 0, .inr (10, ([.int (gi S 0), .int (gi S 1), .ref (A 1), .ref (A 2), .ref (A 3), .ref (A 4), .ref (A 5), .int (gi S 2), .ref (A 6), .ref (A 7), .ref (A 8), .ref (A 9), .ref (A 10), .ref (A 11), .ref (A 12), .ref (A 13), .int (gi S 3), .ref (A 14), .ref (A 15), .ref (A 16), .ref (A 17), .int (gi S 4), .ref (A 18), .ref (A 19), .ref (A 20), .ref (A 21), .ref (A 22), .ref (A 23), .ref (A 24), .ref (A 25), .ref (A 26), .ref (A 27), .ref (A 28), .int (gi S 5), .int (gi S 6), .int (gi S 7), .ref (A 29), .ref (A 30), .ref (A 31), .int (gi S 8), .ref (A 32), .ref (A 33), .ref (A 34), .ref (A 35), .ref (A 36), .ref (A 37), .ref (A 38), .ref (A 39), .ref (A 40), .ref (A 41), .ref (A 42), .ref (A 43), .long (gl S 0), .long (gl S 1)] : List Value).set 16 (.int v)))) H) : va_P D vwCl (wM Y A S1) H := by subst e; exact h
theorem pM0_21 {D : va_G} {Y : Nat → ClassId} {A : Nat → Nat} {S S1 : gS} {H : Heap} {v : Int32} (e : S1 = sI S 4 v) (h : va_P D vwCl ((wM Y A S).set 0 (A 0, .inr (10, ([.int (gi S 0), .int (gi S 1), .ref (A 1), .ref (A 2), .ref (A 3), .ref (A 4), .ref (A 5), .int (gi S 2), .ref (A 6), .ref (A 7), .ref (A 8), .ref (A 9), .ref (A 10), .ref (A 11), .ref (A 12), .ref (A 13), .int (gi S 3), .ref (A 14), .ref (A 15), .ref (A 16), .ref (A 17), .int (gi S 4), .ref (A 18), .ref (A 19), .ref (A 20), .ref (A 21), .ref (A 22), .ref (A 23), .ref (A 24), .ref (A 25), .ref (A 26), .ref (A 27), .ref (A 28), .int (gi S 5), .int (gi S 6), .int (gi S 7), .ref (A 29), .ref (A 30), .ref (A 31), .int (gi S 8), .ref (A 32), .ref (A 33), .ref (A 34), .ref (A 35), .ref (A 36), .ref (A 37), .ref (A 38), .ref (A 39), .ref (A 40), .ref (A 41), .ref (A 42), .ref (A 43), .long (gl S 0), .long (gl S 1)] : List Value).set 21 (.int v)))) H) : va_P D vwCl (wM Y A S1) H := by subst e; exact h
theorem pM0_33 {D : va_G} {Y : Nat → ClassId} {A : Nat → Nat} {S S1 : gS} {H : Heap} {v : Int32} (e : S1 = sI S 5 v) (h : va_P D vwCl ((wM Y A S).set 0 (A 0, .inr (10, ([.int (gi S 0), .int (gi S 1), .ref (A 1), .ref (A 2), .ref (A 3), .ref (A 4), .ref (A 5), .int (gi S 2), .ref (A 6), .ref (A 7), .ref (A 8), .ref (A 9), .ref (A 10), .ref (A 11), .ref (A 12), .ref (A 13), .int (gi S 3), .ref (A 14), .ref (A 15), .ref (A 16), .ref (A 17), .int (gi S 4), .ref (A 18), .ref (A 19), .ref (A 20), .ref (A 21), .ref (A 22), .ref (A 23), .ref (A 24), .ref (A 25), .ref (A 26), .ref (A 27), .ref (A 28), .int (gi S 5), .int (gi S 6), .int (gi S 7), .ref (A 29), .ref (A 30), .ref (A 31), .int (gi S 8), .ref (A 32), .ref (A 33), .ref (A 34), .ref (A 35), .ref (A 36), .ref (A 37), .ref (A 38), .ref (A 39), .ref (A 40), .ref (A 41), .ref (A 42), .ref (A 43), .long (gl S 0), .long (gl S 1)] : List Value).set 33 (.int v)))) H) : va_P D vwCl (wM Y A S1) H := by subst e; exact h
theorem pM0_34 {D : va_G} {Y : Nat → ClassId} {A : Nat → Nat} {S S1 : gS} {H : Heap} {v : Int32} (e : S1 = sI S 6 v) (h : va_P D vwCl ((wM Y A S).set 0 (A 0, .inr (10, ([.int (gi S 0), .int (gi S 1), .ref (A 1), .ref (A 2), .ref (A 3), .ref (A 4), .ref (A 5), .int (gi S 2), .ref (A 6), .ref (A 7), .ref (A 8), .ref (A 9), .ref (A 10), .ref (A 11), .ref (A 12), .ref (A 13), .int (gi S 3), .ref (A 14), .ref (A 15), .ref (A 16), .ref (A 17), .int (gi S 4), .ref (A 18), .ref (A 19), .ref (A 20), .ref (A 21), .ref (A 22), .ref (A 23), .ref (A 24), .ref (A 25), .ref (A 26), .ref (A 27), .ref (A 28), .int (gi S 5), .int (gi S 6), .int (gi S 7), .ref (A 29), .ref (A 30), .ref (A 31), .int (gi S 8), .ref (A 32), .ref (A 33), .ref (A 34), .ref (A 35), .ref (A 36), .ref (A 37), .ref (A 38), .ref (A 39), .ref (A 40), .ref (A 41), .ref (A 42), .ref (A 43), .long (gl S 0), .long (gl S 1)] : List Value).set 34 (.int v)))) H) : va_P D vwCl (wM Y A S1) H := by subst e; exact h
theorem pM0_35 {D : va_G} {Y : Nat → ClassId} {A : Nat → Nat} {S S1 : gS} {H : Heap} {v : Int32} (e : S1 = sI S 7 v) (h : va_P D vwCl ((wM Y A S).set 0 (A 0, .inr (10, ([.int (gi S 0), .int (gi S 1), .ref (A 1), .ref (A 2), .ref (A 3), .ref (A 4), .ref (A 5), .int (gi S 2), .ref (A 6), .ref (A 7), .ref (A 8), .ref (A 9), .ref (A 10), .ref (A 11), .ref (A 12), .ref (A 13), .int (gi S 3), .ref (A 14), .ref (A 15), .ref (A 16), .ref (A 17), .int (gi S 4), .ref (A 18), .ref (A 19), .ref (A 20), .ref (A 21), .ref (A 22), .ref (A 23), .ref (A 24), .ref (A 25), .ref (A 26), .ref (A 27), .ref (A 28), .int (gi S 5), .int (gi S 6), .int (gi S 7), .ref (A 29), .ref (A 30), .ref (A 31), .int (gi S 8), .ref (A 32), .ref (A 33), .ref (A 34), .ref (A 35), .ref (A 36), .ref (A 37), .ref (A 38), .ref (A 39), .ref (A 40), .ref (A 41), .ref (A 42), .ref (A 43), .long (gl S 0), .long (gl S 1)] : List Value).set 35 (.int v)))) H) : va_P D vwCl (wM Y A S1) H := by subst e; exact h
theorem pM0_39 {D : va_G} {Y : Nat → ClassId} {A : Nat → Nat} {S S1 : gS} {H : Heap} {v : Int32} (e : S1 = sI S 8 v) (h : va_P D vwCl ((wM Y A S).set 0 (A 0, .inr (10, ([.int (gi S 0), .int (gi S 1), .ref (A 1), .ref (A 2), .ref (A 3), .ref (A 4), .ref (A 5), .int (gi S 2), .ref (A 6), .ref (A 7), .ref (A 8), .ref (A 9), .ref (A 10), .ref (A 11), .ref (A 12), .ref (A 13), .int (gi S 3), .ref (A 14), .ref (A 15), .ref (A 16), .ref (A 17), .int (gi S 4), .ref (A 18), .ref (A 19), .ref (A 20), .ref (A 21), .ref (A 22), .ref (A 23), .ref (A 24), .ref (A 25), .ref (A 26), .ref (A 27), .ref (A 28), .int (gi S 5), .int (gi S 6), .int (gi S 7), .ref (A 29), .ref (A 30), .ref (A 31), .int (gi S 8), .ref (A 32), .ref (A 33), .ref (A 34), .ref (A 35), .ref (A 36), .ref (A 37), .ref (A 38), .ref (A 39), .ref (A 40), .ref (A 41), .ref (A 42), .ref (A 43), .long (gl S 0), .long (gl S 1)] : List Value).set 39 (.int v)))) H) : va_P D vwCl (wM Y A S1) H := by subst e; exact h
theorem pM0_52 {D : va_G} {Y : Nat → ClassId} {A : Nat → Nat} {S S1 : gS} {H : Heap} {v : Int64} (e : S1 = sL S 0 v) (h : va_P D vwCl ((wM Y A S).set 0 (A 0, .inr (10, ([.int (gi S 0), .int (gi S 1), .ref (A 1), .ref (A 2), .ref (A 3), .ref (A 4), .ref (A 5), .int (gi S 2), .ref (A 6), .ref (A 7), .ref (A 8), .ref (A 9), .ref (A 10), .ref (A 11), .ref (A 12), .ref (A 13), .int (gi S 3), .ref (A 14), .ref (A 15), .ref (A 16), .ref (A 17), .int (gi S 4), .ref (A 18), .ref (A 19), .ref (A 20), .ref (A 21), .ref (A 22), .ref (A 23), .ref (A 24), .ref (A 25), .ref (A 26), .ref (A 27), .ref (A 28), .int (gi S 5), .int (gi S 6), .int (gi S 7), .ref (A 29), .ref (A 30), .ref (A 31), .int (gi S 8), .ref (A 32), .ref (A 33), .ref (A 34), .ref (A 35), .ref (A 36), .ref (A 37), .ref (A 38), .ref (A 39), .ref (A 40), .ref (A 41), .ref (A 42), .ref (A 43), .long (gl S 0), .long (gl S 1)] : List Value).set 52 (.long v)))) H) : va_P D vwCl (wM Y A S1) H := by subst e; exact h
theorem pM0_53 {D : va_G} {Y : Nat → ClassId} {A : Nat → Nat} {S S1 : gS} {H : Heap} {v : Int64} (e : S1 = sL S 1 v) (h : va_P D vwCl ((wM Y A S).set 0 (A 0, .inr (10, ([.int (gi S 0), .int (gi S 1), .ref (A 1), .ref (A 2), .ref (A 3), .ref (A 4), .ref (A 5), .int (gi S 2), .ref (A 6), .ref (A 7), .ref (A 8), .ref (A 9), .ref (A 10), .ref (A 11), .ref (A 12), .ref (A 13), .int (gi S 3), .ref (A 14), .ref (A 15), .ref (A 16), .ref (A 17), .int (gi S 4), .ref (A 18), .ref (A 19), .ref (A 20), .ref (A 21), .ref (A 22), .ref (A 23), .ref (A 24), .ref (A 25), .ref (A 26), .ref (A 27), .ref (A 28), .int (gi S 5), .int (gi S 6), .int (gi S 7), .ref (A 29), .ref (A 30), .ref (A 31), .int (gi S 8), .ref (A 32), .ref (A 33), .ref (A 34), .ref (A 35), .ref (A 36), .ref (A 37), .ref (A 38), .ref (A 39), .ref (A 40), .ref (A 41), .ref (A 42), .ref (A 43), .long (gl S 0), .long (gl S 1)] : List Value).set 53 (.long v)))) H) : va_P D vwCl (wM Y A S1) H := by subst e; exact h
theorem uM1 {D : va_G} {Y : Nat → ClassId} {A : Nat → Nat} {S S1 : gS} {H : Heap} {f : Nat → Int32} (e : S1 = sA S 0 f) (h : va_P D vwCl ((wM Y A S).set 1 (A 1, .inl (Y 0, 6, .inl f))) H) : va_P D vwCl (wM Y A S1) H := by subst e; exact h
theorem uM2 {D : va_G} {Y : Nat → ClassId} {A : Nat → Nat} {S S1 : gS} {H : Heap} {f : Nat → Int32} (e : S1 = sA S 1 f) (h : va_P D vwCl ((wM Y A S).set 2 (A 2, .inl (Y 0, 6, .inl f))) H) : va_P D vwCl (wM Y A S1) H := by subst e; exact h
theorem uM3 {D : va_G} {Y : Nat → ClassId} {A : Nat → Nat} {S S1 : gS} {H : Heap} {f : Nat → Int32} (e : S1 = sA S 2 f) (h : va_P D vwCl ((wM Y A S).set 3 (A 3, .inl (Y 0, 4, .inl f))) H) : va_P D vwCl (wM Y A S1) H := by subst e; exact h
theorem uM4 {D : va_G} {Y : Nat → ClassId} {A : Nat → Nat} {S S1 : gS} {H : Heap} {f : Nat → Int32} (e : S1 = sA S 3 f) (h : va_P D vwCl ((wM Y A S).set 4 (A 4, .inl (Y 0, 120, .inl f))) H) : va_P D vwCl (wM Y A S1) H := by subst e; exact h
theorem uM5 {D : va_G} {Y : Nat → ClassId} {A : Nat → Nat} {S S1 : gS} {H : Heap} {f : Nat → Int32} (e : S1 = sA S 4 f) (h : va_P D vwCl ((wM Y A S).set 5 (A 5, .inl (Y 0, 6, .inl f))) H) : va_P D vwCl (wM Y A S1) H := by subst e; exact h
theorem uM6 {D : va_G} {Y : Nat → ClassId} {A : Nat → Nat} {S S1 : gS} {H : Heap} {f : Nat → Int32} (e : S1 = sA S 5 f) (h : va_P D vwCl ((wM Y A S).set 6 (A 6, .inl (Y 0, 8, .inl f))) H) : va_P D vwCl (wM Y A S1) H := by subst e; exact h
theorem uM7 {D : va_G} {Y : Nat → ClassId} {A : Nat → Nat} {S S1 : gS} {H : Heap} {f : Nat → Int32} (e : S1 = sA S 6 f) (h : va_P D vwCl ((wM Y A S).set 7 (A 7, .inl (Y 0, 8, .inl f))) H) : va_P D vwCl (wM Y A S1) H := by subst e; exact h
theorem uM8 {D : va_G} {Y : Nat → ClassId} {A : Nat → Nat} {S S1 : gS} {H : Heap} {f : Nat → Int32} (e : S1 = sA S 7 f) (h : va_P D vwCl ((wM Y A S).set 8 (A 8, .inl (Y 0, 8, .inl f))) H) : va_P D vwCl (wM Y A S1) H := by subst e; exact h
theorem uM9 {D : va_G} {Y : Nat → ClassId} {A : Nat → Nat} {S S1 : gS} {H : Heap} {f : Nat → Int32} (e : S1 = sA S 8 f) (h : va_P D vwCl ((wM Y A S).set 9 (A 9, .inl (Y 0, 8, .inl f))) H) : va_P D vwCl (wM Y A S1) H := by subst e; exact h
theorem uM10 {D : va_G} {Y : Nat → ClassId} {A : Nat → Nat} {S S1 : gS} {H : Heap} {f : Nat → Int32} (e : S1 = sA S 9 f) (h : va_P D vwCl ((wM Y A S).set 10 (A 10, .inl (Y 0, 8, .inl f))) H) : va_P D vwCl (wM Y A S1) H := by subst e; exact h
theorem uM11 {D : va_G} {Y : Nat → ClassId} {A : Nat → Nat} {S S1 : gS} {H : Heap} {f : Nat → Int32} (e : S1 = sA S 10 f) (h : va_P D vwCl ((wM Y A S).set 11 (A 11, .inl (Y 0, 8, .inl f))) H) : va_P D vwCl (wM Y A S1) H := by subst e; exact h
theorem uM12 {D : va_G} {Y : Nat → ClassId} {A : Nat → Nat} {S S1 : gS} {H : Heap} {f : Nat → Int32} (e : S1 = sA S 11 f) (h : va_P D vwCl ((wM Y A S).set 12 (A 12, .inl (Y 0, 8, .inl f))) H) : va_P D vwCl (wM Y A S1) H := by subst e; exact h
theorem uM13 {D : va_G} {Y : Nat → ClassId} {A : Nat → Nat} {S S1 : gS} {H : Heap} {f : Nat → Int32} (e : S1 = sA S 12 f) (h : va_P D vwCl ((wM Y A S).set 13 (A 13, .inl (Y 0, 48, .inl f))) H) : va_P D vwCl (wM Y A S1) H := by subst e; exact h
theorem uM14 {D : va_G} {Y : Nat → ClassId} {A : Nat → Nat} {S S1 : gS} {H : Heap} {f : Nat → Int32} (e : S1 = sA S 13 f) (h : va_P D vwCl ((wM Y A S).set 14 (A 14, .inl (Y 0, 12, .inl f))) H) : va_P D vwCl (wM Y A S1) H := by subst e; exact h
theorem uM15 {D : va_G} {Y : Nat → ClassId} {A : Nat → Nat} {S S1 : gS} {H : Heap} {f : Nat → Int32} (e : S1 = sA S 14 f) (h : va_P D vwCl ((wM Y A S).set 15 (A 15, .inl (Y 0, 12, .inl f))) H) : va_P D vwCl (wM Y A S1) H := by subst e; exact h
theorem uM16 {D : va_G} {Y : Nat → ClassId} {A : Nat → Nat} {S S1 : gS} {H : Heap} {f : Nat → Int32} (e : S1 = sA S 15 f) (h : va_P D vwCl ((wM Y A S).set 16 (A 16, .inl (Y 0, 12, .inl f))) H) : va_P D vwCl (wM Y A S1) H := by subst e; exact h
theorem uM17 {D : va_G} {Y : Nat → ClassId} {A : Nat → Nat} {S S1 : gS} {H : Heap} {f : Nat → Int32} (e : S1 = sA S 16 f) (h : va_P D vwCl ((wM Y A S).set 17 (A 17, .inl (Y 0, 12, .inl f))) H) : va_P D vwCl (wM Y A S1) H := by subst e; exact h
theorem uM18 {D : va_G} {Y : Nat → ClassId} {A : Nat → Nat} {S S1 : gS} {H : Heap} {f : Nat → Int32} (e : S1 = sA S 17 f) (h : va_P D vwCl ((wM Y A S).set 18 (A 18, .inl (Y 0, 100, .inl f))) H) : va_P D vwCl (wM Y A S1) H := by subst e; exact h
theorem uM19 {D : va_G} {Y : Nat → ClassId} {A : Nat → Nat} {S S1 : gS} {H : Heap} {f : Nat → Int32} (e : S1 = sA S 18 f) (h : va_P D vwCl ((wM Y A S).set 19 (A 19, .inl (Y 0, 100, .inl f))) H) : va_P D vwCl (wM Y A S1) H := by subst e; exact h
theorem uM20 {D : va_G} {Y : Nat → ClassId} {A : Nat → Nat} {S S1 : gS} {H : Heap} {f : Nat → Int32} (e : S1 = sA S 19 f) (h : va_P D vwCl ((wM Y A S).set 20 (A 20, .inl (Y 0, 100, .inl f))) H) : va_P D vwCl (wM Y A S1) H := by subst e; exact h
theorem uM21 {D : va_G} {Y : Nat → ClassId} {A : Nat → Nat} {S S1 : gS} {H : Heap} {f : Nat → Int32} (e : S1 = sA S 20 f) (h : va_P D vwCl ((wM Y A S).set 21 (A 21, .inl (Y 0, 100, .inl f))) H) : va_P D vwCl (wM Y A S1) H := by subst e; exact h
theorem uM22 {D : va_G} {Y : Nat → ClassId} {A : Nat → Nat} {S S1 : gS} {H : Heap} {f : Nat → Int32} (e : S1 = sA S 21 f) (h : va_P D vwCl ((wM Y A S).set 22 (A 22, .inl (Y 0, 100, .inl f))) H) : va_P D vwCl (wM Y A S1) H := by subst e; exact h
theorem uM23 {D : va_G} {Y : Nat → ClassId} {A : Nat → Nat} {S S1 : gS} {H : Heap} {f : Nat → Int32} (e : S1 = sA S 22 f) (h : va_P D vwCl ((wM Y A S).set 23 (A 23, .inl (Y 0, 100, .inl f))) H) : va_P D vwCl (wM Y A S1) H := by subst e; exact h
theorem uM24 {D : va_G} {Y : Nat → ClassId} {A : Nat → Nat} {S S1 : gS} {H : Heap} {f : Nat → Int32} (e : S1 = sA S 23 f) (h : va_P D vwCl ((wM Y A S).set 24 (A 24, .inl (Y 0, 6, .inl f))) H) : va_P D vwCl (wM Y A S1) H := by subst e; exact h
theorem uM25 {D : va_G} {Y : Nat → ClassId} {A : Nat → Nat} {S S1 : gS} {H : Heap} {f : Nat → Int32} (e : S1 = sA S 24 f) (h : va_P D vwCl ((wM Y A S).set 25 (A 25, .inl (Y 0, 6, .inl f))) H) : va_P D vwCl (wM Y A S1) H := by subst e; exact h
theorem uM26 {D : va_G} {Y : Nat → ClassId} {A : Nat → Nat} {S S1 : gS} {H : Heap} {f : Nat → Int32} (e : S1 = sA S 25 f) (h : va_P D vwCl ((wM Y A S).set 26 (A 26, .inl (Y 1, 6, .inl f))) H) : va_P D vwCl (wM Y A S1) H := by subst e; exact h
theorem uM27 {D : va_G} {Y : Nat → ClassId} {A : Nat → Nat} {S S1 : gS} {H : Heap} {f : Nat → Int32} (e : S1 = sA S 26 f) (h : va_P D vwCl ((wM Y A S).set 27 (A 27, .inl (Y 0, 6, .inl f))) H) : va_P D vwCl (wM Y A S1) H := by subst e; exact h
theorem uM28 {D : va_G} {Y : Nat → ClassId} {A : Nat → Nat} {S S1 : gS} {H : Heap} {f : Nat → Int32} (e : S1 = sA S 27 f) (h : va_P D vwCl ((wM Y A S).set 28 (A 28, .inl (Y 1, 6, .inl f))) H) : va_P D vwCl (wM Y A S1) H := by subst e; exact h
theorem uM29 {D : va_G} {Y : Nat → ClassId} {A : Nat → Nat} {S S1 : gS} {H : Heap} {f : Nat → Int32} (e : S1 = sA S 28 f) (h : va_P D vwCl ((wM Y A S).set 29 (A 29, .inl (Y 0, 20, .inl f))) H) : va_P D vwCl (wM Y A S1) H := by subst e; exact h
theorem uM30 {D : va_G} {Y : Nat → ClassId} {A : Nat → Nat} {S S1 : gS} {H : Heap} {f : Nat → Int32} (e : S1 = sA S 29 f) (h : va_P D vwCl ((wM Y A S).set 30 (A 30, .inl (Y 0, 20, .inl f))) H) : va_P D vwCl (wM Y A S1) H := by subst e; exact h
theorem uM31 {D : va_G} {Y : Nat → ClassId} {A : Nat → Nat} {S S1 : gS} {H : Heap} {f : Nat → Int32} (e : S1 = sA S 30 f) (h : va_P D vwCl ((wM Y A S).set 31 (A 31, .inl (Y 0, 20, .inl f))) H) : va_P D vwCl (wM Y A S1) H := by subst e; exact h
theorem uM32 {D : va_G} {Y : Nat → ClassId} {A : Nat → Nat} {S S1 : gS} {H : Heap} {f : Nat → Int32} (e : S1 = sA S 31 f) (h : va_P D vwCl ((wM Y A S).set 32 (A 32, .inl (Y 0, 60, .inl f))) H) : va_P D vwCl (wM Y A S1) H := by subst e; exact h
theorem uM33 {D : va_G} {Y : Nat → ClassId} {A : Nat → Nat} {S S1 : gS} {H : Heap} {f : Nat → Int32} (e : S1 = sA S 32 f) (h : va_P D vwCl ((wM Y A S).set 33 (A 33, .inl (Y 0, 60, .inl f))) H) : va_P D vwCl (wM Y A S1) H := by subst e; exact h
theorem uM34 {D : va_G} {Y : Nat → ClassId} {A : Nat → Nat} {S S1 : gS} {H : Heap} {f : Nat → Int32} (e : S1 = sA S 33 f) (h : va_P D vwCl ((wM Y A S).set 34 (A 34, .inl (Y 0, 60, .inl f))) H) : va_P D vwCl (wM Y A S1) H := by subst e; exact h
theorem uM35 {D : va_G} {Y : Nat → ClassId} {A : Nat → Nat} {S S1 : gS} {H : Heap} {f : Nat → Int32} (e : S1 = sA S 34 f) (h : va_P D vwCl ((wM Y A S).set 35 (A 35, .inl (Y 0, 6, .inl f))) H) : va_P D vwCl (wM Y A S1) H := by subst e; exact h
theorem uM36 {D : va_G} {Y : Nat → ClassId} {A : Nat → Nat} {S S1 : gS} {H : Heap} {f : Nat → Int32} (e : S1 = sA S 35 f) (h : va_P D vwCl ((wM Y A S).set 36 (A 36, .inl (Y 0, 6, .inl f))) H) : va_P D vwCl (wM Y A S1) H := by subst e; exact h
theorem uM37 {D : va_G} {Y : Nat → ClassId} {A : Nat → Nat} {S S1 : gS} {H : Heap} {f : Nat → Int32} (e : S1 = sA S 36 f) (h : va_P D vwCl ((wM Y A S).set 37 (A 37, .inl (Y 0, 34, .inl f))) H) : va_P D vwCl (wM Y A S1) H := by subst e; exact h
theorem uM38 {D : va_G} {Y : Nat → ClassId} {A : Nat → Nat} {S S1 : gS} {H : Heap} {f : Nat → Int32} (e : S1 = sA S 37 f) (h : va_P D vwCl ((wM Y A S).set 38 (A 38, .inl (Y 0, 34, .inl f))) H) : va_P D vwCl (wM Y A S1) H := by subst e; exact h
theorem uM39 {D : va_G} {Y : Nat → ClassId} {A : Nat → Nat} {S S1 : gS} {H : Heap} {f : Nat → Int32} (e : S1 = sA S 38 f) (h : va_P D vwCl ((wM Y A S).set 39 (A 39, .inl (Y 0, 34, .inl f))) H) : va_P D vwCl (wM Y A S1) H := by subst e; exact h
theorem uM40 {D : va_G} {Y : Nat → ClassId} {A : Nat → Nat} {S S1 : gS} {H : Heap} {f : Nat → Int32} (e : S1 = sA S 39 f) (h : va_P D vwCl ((wM Y A S).set 40 (A 40, .inl (Y 0, 8, .inl f))) H) : va_P D vwCl (wM Y A S1) H := by subst e; exact h
theorem uM41 {D : va_G} {Y : Nat → ClassId} {A : Nat → Nat} {S S1 : gS} {H : Heap} {f : Nat → Int32} (e : S1 = sA S 40 f) (h : va_P D vwCl ((wM Y A S).set 41 (A 41, .inl (Y 0, 8, .inl f))) H) : va_P D vwCl (wM Y A S1) H := by subst e; exact h
theorem uM42 {D : va_G} {Y : Nat → ClassId} {A : Nat → Nat} {S S1 : gS} {H : Heap} {f : Nat → Int32} (e : S1 = sA S 41 f) (h : va_P D vwCl ((wM Y A S).set 42 (A 42, .inl (Y 0, 30, .inl f))) H) : va_P D vwCl (wM Y A S1) H := by subst e; exact h
theorem uM43 {D : va_G} {Y : Nat → ClassId} {A : Nat → Nat} {S S1 : gS} {H : Heap} {f : Nat → Int32} (e : S1 = sA S 42 f) (h : va_P D vwCl ((wM Y A S).set 43 (A 43, .inl (Y 0, 6, .inl f))) H) : va_P D vwCl (wM Y A S1) H := by subst e; exact h
def iM (A : Nat → Nat) : Prop := ∀ i j, i < 44 → j < 44 → A i = A j → i = j
theorem dM {Y : Nat → ClassId} {A : Nat → Nat} (hI : iM A) (S : gS) {A0 : Nat → Prop} (ha : ∀ k, k < 44 → A0 (A k)) : va_D A0 (wM Y A S) := gD rfl hI ha
end
section
def qX0_add (S : gS) (a1 : Int32) (a2 : Int32) (a3 : Int32) (a4 : Int32) (Q : Int32 → gS → Prop) : Prop :=
  ∀ x1 : Int32, x1 = (gi S 4) → ((x1 < (8 : Int32) → (vp_in x1 8 ∧ (∀ S3 : gS, S3 = sA S 14 (upd (ga S 14) x1.toNatClampNeg a1) → (∀ S5 : gS, S5 = sA S3 15 (upd (ga S3 15) x1.toNatClampNeg a2) → (∀ S6 : gS, S6 = sA S5 16 (upd (ga S5 16) x1.toNatClampNeg a3) → (∀ S7 : gS, S7 = sA S6 17 (upd (ga S6 17) x1.toNatClampNeg a4) → (∀ S8 : gS, S8 = sI S7 4 (x1 + (1 : Int32)) → (Q x1 S8)))))))) ∧ (¬ x1 < (8 : Int32) → (Q (-1 : Int32) S)))
abbrev rmX0_add : Room := { frames := 0, cells := 0, slots := 0, locals := 0 }
set_option maxHeartbeats 4000000 in
set_option maxRecDepth 100000 in
theorem kX0_add (l : Launch) (D : va_G) (Y : Nat → ClassId) (A : Nat → Nat) (hI : iC A) (sz : Nat) (S : gS) (a1 : Int32) (a2 : Int32) (a3 : Int32) (a4 : Int32) (Q : Int32 → gS → Prop) (h : qX0_add S a1 a2 a3 a4 Q) : Met l yX0_add wsX0_add rmX0_add (gPc [.ref (A 3), .int a1, .int a2, .int a3, .int a4] sz D vwCl (tY Y) (wC Y A S)) (va_Qi Q (fun S' t => gH D vwCl (tY Y) (wC Y A S') t) (gF A 65 sz)) 0 0 (gF A 65 sz) := by
  refine gMet_i (cc := cX0_add) (maxL := 6) (by decide +kernel) rfl (Nat.le_of_ble_eq_true rfl) (fun p e s m args below meth c Z H locs hx hb hml hts hown hK hP hS hret ls hl => ?_)
  have hown : s.vm.findClass RX0 = some m.cls := hown
  have hl : lv_has ls 6 [(0, .ref (A 3)), (1, .int a1), (2, .int a2), (3, .int a3), (4, .int a4)] := hl
  have hD : ∀ S0 : gS, va_D (gF A 65 s.heap.size) (wC Y A S0) := fun S0 => dC hI S0 (fun k hk => gF_in hk)
  have k0 : ∀ w ∈ u_ws RX0 TX0 9, w ∈ wsX0_add := by decide +kernel
  have k1 := hts (.fieldLink RX0 9 "CoastWatch$Boats" "size" "I") (by decide +kernel)
  have k2 := hts (.fieldLink RX0 15 "CoastWatch$Boats" "draught" "[I") (by decide +kernel)
  have k3 := hts (.fieldLink RX0 19 "CoastWatch$Boats" "hold" "[I") (by decide +kernel)
  have k4 := hts (.fieldLink RX0 22 "CoastWatch$Boats" "strength" "[I") (by decide +kernel)
  have k5 := hts (.fieldLink RX0 25 "CoastWatch$Boats" "bold" "[I") (by decide +kernel)
  refine lv_aload_n hx hb dX0_add_0 rfl (lv_at hl 0 rfl) ?_
  refine va_get (ci := 0) (v := .int (gi S 4)) (C := RX0) (T := TX0) (N := 9) hx hb hts k0 hown hK hP 3 (aC3 Y A S) rfl 0 (by decide) k1 (fun _ h9 => h9) rfl dX0_add_1 ?_
  refine lv_topi (fun x1 ex1 => ?_)
  have h := h x1 ex1
  refine lv_istore (lv' := [(5, .int x1), (0, .ref (A 3)), (1, .int a1), (2, .int a2), (3, .int a3), (4, .int a4)]) hx hb dX0_add_4 hl (by decide) rfl (fun ls hl => ?_)
  refine lv_iload hx hb dX0_add_6 (lv_at hl 0 rfl) ?_
  refine lv_bipush (v := (8 : Int32)) hx hb dX0_add_8 (by decide) ?_
  refine lv_icmp_lt (tgt := 15) hx hb dX0_add_10 (by decide) (fun c2 => ?_) (fun c2 => ?_)
  · have h := h.1 c2
    refine lv_aload_n hx hb dX0_add_15 rfl (lv_at hl 1 rfl) ?_
    refine va_get (ci := 0) (v := .ref (A 25)) (C := RX0) (T := TX0) (N := 9) hx hb hts k0 hown hK hP 3 (aC3 Y A S) rfl 1 (by decide) k2 (fun _ h9 => h9) rfl dX0_add_16 ?_
    refine lv_iload hx hb dX0_add_19 (lv_at hl 0 rfl) ?_
    refine lv_iload_n hx hb dX0_add_21 rfl (lv_at hl 2 rfl) ?_
    have v_4 := h.1
    have h := h.2
    obtain ⟨S3, eS3⟩ : ∃ z : gS, z = sA S 14 (upd (ga S 14) x1.toNatClampNeg a1) := ⟨_, rfl⟩
    refine va_iast hx hb hK hP (hD S) hS 25 0 (aC25 Y A S) rfl v_4 dX0_add_22 (fun H locs hP _ hS => ?_)
    have hP := uC25 eS3 hP
    have h := h S3 eS3
    refine lv_aload_n hx hb dX0_add_23 rfl (lv_at hl 1 rfl) ?_
    refine va_get (ci := 0) (v := .ref (A 26)) (C := RX0) (T := TX0) (N := 9) hx hb hts k0 hown hK hP 3 (aC3 Y A S3) rfl 2 (by decide) k3 (fun _ h9 => h9) rfl dX0_add_24 ?_
    refine lv_iload hx hb dX0_add_27 (lv_at hl 0 rfl) ?_
    refine lv_iload_n hx hb dX0_add_29 rfl (lv_at hl 3 rfl) ?_
    obtain ⟨S5, eS5⟩ : ∃ z : gS, z = sA S3 15 (upd (ga S3 15) x1.toNatClampNeg a2) := ⟨_, rfl⟩
    refine va_iast hx hb hK hP (hD S3) hS 26 0 (aC26 Y A S3) rfl v_4 dX0_add_30 (fun H locs hP _ hS => ?_)
    have hP := uC26 eS5 hP
    have h := h S5 eS5
    refine lv_aload_n hx hb dX0_add_31 rfl (lv_at hl 1 rfl) ?_
    refine va_get (ci := 0) (v := .ref (A 27)) (C := RX0) (T := TX0) (N := 9) hx hb hts k0 hown hK hP 3 (aC3 Y A S5) rfl 3 (by decide) k4 (fun _ h9 => h9) rfl dX0_add_32 ?_
    refine lv_iload hx hb dX0_add_35 (lv_at hl 0 rfl) ?_
    refine lv_iload_n hx hb dX0_add_37 rfl (lv_at hl 4 rfl) ?_
    obtain ⟨S6, eS6⟩ : ∃ z : gS, z = sA S5 16 (upd (ga S5 16) x1.toNatClampNeg a3) := ⟨_, rfl⟩
    refine va_iast hx hb hK hP (hD S5) hS 27 0 (aC27 Y A S5) rfl v_4 dX0_add_38 (fun H locs hP _ hS => ?_)
    have hP := uC27 eS6 hP
    have h := h S6 eS6
    refine lv_aload_n hx hb dX0_add_39 rfl (lv_at hl 1 rfl) ?_
    refine va_get (ci := 0) (v := .ref (A 28)) (C := RX0) (T := TX0) (N := 9) hx hb hts k0 hown hK hP 3 (aC3 Y A S6) rfl 4 (by decide) k5 (fun _ h9 => h9) rfl dX0_add_40 ?_
    refine lv_iload hx hb dX0_add_43 (lv_at hl 0 rfl) ?_
    refine lv_iload hx hb dX0_add_45 (lv_at hl 5 rfl) ?_
    obtain ⟨S7, eS7⟩ : ∃ z : gS, z = sA S6 17 (upd (ga S6 17) x1.toNatClampNeg a4) := ⟨_, rfl⟩
    refine va_iast hx hb hK hP (hD S6) hS 28 0 (aC28 Y A S6) rfl v_4 dX0_add_47 (fun H locs hP _ hS => ?_)
    have hP := uC28 eS7 hP
    have h := h S7 eS7
    refine lv_aload_n hx hb dX0_add_48 rfl (lv_at hl 1 rfl) ?_
    refine lv_iload hx hb dX0_add_49 (lv_at hl 0 rfl) ?_
    refine lv_iconst (v := (1 : Int32)) hx hb dX0_add_51 (by decide) ?_
    refine lv_iadd hx hb dX0_add_52 ?_
    obtain ⟨S8, eS8⟩ : ∃ z : gS, z = sI S7 4 (x1 + (1 : Int32)) := ⟨_, rfl⟩
    have h := h S8 eS8
    refine va_put (ci := 0) (v := .int (x1 + (1 : Int32))) (ty := .int) (C := RX0) (T := TX0) (N := 9) hx hb hts k0 tyX0 tyX0_ok nmX0 hown hK hP (hD S7) hS 3 (aC3 Y A S7) rfl 0 (by decide) k1 (fun _ h9 => h9) rfl rfl rfl rfl (by simp) dX0_add_53 (fun H locs hP _ hS => ?_)
    have hP := pC3_0 eS8 hP
    refine lv_iload hx hb dX0_add_56 (lv_at hl 0 rfl) ?_
    exact hret _ _ _ _ _ _ dX0_add_58 h hP hS
  · have h := h.2 c2
    refine lv_iconst (v := (-1 : Int32)) hx hb dX0_add_13 (by decide) ?_
    exact hret _ _ _ _ _ _ dX0_add_14 h hP hS

def qX0_frighten (S : gS) (a1 : Int32) (a2 : Int32) (a3 : Int32) (Q : gS → Prop) : Prop :=
  vp_in a1 8 ∧ (vp_in a2 6 ∧ (∀ S3 : gS, S3 = sA S (21 + a1.toNatClampNeg) (upd (ga S (21 + a1.toNatClampNeg)) a2.toNatClampNeg (if ((ga S (21 + a1.toNatClampNeg) a2.toNatClampNeg) + a3) < (99 : Int32) then ((ga S (21 + a1.toNatClampNeg) a2.toNatClampNeg) + a3) else (99 : Int32))) → (Q S3)))
abbrev rmX0_frighten : Room := { frames := 1, cells := 0, slots := 0, locals := 15 }
set_option maxHeartbeats 4000000 in
set_option maxRecDepth 100000 in
theorem kX0_frighten (l : Launch) (D : va_G) (Y : Nat → ClassId) (A : Nat → Nat) (hI : iC A) (sz : Nat) (S : gS) (a1 : Int32) (a2 : Int32) (a3 : Int32) (Q : gS → Prop) (h : qX0_frighten S a1 a2 a3 Q) : Met l yX0_frighten wsX0_frighten rmX0_frighten (gPc [.ref (A 3), .int a1, .int a2, .int a3] sz D vwCl (tY Y) (wC Y A S)) (va_Qv Q (fun S' t => gH D vwCl (tY Y) (wC Y A S') t) (gF A 65 sz)) 0 0 (gF A 65 sz) := by
  refine gMet_v (cc := cX0_frighten) (maxL := 4) (by decide +kernel) rfl (Nat.le_of_ble_eq_true rfl) (fun p e s m args below meth c Z H locs hx hb hml hts hown hK hP hS hret ls hl => ?_)
  have hown : s.vm.findClass RX0 = some m.cls := hown
  have hl : lv_has ls 4 [(0, .ref (A 3)), (1, .int a1), (2, .int a2), (3, .int a3)] := hl
  have hD : ∀ S0 : gS, va_D (gF A 65 s.heap.size) (wC Y A S0) := fun S0 => dC hI S0 (fun k hk => gF_in hk)
  have k0 : ∀ w ∈ u_ws RX0 TX0 9, w ∈ wsX0_frighten := by decide +kernel
  have k1 := hts (.fieldLink RX0 39 "CoastWatch$Boats" "fear" "[[I") (by decide +kernel)
  have k2 := hts (.methodLink RX0 42 Lib.Math.min.name) (by decide +kernel)
  have k3 := hts (.static Lib.Math.min.name) (by decide +kernel)
  have k4 := hts (.initialized "java/lang/Math") (by decide +kernel)
  have k5 := hts (.code Lib.Math.min.name Lib.Math.min.code 2 (some .int)) (by decide +kernel)
  refine lv_aload_n hx hb dX0_frighten_0 rfl (lv_at hl 0 rfl) ?_
  refine va_get (ci := 0) (v := .ref (A 32)) (C := RX0) (T := TX0) (N := 9) hx hb hts k0 hown hK hP 3 (aC3 Y A S) rfl 8 (by decide) k1 (fun _ h9 => h9) rfl dX0_frighten_1 ?_
  refine lv_iload_n hx hb dX0_frighten_4 rfl (lv_at hl 1 rfl) ?_
  have v_1 := h.1
  have h := h.2
  refine gAald (g := fun j => A (33 + j)) hx hb hK hP 32 3 (aC32 Y A S) rfl (fun j hj => if_pos hj) v_1 dX0_frighten_5 ?_
  refine lv_iload_n hx hb dX0_frighten_6 rfl (lv_at hl 2 rfl) ?_
  refine lv_bipush (v := (99 : Int32)) hx hb dX0_frighten_7 (by decide) ?_
  refine lv_aload_n hx hb dX0_frighten_9 rfl (lv_at hl 0 rfl) ?_
  refine va_get (ci := 0) (v := .ref (A 32)) (C := RX0) (T := TX0) (N := 9) hx hb hts k0 hown hK hP 3 (aC3 Y A S) rfl 8 (by decide) k1 (fun _ h9 => h9) rfl dX0_frighten_10 ?_
  refine lv_iload_n hx hb dX0_frighten_13 rfl (lv_at hl 1 rfl) ?_
  refine gAald (g := fun j => A (33 + j)) hx hb hK hP 32 3 (aC32 Y A S) rfl (fun j hj => if_pos hj) v_1 dX0_frighten_14 ?_
  refine lv_iload_n hx hb dX0_frighten_15 rfl (lv_at hl 2 rfl) ?_
  have v_2 := h.1
  have h := h.2
  refine va_iald hx hb hK hP (33 + a1.toNatClampNeg) 0 (arC32 Y A S (vp_lt v_1)) rfl v_2 dX0_frighten_16 ?_
  refine lv_iload_n hx hb dX0_frighten_17 rfl (lv_at hl 3 rfl) ?_
  refine lv_iadd hx hb dX0_frighten_18 ?_
  refine va_mmin hx hb (hml.trans hl.1.symm) hown k2 k3 k4 k5 (Nat.le_of_ble_eq_true rfl) (Nat.le_of_ble_eq_true rfl) (Nat.zero_le _) (Nat.zero_le _) dX0_frighten_19 ?_
  obtain ⟨S3, eS3⟩ : ∃ z : gS, z = sA S (21 + a1.toNatClampNeg) (upd (ga S (21 + a1.toNatClampNeg)) a2.toNatClampNeg (if ((ga S (21 + a1.toNatClampNeg) a2.toNatClampNeg) + a3) < (99 : Int32) then ((ga S (21 + a1.toNatClampNeg) a2.toNatClampNeg) + a3) else (99 : Int32))) := ⟨_, rfl⟩
  refine va_iast hx hb hK hP (hD S) hS (33 + a1.toNatClampNeg) 0 (arC32 Y A S (vp_lt v_1)) rfl v_2 dX0_frighten_22 (fun H locs hP _ hS => ?_)
  have hP := urC32 (vp_lt v_1) eS3 hP
  have h := h S3 eS3
  exact hret _ _ _ _ _ dX0_frighten_23 h hP hS

def qX0_calm_L12 (Q : gS → Prop) (K2 : Int32 × gS → Prop) (K12 : Int32 × Int32 × gS → Prop) : Int32 × Int32 × gS → Prop := fun ⟨v1, v2, S⟩ =>
  ((6 : Int32) ≤ v2 → (∀ x2 : Int32, x2 = v1 + (1 : Int32) → (K2 (x2, S)))) ∧ (¬ (6 : Int32) ≤ v2 → (vp_in v1 8 ∧ (vp_in v2 6 ∧ (((ga S (21 + v1.toNatClampNeg) v2.toNatClampNeg) ≤ 0 → (∀ x6 : Int32, x6 = v2 + (1 : Int32) → (K12 (v1, x6, S)))) ∧ (¬ (ga S (21 + v1.toNatClampNeg) v2.toNatClampNeg) ≤ 0 → (∀ S7 : gS, S7 = sA S (21 + v1.toNatClampNeg) (upd (ga S (21 + v1.toNatClampNeg)) v2.toNatClampNeg ((ga S (21 + v1.toNatClampNeg) v2.toNatClampNeg) - (1 : Int32))) → (∀ x8 : Int32, x8 = v2 + (1 : Int32) → (K12 (v1, x8, S7)))))))))
def qX0_calm_L2 (Q : gS → Prop) (K2 : Int32 × gS → Prop) : Int32 × gS → Prop := fun ⟨v1, S⟩ =>
  ((gi S 4) ≤ v1 → (Q S)) ∧ (¬ (gi S 4) ≤ v1 → (lp (qX0_calm_L12 Q K2) (v1, (0 : Int32), S)))
def qX0_calm (S : gS) (Q : gS → Prop) : Prop :=
  lp (qX0_calm_L2 Q) ((0 : Int32), S)
abbrev rmX0_calm : Room := { frames := 0, cells := 0, slots := 0, locals := 0 }
set_option maxHeartbeats 4000000 in
set_option maxRecDepth 100000 in
theorem kX0_calm (l : Launch) (D : va_G) (Y : Nat → ClassId) (A : Nat → Nat) (hI : iC A) (sz : Nat) (S : gS) (Q : gS → Prop) (h : qX0_calm S  Q) : Met l yX0_calm wsX0_calm rmX0_calm (gPc [.ref (A 3)] sz D vwCl (tY Y) (wC Y A S)) (va_Qv Q (fun S' t => gH D vwCl (tY Y) (wC Y A S') t) (gF A 65 sz)) 0 0 (gF A 65 sz) := by
  refine gMet_v (cc := cX0_calm) (maxL := 3) (by decide +kernel) rfl (Nat.le_of_ble_eq_true rfl) (fun p e s m args below meth c Z H locs hx hb hml hts hown hK hP hS hret ls hl => ?_)
  have hown : s.vm.findClass RX0 = some m.cls := hown
  have hl : lv_has ls 3 [(0, .ref (A 3))] := hl
  have hD : ∀ S0 : gS, va_D (gF A 65 s.heap.size) (wC Y A S0) := fun S0 => dC hI S0 (fun k hk => gF_in hk)
  have k0 : ∀ w ∈ u_ws RX0 TX0 9, w ∈ wsX0_calm := by decide +kernel
  have k1 := hts (.fieldLink RX0 39 "CoastWatch$Boats" "fear" "[[I") (by decide +kernel)
  have k2 := hts (.fieldLink RX0 9 "CoastWatch$Boats" "size" "I") (by decide +kernel)
  have tL12 : ∀ (K2 : Int32 × gS → Prop) (ih2 : ∀ (v1 : Int32) (S : gS), K2 (v1, S) → ∀ (H : Heap) (locs : List Loc) (ls : Array Slot), va_P D vwCl (wC Y A S) H → va_S (gF A 65 s.heap.size) s.heap H locs → lv_has ls 3 [(0, .ref (A 3)), (1, .int v1)] → W p l e rmX0_calm s m args below meth c H locs 0 0 Z (F0 m 2 ls [])) (v1 : Int32) (v2 : Int32) (S : gS), lp (qX0_calm_L12 Q K2) (v1, v2, S) → ∀ (H : Heap) (locs : List Loc) (ls : Array Slot), va_P D vwCl (wC Y A S) H → va_S (gF A 65 s.heap.size) s.heap H locs → lv_has ls 3 [(0, .ref (A 3)), (1, .int v1), (2, .int v2)] → W p l e rmX0_calm s m args below meth c H locs 0 0 Z (F0 m 12 ls []) := by
    intro K2 ih2 v1 v2 S h
    refine lp_walk (G := fun a => match a with | (v1, v2, S) => ∀ (H : Heap) (locs : List Loc) (ls : Array Slot), va_P D vwCl (wC Y A S) H → va_S (gF A 65 s.heap.size) s.heap H locs → lv_has ls 3 [(0, .ref (A 3)), (1, .int v1), (2, .int v2)] → W p l e rmX0_calm s m args below meth c H locs 0 0 Z (F0 m 12 ls [])) (fun K12 a ih12 h => ?_) (v1, v2, S) h
    obtain ⟨v1, v2, S⟩ := a
    have ih12 : ∀ (v1 : Int32) (v2 : Int32) (S : gS), K12 (v1, v2, S) → ∀ (H : Heap) (locs : List Loc) (ls : Array Slot), va_P D vwCl (wC Y A S) H → va_S (gF A 65 s.heap.size) s.heap H locs → lv_has ls 3 [(0, .ref (A 3)), (1, .int v1), (2, .int v2)] → W p l e rmX0_calm s m args below meth c H locs 0 0 Z (F0 m 12 ls []) := fun v1 v2 S q => ih12 (v1, v2, S) q
    intro H locs ls hP hS hl
    refine lv_iload_n hx hb dX0_calm_12 rfl (lv_at hl 2 rfl) ?_
    refine lv_bipush (v := (6 : Int32)) hx hb dX0_calm_13 (by decide) ?_
    refine lv_icmp_ge (tgt := 47) hx hb dX0_calm_15 (by decide) (fun c1 => ?_) (fun c1 => ?_)
    · have h := h.1 c1
      obtain ⟨x2, ex2⟩ : ∃ z : Int32, z = v1 + (1 : Int32) := ⟨_, rfl⟩
      have h := h x2 ex2
      refine lv_iinc (v := x2) (lv' := [(1, .int x2), (0, .ref (A 3)), (2, .int v2)]) hx hb dX0_calm_47 hl (k := 1) rfl (by rw [ex2]; rfl) (by decide) rfl (fun ls hl => ?_)
      refine lv_goto (tgt := 2) hx hb dX0_calm_50 (by decide) ?_
      exact ih2 x2 S h _ _ _ hP hS (lv_sub hl [1, 0] rfl)
    · have h := h.2 c1
      refine lv_aload_n hx hb dX0_calm_18 rfl (lv_at hl 0 rfl) ?_
      refine va_get (ci := 0) (v := .ref (A 32)) (C := RX0) (T := TX0) (N := 9) hx hb hts k0 hown hK hP 3 (aC3 Y A S) rfl 8 (by decide) k1 (fun _ h9 => h9) rfl dX0_calm_19 ?_
      refine lv_iload_n hx hb dX0_calm_22 rfl (lv_at hl 1 rfl) ?_
      have v_3 := h.1
      have h := h.2
      refine gAald (g := fun j => A (33 + j)) hx hb hK hP 32 3 (aC32 Y A S) rfl (fun j hj => if_pos hj) v_3 dX0_calm_23 ?_
      refine lv_iload_n hx hb dX0_calm_24 rfl (lv_at hl 2 rfl) ?_
      have v_4 := h.1
      have h := h.2
      refine va_iald hx hb hK hP (33 + v1.toNatClampNeg) 0 (arC32 Y A S (vp_lt v_3)) rfl v_4 dX0_calm_25 ?_
      refine lv_if_le (tgt := 41) hx hb dX0_calm_26 (by decide) (fun c5 => ?_) (fun c5 => ?_)
      · have h := h.1 c5
        obtain ⟨x6, ex6⟩ : ∃ z : Int32, z = v2 + (1 : Int32) := ⟨_, rfl⟩
        have h := h x6 ex6
        refine lv_iinc (v := x6) (lv' := [(2, .int x6), (0, .ref (A 3)), (1, .int v1)]) hx hb dX0_calm_41 hl (k := 2) rfl (by rw [ex6]; rfl) (by decide) rfl (fun ls hl => ?_)
        refine lv_goto (tgt := 12) hx hb dX0_calm_44 (by decide) ?_
        exact ih12 v1 x6 S h _ _ _ hP hS (lv_sub hl [1, 2, 0] rfl)
      · have h := h.2 c5
        refine lv_aload_n hx hb dX0_calm_29 rfl (lv_at hl 0 rfl) ?_
        refine va_get (ci := 0) (v := .ref (A 32)) (C := RX0) (T := TX0) (N := 9) hx hb hts k0 hown hK hP 3 (aC3 Y A S) rfl 8 (by decide) k1 (fun _ h9 => h9) rfl dX0_calm_30 ?_
        refine lv_iload_n hx hb dX0_calm_33 rfl (lv_at hl 1 rfl) ?_
        refine gAald (g := fun j => A (33 + j)) hx hb hK hP 32 3 (aC32 Y A S) rfl (fun j hj => if_pos hj) v_3 dX0_calm_34 ?_
        refine lv_iload_n hx hb dX0_calm_35 rfl (lv_at hl 2 rfl) ?_
        refine lv_dup2_11 hx hb dX0_calm_36 rfl rfl ?_
        refine va_iald hx hb hK hP (33 + v1.toNatClampNeg) 0 (arC32 Y A S (vp_lt v_3)) rfl v_4 dX0_calm_37 ?_
        refine lv_iconst (v := (1 : Int32)) hx hb dX0_calm_38 (by decide) ?_
        refine lv_isub hx hb dX0_calm_39 ?_
        obtain ⟨S7, eS7⟩ : ∃ z : gS, z = sA S (21 + v1.toNatClampNeg) (upd (ga S (21 + v1.toNatClampNeg)) v2.toNatClampNeg ((ga S (21 + v1.toNatClampNeg) v2.toNatClampNeg) - (1 : Int32))) := ⟨_, rfl⟩
        refine va_iast hx hb hK hP (hD S) hS (33 + v1.toNatClampNeg) 0 (arC32 Y A S (vp_lt v_3)) rfl v_4 dX0_calm_40 (fun H locs hP _ hS => ?_)
        have hP := urC32 (vp_lt v_3) eS7 hP
        have h := h S7 eS7
        obtain ⟨x8, ex8⟩ : ∃ z : Int32, z = v2 + (1 : Int32) := ⟨_, rfl⟩
        have h := h x8 ex8
        refine lv_iinc (v := x8) (lv' := [(2, .int x8), (0, .ref (A 3)), (1, .int v1)]) hx hb dX0_calm_41 hl (k := 2) rfl (by rw [ex8]; rfl) (by decide) rfl (fun ls hl => ?_)
        refine lv_goto (tgt := 12) hx hb dX0_calm_44 (by decide) ?_
        exact ih12 v1 x8 S7 h _ _ _ hP hS (lv_sub hl [1, 2, 0] rfl)
  have tL2 : ∀ (v1 : Int32) (S : gS), lp (qX0_calm_L2 Q) (v1, S) → ∀ (H : Heap) (locs : List Loc) (ls : Array Slot), va_P D vwCl (wC Y A S) H → va_S (gF A 65 s.heap.size) s.heap H locs → lv_has ls 3 [(0, .ref (A 3)), (1, .int v1)] → W p l e rmX0_calm s m args below meth c H locs 0 0 Z (F0 m 2 ls []) := by
    intro  v1 S h
    refine lp_walk (G := fun a => match a with | (v1, S) => ∀ (H : Heap) (locs : List Loc) (ls : Array Slot), va_P D vwCl (wC Y A S) H → va_S (gF A 65 s.heap.size) s.heap H locs → lv_has ls 3 [(0, .ref (A 3)), (1, .int v1)] → W p l e rmX0_calm s m args below meth c H locs 0 0 Z (F0 m 2 ls [])) (fun K2 a ih2 h => ?_) (v1, S) h
    obtain ⟨v1, S⟩ := a
    have ih2 : ∀ (v1 : Int32) (S : gS), K2 (v1, S) → ∀ (H : Heap) (locs : List Loc) (ls : Array Slot), va_P D vwCl (wC Y A S) H → va_S (gF A 65 s.heap.size) s.heap H locs → lv_has ls 3 [(0, .ref (A 3)), (1, .int v1)] → W p l e rmX0_calm s m args below meth c H locs 0 0 Z (F0 m 2 ls []) := fun v1 S q => ih2 (v1, S) q
    intro H locs ls hP hS hl
    refine lv_iload_n hx hb dX0_calm_2 rfl (lv_at hl 1 rfl) ?_
    refine lv_aload_n hx hb dX0_calm_3 rfl (lv_at hl 0 rfl) ?_
    refine va_get (ci := 0) (v := .int (gi S 4)) (C := RX0) (T := TX0) (N := 9) hx hb hts k0 hown hK hP 3 (aC3 Y A S) rfl 0 (by decide) k2 (fun _ h9 => h9) rfl dX0_calm_4 ?_
    refine lv_icmp_ge (tgt := 53) hx hb dX0_calm_7 (by decide) (fun c9 => ?_) (fun c9 => ?_)
    · have h := h.1 c9
      exact hret _ _ _ _ _ dX0_calm_53 h hP hS
    · have h := h.2 c9
      refine lv_iconst (v := (0 : Int32)) hx hb dX0_calm_10 (by decide) ?_
      refine lv_istore_n (lv' := [(2, .int (0 : Int32)), (0, .ref (A 3)), (1, .int v1)]) hx hb dX0_calm_11 rfl hl (by decide) rfl (fun ls hl => ?_)
      exact tL12 K2 ih2 v1 (0 : Int32) S h _ _ _ hP hS (lv_sub hl [1, 2, 0] rfl)
  refine lv_iconst (v := (0 : Int32)) hx hb dX0_calm_0 (by decide) ?_
  refine lv_istore_n (lv' := [(1, .int (0 : Int32)), (0, .ref (A 3))]) hx hb dX0_calm_1 rfl hl (by decide) rfl (fun ls hl => ?_)
  exact tL2  (0 : Int32) S h _ _ _ hP hS (lv_sub hl [1, 0] rfl)

def qX1_sumOfShares_L4 (Q : Int32 → gS → Prop) (K4 : Int32 × Int32 × gS → Prop) : Int32 × Int32 × gS → Prop := fun ⟨v1, v2, S⟩ =>
  ((6 : Int32) ≤ v2 → (Q v1 S)) ∧ (¬ (6 : Int32) ≤ v2 → (vp_in v2 6 ∧ (∀ x3 : Int32, x3 = (v1 + (ga S 11 v2.toNatClampNeg)) → (∀ x4 : Int32, x4 = v2 + (1 : Int32) → (K4 (x3, x4, S))))))
def qX1_sumOfShares (S : gS) (Q : Int32 → gS → Prop) : Prop :=
  lp (qX1_sumOfShares_L4 Q) ((0 : Int32), (0 : Int32), S)
abbrev rmX1_sumOfShares : Room := { frames := 0, cells := 0, slots := 0, locals := 0 }
set_option maxHeartbeats 4000000 in
set_option maxRecDepth 100000 in
theorem kX1_sumOfShares (l : Launch) (D : va_G) (Y : Nat → ClassId) (A : Nat → Nat) (hI : iC A) (sz : Nat) (S : gS) (Q : Int32 → gS → Prop) (h : qX1_sumOfShares S  Q) : Met l yX1_sumOfShares wsX1_sumOfShares rmX1_sumOfShares (gPc [.ref (A 2)] sz D vwCl (tY Y) (wC Y A S)) (va_Qi Q (fun S' t => gH D vwCl (tY Y) (wC Y A S') t) (gF A 65 sz)) 0 0 (gF A 65 sz) := by
  refine gMet_i (cc := cX1_sumOfShares) (maxL := 3) (by decide +kernel) rfl (Nat.le_of_ble_eq_true rfl) (fun p e s m args below meth c Z H locs hx hb hml hts hown hK hP hS hret ls hl => ?_)
  have hown : s.vm.findClass RX1 = some m.cls := hown
  have hl : lv_has ls 3 [(0, .ref (A 2))] := hl
  have hD : ∀ S0 : gS, va_D (gF A 65 s.heap.size) (wC Y A S0) := fun S0 => dC hI S0 (fun k hk => gF_in hk)
  have k0 : ∀ w ∈ u_ws RX1 TX1 7, w ∈ wsX1_sumOfShares := by decide +kernel
  have k1 := hts (.fieldLink RX1 24 "CoastWatch$Coves" "shares" "[I") (by decide +kernel)
  have tL4 : ∀ (v1 : Int32) (v2 : Int32) (S : gS), lp (qX1_sumOfShares_L4 Q) (v1, v2, S) → ∀ (H : Heap) (locs : List Loc) (ls : Array Slot), va_P D vwCl (wC Y A S) H → va_S (gF A 65 s.heap.size) s.heap H locs → lv_has ls 3 [(0, .ref (A 2)), (1, .int v1), (2, .int v2)] → W p l e rmX1_sumOfShares s m args below meth c H locs 0 0 Z (F0 m 4 ls []) := by
    intro  v1 v2 S h
    refine lp_walk (G := fun a => match a with | (v1, v2, S) => ∀ (H : Heap) (locs : List Loc) (ls : Array Slot), va_P D vwCl (wC Y A S) H → va_S (gF A 65 s.heap.size) s.heap H locs → lv_has ls 3 [(0, .ref (A 2)), (1, .int v1), (2, .int v2)] → W p l e rmX1_sumOfShares s m args below meth c H locs 0 0 Z (F0 m 4 ls [])) (fun K4 a ih4 h => ?_) (v1, v2, S) h
    obtain ⟨v1, v2, S⟩ := a
    have ih4 : ∀ (v1 : Int32) (v2 : Int32) (S : gS), K4 (v1, v2, S) → ∀ (H : Heap) (locs : List Loc) (ls : Array Slot), va_P D vwCl (wC Y A S) H → va_S (gF A 65 s.heap.size) s.heap H locs → lv_has ls 3 [(0, .ref (A 2)), (1, .int v1), (2, .int v2)] → W p l e rmX1_sumOfShares s m args below meth c H locs 0 0 Z (F0 m 4 ls []) := fun v1 v2 S q => ih4 (v1, v2, S) q
    intro H locs ls hP hS hl
    refine lv_iload_n hx hb dX1_sumOfShares_4 rfl (lv_at hl 2 rfl) ?_
    refine lv_bipush (v := (6 : Int32)) hx hb dX1_sumOfShares_5 (by decide) ?_
    refine lv_icmp_ge (tgt := 25) hx hb dX1_sumOfShares_7 (by decide) (fun c1 => ?_) (fun c1 => ?_)
    · have h := h.1 c1
      refine lv_iload_n hx hb dX1_sumOfShares_25 rfl (lv_at hl 1 rfl) ?_
      exact hret _ _ _ _ _ _ dX1_sumOfShares_26 h hP hS
    · have h := h.2 c1
      refine lv_iload_n hx hb dX1_sumOfShares_10 rfl (lv_at hl 1 rfl) ?_
      refine lv_aload_n hx hb dX1_sumOfShares_11 rfl (lv_at hl 0 rfl) ?_
      refine va_get (ci := 1) (v := .ref (A 22)) (C := RX1) (T := TX1) (N := 7) hx hb hts k0 hown hK hP 2 (aC2 Y A S) rfl 4 (by decide) k1 (fun _ h9 => h9) rfl dX1_sumOfShares_12 ?_
      refine lv_iload_n hx hb dX1_sumOfShares_15 rfl (lv_at hl 2 rfl) ?_
      have v_2 := h.1
      have h := h.2
      refine va_iald hx hb hK hP 22 0 (aC22 Y A S) rfl v_2 dX1_sumOfShares_16 ?_
      refine lv_iadd hx hb dX1_sumOfShares_17 ?_
      refine lv_topi (fun x3 ex3 => ?_)
      have h := h x3 ex3
      refine lv_istore_n (lv' := [(1, .int x3), (0, .ref (A 2)), (2, .int v2)]) hx hb dX1_sumOfShares_18 rfl hl (by decide) rfl (fun ls hl => ?_)
      obtain ⟨x4, ex4⟩ : ∃ z : Int32, z = v2 + (1 : Int32) := ⟨_, rfl⟩
      have h := h x4 ex4
      refine lv_iinc (v := x4) (lv' := [(2, .int x4), (1, .int x3), (0, .ref (A 2))]) hx hb dX1_sumOfShares_19 hl (k := 2) rfl (by rw [ex4]; rfl) (by decide) rfl (fun ls hl => ?_)
      refine lv_goto (tgt := 4) hx hb dX1_sumOfShares_22 (by decide) ?_
      exact ih4 x3 x4 S h _ _ _ hP hS (lv_sub hl [2, 1, 0] rfl)
  refine lv_iconst (v := (0 : Int32)) hx hb dX1_sumOfShares_0 (by decide) ?_
  refine lv_istore_n (lv' := [(1, .int (0 : Int32)), (0, .ref (A 2))]) hx hb dX1_sumOfShares_1 rfl hl (by decide) rfl (fun ls hl => ?_)
  refine lv_iconst (v := (0 : Int32)) hx hb dX1_sumOfShares_2 (by decide) ?_
  refine lv_istore_n (lv' := [(2, .int (0 : Int32)), (1, .int (0 : Int32)), (0, .ref (A 2))]) hx hb dX1_sumOfShares_3 rfl hl (by decide) rfl (fun ls hl => ?_)
  exact tL4  (0 : Int32) (0 : Int32) S h _ _ _ hP hS (lv_sub hl [2, 1, 0] rfl)

def qX1_coveOfShare_L4 (a1 : Int32) (Q : Int32 → gS → Prop) (K4 : Int32 × Int32 × gS → Prop) : Int32 × Int32 × gS → Prop := fun ⟨v2, v3, S⟩ =>
  ((6 : Int32) ≤ v3 → (Q (5 : Int32) S)) ∧ (¬ (6 : Int32) ≤ v3 → (vp_in v3 6 ∧ (∀ x3 : Int32, x3 = (v2 + (ga S 11 v3.toNatClampNeg)) → ((x3 ≤ a1 → (∀ x5 : Int32, x5 = v3 + (1 : Int32) → (K4 (x3, x5, S)))) ∧ (¬ x3 ≤ a1 → (Q v3 S))))))
def qX1_coveOfShare (S : gS) (a1 : Int32) (Q : Int32 → gS → Prop) : Prop :=
  lp (qX1_coveOfShare_L4 a1 Q) ((0 : Int32), (0 : Int32), S)
abbrev rmX1_coveOfShare : Room := { frames := 0, cells := 0, slots := 0, locals := 0 }
set_option maxHeartbeats 4000000 in
set_option maxRecDepth 100000 in
theorem kX1_coveOfShare (l : Launch) (D : va_G) (Y : Nat → ClassId) (A : Nat → Nat) (hI : iC A) (sz : Nat) (S : gS) (a1 : Int32) (Q : Int32 → gS → Prop) (h : qX1_coveOfShare S a1 Q) : Met l yX1_coveOfShare wsX1_coveOfShare rmX1_coveOfShare (gPc [.ref (A 2), .int a1] sz D vwCl (tY Y) (wC Y A S)) (va_Qi Q (fun S' t => gH D vwCl (tY Y) (wC Y A S') t) (gF A 65 sz)) 0 0 (gF A 65 sz) := by
  refine gMet_i (cc := cX1_coveOfShare) (maxL := 4) (by decide +kernel) rfl (Nat.le_of_ble_eq_true rfl) (fun p e s m args below meth c Z H locs hx hb hml hts hown hK hP hS hret ls hl => ?_)
  have hown : s.vm.findClass RX1 = some m.cls := hown
  have hl : lv_has ls 4 [(0, .ref (A 2)), (1, .int a1)] := hl
  have hD : ∀ S0 : gS, va_D (gF A 65 s.heap.size) (wC Y A S0) := fun S0 => dC hI S0 (fun k hk => gF_in hk)
  have k0 : ∀ w ∈ u_ws RX1 TX1 7, w ∈ wsX1_coveOfShare := by decide +kernel
  have k1 := hts (.fieldLink RX1 24 "CoastWatch$Coves" "shares" "[I") (by decide +kernel)
  have tL4 : ∀ (v2 : Int32) (v3 : Int32) (S : gS), lp (qX1_coveOfShare_L4 a1 Q) (v2, v3, S) → ∀ (H : Heap) (locs : List Loc) (ls : Array Slot), va_P D vwCl (wC Y A S) H → va_S (gF A 65 s.heap.size) s.heap H locs → lv_has ls 4 [(0, .ref (A 2)), (1, .int a1), (2, .int v2), (3, .int v3)] → W p l e rmX1_coveOfShare s m args below meth c H locs 0 0 Z (F0 m 4 ls []) := by
    intro  v2 v3 S h
    refine lp_walk (G := fun a => match a with | (v2, v3, S) => ∀ (H : Heap) (locs : List Loc) (ls : Array Slot), va_P D vwCl (wC Y A S) H → va_S (gF A 65 s.heap.size) s.heap H locs → lv_has ls 4 [(0, .ref (A 2)), (1, .int a1), (2, .int v2), (3, .int v3)] → W p l e rmX1_coveOfShare s m args below meth c H locs 0 0 Z (F0 m 4 ls [])) (fun K4 a ih4 h => ?_) (v2, v3, S) h
    obtain ⟨v2, v3, S⟩ := a
    have ih4 : ∀ (v2 : Int32) (v3 : Int32) (S : gS), K4 (v2, v3, S) → ∀ (H : Heap) (locs : List Loc) (ls : Array Slot), va_P D vwCl (wC Y A S) H → va_S (gF A 65 s.heap.size) s.heap H locs → lv_has ls 4 [(0, .ref (A 2)), (1, .int a1), (2, .int v2), (3, .int v3)] → W p l e rmX1_coveOfShare s m args below meth c H locs 0 0 Z (F0 m 4 ls []) := fun v2 v3 S q => ih4 (v2, v3, S) q
    intro H locs ls hP hS hl
    refine lv_iload_n hx hb dX1_coveOfShare_4 rfl (lv_at hl 3 rfl) ?_
    refine lv_bipush (v := (6 : Int32)) hx hb dX1_coveOfShare_5 (by decide) ?_
    refine lv_icmp_ge (tgt := 32) hx hb dX1_coveOfShare_7 (by decide) (fun c1 => ?_) (fun c1 => ?_)
    · have h := h.1 c1
      refine lv_iconst (v := (5 : Int32)) hx hb dX1_coveOfShare_32 (by decide) ?_
      exact hret _ _ _ _ _ _ dX1_coveOfShare_33 h hP hS
    · have h := h.2 c1
      refine lv_iload_n hx hb dX1_coveOfShare_10 rfl (lv_at hl 2 rfl) ?_
      refine lv_aload_n hx hb dX1_coveOfShare_11 rfl (lv_at hl 0 rfl) ?_
      refine va_get (ci := 1) (v := .ref (A 22)) (C := RX1) (T := TX1) (N := 7) hx hb hts k0 hown hK hP 2 (aC2 Y A S) rfl 4 (by decide) k1 (fun _ h9 => h9) rfl dX1_coveOfShare_12 ?_
      refine lv_iload_n hx hb dX1_coveOfShare_15 rfl (lv_at hl 3 rfl) ?_
      have v_2 := h.1
      have h := h.2
      refine va_iald hx hb hK hP 22 0 (aC22 Y A S) rfl v_2 dX1_coveOfShare_16 ?_
      refine lv_iadd hx hb dX1_coveOfShare_17 ?_
      refine lv_topi (fun x3 ex3 => ?_)
      have h := h x3 ex3
      refine lv_istore_n (lv' := [(2, .int x3), (0, .ref (A 2)), (1, .int a1), (3, .int v3)]) hx hb dX1_coveOfShare_18 rfl hl (by decide) rfl (fun ls hl => ?_)
      refine lv_iload_n hx hb dX1_coveOfShare_19 rfl (lv_at hl 0 rfl) ?_
      refine lv_iload_n hx hb dX1_coveOfShare_20 rfl (lv_at hl 2 rfl) ?_
      refine lv_icmp_le (tgt := 26) hx hb dX1_coveOfShare_21 (by decide) (fun c4 => ?_) (fun c4 => ?_)
      · have h := h.1 c4
        obtain ⟨x5, ex5⟩ : ∃ z : Int32, z = v3 + (1 : Int32) := ⟨_, rfl⟩
        have h := h x5 ex5
        refine lv_iinc (v := x5) (lv' := [(3, .int x5), (2, .int x3), (0, .ref (A 2)), (1, .int a1)]) hx hb dX1_coveOfShare_26 hl (k := 3) rfl (by rw [ex5]; rfl) (by decide) rfl (fun ls hl => ?_)
        refine lv_goto (tgt := 4) hx hb dX1_coveOfShare_29 (by decide) ?_
        exact ih4 x3 x5 S h _ _ _ hP hS (lv_sub hl [2, 3, 1, 0] rfl)
      · have h := h.2 c4
        refine lv_iload_n hx hb dX1_coveOfShare_24 rfl (lv_at hl 3 rfl) ?_
        exact hret _ _ _ _ _ _ dX1_coveOfShare_25 h hP hS
  refine lv_iconst (v := (0 : Int32)) hx hb dX1_coveOfShare_0 (by decide) ?_
  refine lv_istore_n (lv' := [(2, .int (0 : Int32)), (0, .ref (A 2)), (1, .int a1)]) hx hb dX1_coveOfShare_1 rfl hl (by decide) rfl (fun ls hl => ?_)
  refine lv_iconst (v := (0 : Int32)) hx hb dX1_coveOfShare_2 (by decide) ?_
  refine lv_istore_n (lv' := [(3, .int (0 : Int32)), (2, .int (0 : Int32)), (0, .ref (A 2)), (1, .int a1)]) hx hb dX1_coveOfShare_3 rfl hl (by decide) rfl (fun ls hl => ?_)
  exact tL4  (0 : Int32) (0 : Int32) S h _ _ _ hP hS (lv_sub hl [2, 3, 1, 0] rfl)

def qX1_countingAt (S : gS) (a1 : Int32) (Q : Int32 → gS → Prop) : Prop :=
  vp_in a1 6 ∧ (((ga S 12 a1.toNatClampNeg) = 0 → (Q (ga S 13 a1.toNatClampNeg) S)) ∧ (¬ (ga S 12 a1.toNatClampNeg) = 0 → (((ga S 13 a1.toNatClampNeg) ≤ 0 → (Q (ga S 13 a1.toNatClampNeg) S)) ∧ (¬ (ga S 13 a1.toNatClampNeg) ≤ 0 → (Q ((ga S 13 a1.toNatClampNeg) - (1 : Int32)) S)))))
abbrev rmX1_countingAt : Room := { frames := 0, cells := 0, slots := 0, locals := 0 }
set_option maxHeartbeats 4000000 in
set_option maxRecDepth 100000 in
theorem kX1_countingAt (l : Launch) (D : va_G) (Y : Nat → ClassId) (A : Nat → Nat) (hI : iC A) (sz : Nat) (S : gS) (a1 : Int32) (Q : Int32 → gS → Prop) (h : qX1_countingAt S a1 Q) : Met l yX1_countingAt wsX1_countingAt rmX1_countingAt (gPc [.ref (A 2), .int a1] sz D vwCl (tY Y) (wC Y A S)) (va_Qi Q (fun S' t => gH D vwCl (tY Y) (wC Y A S') t) (gF A 65 sz)) 0 0 (gF A 65 sz) := by
  refine gMet_i (cc := cX1_countingAt) (maxL := 2) (by decide +kernel) rfl (Nat.le_of_ble_eq_true rfl) (fun p e s m args below meth c Z H locs hx hb hml hts hown hK hP hS hret ls hl => ?_)
  have hown : s.vm.findClass RX1 = some m.cls := hown
  have hl : lv_has ls 2 [(0, .ref (A 2)), (1, .int a1)] := hl
  have hD : ∀ S0 : gS, va_D (gF A 65 s.heap.size) (wC Y A S0) := fun S0 => dC hI S0 (fun k hk => gF_in hk)
  have k0 : ∀ w ∈ u_ws RX1 TX1 7, w ∈ wsX1_countingAt := by decide +kernel
  have k1 := hts (.fieldLink RX1 27 "CoastWatch$Coves" "bribed" "[Z") (by decide +kernel)
  have k2 := hts (.fieldLink RX1 31 "CoastWatch$Coves" "watchers" "[I") (by decide +kernel)
  refine lv_aload_n hx hb dX1_countingAt_0 rfl (lv_at hl 0 rfl) ?_
  refine va_get (ci := 1) (v := .ref (A 23)) (C := RX1) (T := TX1) (N := 7) hx hb hts k0 hown hK hP 2 (aC2 Y A S) rfl 5 (by decide) k1 (fun _ h9 => h9) rfl dX1_countingAt_1 ?_
  refine lv_iload_n hx hb dX1_countingAt_4 rfl (lv_at hl 1 rfl) ?_
  have v_1 := h.1
  have h := h.2
  refine va_zald hx hb hK hP 23 1 (aC23 Y A S) rfl v_1 dX1_countingAt_5 ?_
  refine lv_if_eq (tgt := 29) hx hb dX1_countingAt_6 (by decide) (fun c2 => ?_) (fun c2 => ?_)
  · have h := h.1 c2
    refine lv_aload_n hx hb dX1_countingAt_29 rfl (lv_at hl 0 rfl) ?_
    refine va_get (ci := 1) (v := .ref (A 24)) (C := RX1) (T := TX1) (N := 7) hx hb hts k0 hown hK hP 2 (aC2 Y A S) rfl 6 (by decide) k2 (fun _ h9 => h9) rfl dX1_countingAt_30 ?_
    refine lv_iload_n hx hb dX1_countingAt_33 rfl (lv_at hl 1 rfl) ?_
    refine va_iald hx hb hK hP 24 0 (aC24 Y A S) rfl v_1 dX1_countingAt_34 ?_
    exact hret _ _ _ _ _ _ dX1_countingAt_35 h hP hS
  · have h := h.2 c2
    refine lv_aload_n hx hb dX1_countingAt_9 rfl (lv_at hl 0 rfl) ?_
    refine va_get (ci := 1) (v := .ref (A 24)) (C := RX1) (T := TX1) (N := 7) hx hb hts k0 hown hK hP 2 (aC2 Y A S) rfl 6 (by decide) k2 (fun _ h9 => h9) rfl dX1_countingAt_10 ?_
    refine lv_iload_n hx hb dX1_countingAt_13 rfl (lv_at hl 1 rfl) ?_
    refine va_iald hx hb hK hP 24 0 (aC24 Y A S) rfl v_1 dX1_countingAt_14 ?_
    refine lv_if_le (tgt := 29) hx hb dX1_countingAt_15 (by decide) (fun c3 => ?_) (fun c3 => ?_)
    · have h := h.1 c3
      refine lv_aload_n hx hb dX1_countingAt_29 rfl (lv_at hl 0 rfl) ?_
      refine va_get (ci := 1) (v := .ref (A 24)) (C := RX1) (T := TX1) (N := 7) hx hb hts k0 hown hK hP 2 (aC2 Y A S) rfl 6 (by decide) k2 (fun _ h9 => h9) rfl dX1_countingAt_30 ?_
      refine lv_iload_n hx hb dX1_countingAt_33 rfl (lv_at hl 1 rfl) ?_
      refine va_iald hx hb hK hP 24 0 (aC24 Y A S) rfl v_1 dX1_countingAt_34 ?_
      exact hret _ _ _ _ _ _ dX1_countingAt_35 h hP hS
    · have h := h.2 c3
      refine lv_aload_n hx hb dX1_countingAt_18 rfl (lv_at hl 0 rfl) ?_
      refine va_get (ci := 1) (v := .ref (A 24)) (C := RX1) (T := TX1) (N := 7) hx hb hts k0 hown hK hP 2 (aC2 Y A S) rfl 6 (by decide) k2 (fun _ h9 => h9) rfl dX1_countingAt_19 ?_
      refine lv_iload_n hx hb dX1_countingAt_22 rfl (lv_at hl 1 rfl) ?_
      refine va_iald hx hb hK hP 24 0 (aC24 Y A S) rfl v_1 dX1_countingAt_23 ?_
      refine lv_iconst (v := (1 : Int32)) hx hb dX1_countingAt_24 (by decide) ?_
      refine lv_isub hx hb dX1_countingAt_25 ?_
      refine lv_goto (tgt := 35) hx hb dX1_countingAt_26 (by decide) ?_
      exact hret _ _ _ _ _ _ dX1_countingAt_35 h hP hS

def qX2_sortDown_J60 (Q : gS → Prop) (K2 : Int32 × gS → Prop) : Int32 × Int32 × gS → Prop := fun ⟨v2, v3, S⟩ =>
  vp_in v2 6 ∧ (vp_in v3 6 ∧ (∀ S2 : gS, S2 = sA S 51 (upd (ga S 51) v3.toNatClampNeg (ga S 8 v2.toNatClampNeg)) → (∀ x4 : Int32, x4 = v2 + (1 : Int32) → (K2 (x4, S2)))))
def qX2_sortDown_L13 (Q : gS → Prop) (K2 : Int32 × gS → Prop) (K13 : Int32 × Int32 × Int32 × gS → Prop) : Int32 × Int32 × Int32 × gS → Prop := fun ⟨v2, v3, v4, S⟩ =>
  (v4 ≤ 0 → (qX2_sortDown_J60 Q K2 (v2, v3, S))) ∧ (¬ v4 ≤ 0 → (vp_in (v4 - (1 : Int32)) 6 ∧ (vp_in v2 6 ∧ (((ga S 8 v2.toNatClampNeg) ≤ (ga S 51 (v4 - (1 : Int32)).toNatClampNeg) → (qX2_sortDown_J60 Q K2 (v2, v3, S))) ∧ (¬ (ga S 8 v2.toNatClampNeg) ≤ (ga S 51 (v4 - (1 : Int32)).toNatClampNeg) → (vp_in v4 6 ∧ (∀ S9 : gS, S9 = sA S 51 (upd (ga S 51) v4.toNatClampNeg (ga S 51 (v4 - (1 : Int32)).toNatClampNeg)) → (∀ x11 : Int32, x11 = (v4 - (1 : Int32)) → (∀ x12 : Int32, x12 = v4 + (-1 : Int32) → (K13 (v2, x11, x12, S9)))))))))))
def qX2_sortDown_L2 (Q : gS → Prop) (K2 : Int32 × gS → Prop) : Int32 × gS → Prop := fun ⟨v2, S⟩ =>
  ((6 : Int32) ≤ v2 → (Q S)) ∧ (¬ (6 : Int32) ≤ v2 → (lp (qX2_sortDown_L13 Q K2) (v2, v2, v2, S)))
def qX2_sortDown (S : gS) (Q : gS → Prop) : Prop :=
  lp (qX2_sortDown_L2 Q) ((0 : Int32), S)
abbrev rmX2_sortDown : Room := { frames := 0, cells := 0, slots := 0, locals := 0 }
set_option maxHeartbeats 4000000 in
set_option maxRecDepth 100000 in
theorem kX2_sortDown (l : Launch) (D : va_G) (Y : Nat → ClassId) (A : Nat → Nat) (hI : iC A) (sz : Nat) (S : gS) (Q : gS → Prop) (h : qX2_sortDown S  Q) : Met l yX2_sortDown wsX2_sortDown rmX2_sortDown (gPc [.ref (A 9), .ref (A 19)] sz D vwCl (tY Y) (wC Y A S)) (va_Qv Q (fun S' t => gH D vwCl (tY Y) (wC Y A S') t) (gF A 65 sz)) 0 0 (gF A 65 sz) := by
  refine gMet_v (cc := cX2_sortDown) (maxL := 5) (by decide +kernel) rfl (Nat.le_of_ble_eq_true rfl) (fun p e s m args below meth c Z H locs hx hb hml hts hown hK hP hS hret ls hl => ?_)
  have hown : s.vm.findClass RX2 = some m.cls := hown
  have hl : lv_has ls 5 [(0, .ref (A 9)), (1, .ref (A 19))] := hl
  have hD : ∀ S0 : gS, va_D (gF A 65 s.heap.size) (wC Y A S0) := fun S0 => dC hI S0 (fun k hk => gF_in hk)
  have k0 : ∀ w ∈ u_ws RX2 TX2 3, w ∈ wsX2_sortDown := by decide +kernel
  have k1 := hts (.fieldLink RX2 9 "CoastWatch$Game" "worths" "[I") (by decide +kernel)
  have tJ60 : ∀ (K2 : Int32 × gS → Prop) (ih2 : ∀ (v2 : Int32) (S : gS), K2 (v2, S) → ∀ (H : Heap) (locs : List Loc) (ls : Array Slot), va_P D vwCl (wC Y A S) H → va_S (gF A 65 s.heap.size) s.heap H locs → lv_has ls 5 [(0, .ref (A 9)), (1, .ref (A 19)), (2, .int v2)] → W p l e rmX2_sortDown s m args below meth c H locs 0 0 Z (F0 m 2 ls [])) (v2 : Int32) (v3 : Int32) (S : gS), qX2_sortDown_J60 Q K2 (v2, v3, S) → ∀ (H : Heap) (locs : List Loc) (ls : Array Slot), va_P D vwCl (wC Y A S) H → va_S (gF A 65 s.heap.size) s.heap H locs → lv_has ls 5 [(0, .ref (A 9)), (1, .ref (A 19)), (2, .int v2), (3, .int v3)] → W p l e rmX2_sortDown s m args below meth c H locs 0 0 Z (F0 m 60 ls []) := by
    intro K2 ih2 v2 v3 S h
    intro H locs ls hP hS hl
    refine lv_aload_n hx hb dX2_sortDown_60 rfl (lv_at hl 0 rfl) ?_
    refine va_get (ci := 2) (v := .ref (A 64)) (C := RX2) (T := TX2) (N := 3) hx hb hts k0 hown hK hP 9 (aC9 Y A S) rfl 0 (by decide) k1 (fun _ h9 => h9) rfl dX2_sortDown_61 ?_
    refine lv_iload_n hx hb dX2_sortDown_64 rfl (lv_at hl 3 rfl) ?_
    refine lv_aload_n hx hb dX2_sortDown_65 rfl (lv_at hl 1 rfl) ?_
    refine lv_iload_n hx hb dX2_sortDown_66 rfl (lv_at hl 2 rfl) ?_
    have v_1 := h.1
    have h := h.2
    refine va_iald hx hb hK hP 19 0 (aC19 Y A S) rfl v_1 dX2_sortDown_67 ?_
    have v_3 := h.1
    have h := h.2
    obtain ⟨S2, eS2⟩ : ∃ z : gS, z = sA S 51 (upd (ga S 51) v3.toNatClampNeg (ga S 8 v2.toNatClampNeg)) := ⟨_, rfl⟩
    refine va_iast hx hb hK hP (hD S) hS 64 0 (aC64 Y A S) rfl v_3 dX2_sortDown_68 (fun H locs hP _ hS => ?_)
    have hP := uC64 eS2 hP
    have h := h S2 eS2
    obtain ⟨x4, ex4⟩ : ∃ z : Int32, z = v2 + (1 : Int32) := ⟨_, rfl⟩
    have h := h x4 ex4
    refine lv_iinc (v := x4) (lv' := [(2, .int x4), (0, .ref (A 9)), (1, .ref (A 19)), (3, .int v3)]) hx hb dX2_sortDown_69 hl (k := 2) rfl (by rw [ex4]; rfl) (by decide) rfl (fun ls hl => ?_)
    refine lv_goto (tgt := 2) hx hb dX2_sortDown_72 (by decide) ?_
    exact ih2 x4 S2 h _ _ _ hP hS (lv_sub hl [1, 2, 0] rfl)
  have tL13 : ∀ (K2 : Int32 × gS → Prop) (ih2 : ∀ (v2 : Int32) (S : gS), K2 (v2, S) → ∀ (H : Heap) (locs : List Loc) (ls : Array Slot), va_P D vwCl (wC Y A S) H → va_S (gF A 65 s.heap.size) s.heap H locs → lv_has ls 5 [(0, .ref (A 9)), (1, .ref (A 19)), (2, .int v2)] → W p l e rmX2_sortDown s m args below meth c H locs 0 0 Z (F0 m 2 ls [])) (v2 : Int32) (v3 : Int32) (v4 : Int32) (S : gS), lp (qX2_sortDown_L13 Q K2) (v2, v3, v4, S) → ∀ (H : Heap) (locs : List Loc) (ls : Array Slot), va_P D vwCl (wC Y A S) H → va_S (gF A 65 s.heap.size) s.heap H locs → lv_has ls 5 [(0, .ref (A 9)), (1, .ref (A 19)), (2, .int v2), (3, .int v3), (4, .int v4)] → W p l e rmX2_sortDown s m args below meth c H locs 0 0 Z (F0 m 13 ls []) := by
    intro K2 ih2 v2 v3 v4 S h
    refine lp_walk (G := fun a => match a with | (v2, v3, v4, S) => ∀ (H : Heap) (locs : List Loc) (ls : Array Slot), va_P D vwCl (wC Y A S) H → va_S (gF A 65 s.heap.size) s.heap H locs → lv_has ls 5 [(0, .ref (A 9)), (1, .ref (A 19)), (2, .int v2), (3, .int v3), (4, .int v4)] → W p l e rmX2_sortDown s m args below meth c H locs 0 0 Z (F0 m 13 ls [])) (fun K13 a ih13 h => ?_) (v2, v3, v4, S) h
    obtain ⟨v2, v3, v4, S⟩ := a
    have ih13 : ∀ (v2 : Int32) (v3 : Int32) (v4 : Int32) (S : gS), K13 (v2, v3, v4, S) → ∀ (H : Heap) (locs : List Loc) (ls : Array Slot), va_P D vwCl (wC Y A S) H → va_S (gF A 65 s.heap.size) s.heap H locs → lv_has ls 5 [(0, .ref (A 9)), (1, .ref (A 19)), (2, .int v2), (3, .int v3), (4, .int v4)] → W p l e rmX2_sortDown s m args below meth c H locs 0 0 Z (F0 m 13 ls []) := fun v2 v3 v4 S q => ih13 (v2, v3, v4, S) q
    intro H locs ls hP hS hl
    refine lv_iload hx hb dX2_sortDown_13 (lv_at hl 4 rfl) ?_
    refine lv_if_le (tgt := 60) hx hb dX2_sortDown_15 (by decide) (fun c5 => ?_) (fun c5 => ?_)
    · have h := h.1 c5
      exact tJ60 K2 ih2 v2 v3 S h _ _ _ hP hS (lv_sub hl [0, 1, 2, 3] rfl)
    · have h := h.2 c5
      refine lv_aload_n hx hb dX2_sortDown_18 rfl (lv_at hl 0 rfl) ?_
      refine va_get (ci := 2) (v := .ref (A 64)) (C := RX2) (T := TX2) (N := 3) hx hb hts k0 hown hK hP 9 (aC9 Y A S) rfl 0 (by decide) k1 (fun _ h9 => h9) rfl dX2_sortDown_19 ?_
      refine lv_iload hx hb dX2_sortDown_22 (lv_at hl 4 rfl) ?_
      refine lv_iconst (v := (1 : Int32)) hx hb dX2_sortDown_24 (by decide) ?_
      refine lv_isub hx hb dX2_sortDown_25 ?_
      have v_6 := h.1
      have h := h.2
      refine va_iald hx hb hK hP 64 0 (aC64 Y A S) rfl v_6 dX2_sortDown_26 ?_
      refine lv_aload_n hx hb dX2_sortDown_27 rfl (lv_at hl 1 rfl) ?_
      refine lv_iload_n hx hb dX2_sortDown_28 rfl (lv_at hl 2 rfl) ?_
      have v_7 := h.1
      have h := h.2
      refine va_iald hx hb hK hP 19 0 (aC19 Y A S) rfl v_7 dX2_sortDown_29 ?_
      refine lv_icmp_ge (tgt := 60) hx hb dX2_sortDown_30 (by decide) (fun c8 => ?_) (fun c8 => ?_)
      · have h := h.1 c8
        exact tJ60 K2 ih2 v2 v3 S h _ _ _ hP hS (lv_sub hl [0, 1, 2, 3] rfl)
      · have h := h.2 c8
        refine lv_aload_n hx hb dX2_sortDown_33 rfl (lv_at hl 0 rfl) ?_
        refine va_get (ci := 2) (v := .ref (A 64)) (C := RX2) (T := TX2) (N := 3) hx hb hts k0 hown hK hP 9 (aC9 Y A S) rfl 0 (by decide) k1 (fun _ h9 => h9) rfl dX2_sortDown_34 ?_
        refine lv_iload hx hb dX2_sortDown_37 (lv_at hl 4 rfl) ?_
        refine lv_aload_n hx hb dX2_sortDown_39 rfl (lv_at hl 0 rfl) ?_
        refine va_get (ci := 2) (v := .ref (A 64)) (C := RX2) (T := TX2) (N := 3) hx hb hts k0 hown hK hP 9 (aC9 Y A S) rfl 0 (by decide) k1 (fun _ h9 => h9) rfl dX2_sortDown_40 ?_
        refine lv_iload hx hb dX2_sortDown_43 (lv_at hl 4 rfl) ?_
        refine lv_iconst (v := (1 : Int32)) hx hb dX2_sortDown_45 (by decide) ?_
        refine lv_isub hx hb dX2_sortDown_46 ?_
        refine va_iald hx hb hK hP 64 0 (aC64 Y A S) rfl v_6 dX2_sortDown_47 ?_
        have v_10 := h.1
        have h := h.2
        obtain ⟨S9, eS9⟩ : ∃ z : gS, z = sA S 51 (upd (ga S 51) v4.toNatClampNeg (ga S 51 (v4 - (1 : Int32)).toNatClampNeg)) := ⟨_, rfl⟩
        refine va_iast hx hb hK hP (hD S) hS 64 0 (aC64 Y A S) rfl v_10 dX2_sortDown_48 (fun H locs hP _ hS => ?_)
        have hP := uC64 eS9 hP
        have h := h S9 eS9
        refine lv_iload hx hb dX2_sortDown_49 (lv_at hl 4 rfl) ?_
        refine lv_iconst (v := (1 : Int32)) hx hb dX2_sortDown_51 (by decide) ?_
        refine lv_isub hx hb dX2_sortDown_52 ?_
        refine lv_topi (fun x11 ex11 => ?_)
        have h := h x11 ex11
        refine lv_istore_n (lv' := [(3, .int x11), (0, .ref (A 9)), (1, .ref (A 19)), (2, .int v2), (4, .int v4)]) hx hb dX2_sortDown_53 rfl hl (by decide) rfl (fun ls hl => ?_)
        obtain ⟨x12, ex12⟩ : ∃ z : Int32, z = v4 + (-1 : Int32) := ⟨_, rfl⟩
        have h := h x12 ex12
        refine lv_iinc (v := x12) (lv' := [(4, .int x12), (3, .int x11), (0, .ref (A 9)), (1, .ref (A 19)), (2, .int v2)]) hx hb dX2_sortDown_54 hl (k := 4) rfl (by rw [ex12]; rfl) (by decide) rfl (fun ls hl => ?_)
        refine lv_goto (tgt := 13) hx hb dX2_sortDown_57 (by decide) ?_
        exact ih13 v2 x11 x12 S9 h _ _ _ hP hS (lv_sub hl [2, 3, 4, 1, 0] rfl)
  have tL2 : ∀ (v2 : Int32) (S : gS), lp (qX2_sortDown_L2 Q) (v2, S) → ∀ (H : Heap) (locs : List Loc) (ls : Array Slot), va_P D vwCl (wC Y A S) H → va_S (gF A 65 s.heap.size) s.heap H locs → lv_has ls 5 [(0, .ref (A 9)), (1, .ref (A 19)), (2, .int v2)] → W p l e rmX2_sortDown s m args below meth c H locs 0 0 Z (F0 m 2 ls []) := by
    intro  v2 S h
    refine lp_walk (G := fun a => match a with | (v2, S) => ∀ (H : Heap) (locs : List Loc) (ls : Array Slot), va_P D vwCl (wC Y A S) H → va_S (gF A 65 s.heap.size) s.heap H locs → lv_has ls 5 [(0, .ref (A 9)), (1, .ref (A 19)), (2, .int v2)] → W p l e rmX2_sortDown s m args below meth c H locs 0 0 Z (F0 m 2 ls [])) (fun K2 a ih2 h => ?_) (v2, S) h
    obtain ⟨v2, S⟩ := a
    have ih2 : ∀ (v2 : Int32) (S : gS), K2 (v2, S) → ∀ (H : Heap) (locs : List Loc) (ls : Array Slot), va_P D vwCl (wC Y A S) H → va_S (gF A 65 s.heap.size) s.heap H locs → lv_has ls 5 [(0, .ref (A 9)), (1, .ref (A 19)), (2, .int v2)] → W p l e rmX2_sortDown s m args below meth c H locs 0 0 Z (F0 m 2 ls []) := fun v2 S q => ih2 (v2, S) q
    intro H locs ls hP hS hl
    refine lv_iload_n hx hb dX2_sortDown_2 rfl (lv_at hl 2 rfl) ?_
    refine lv_bipush (v := (6 : Int32)) hx hb dX2_sortDown_3 (by decide) ?_
    refine lv_icmp_ge (tgt := 75) hx hb dX2_sortDown_5 (by decide) (fun c13 => ?_) (fun c13 => ?_)
    · have h := h.1 c13
      exact hret _ _ _ _ _ dX2_sortDown_75 h hP hS
    · have h := h.2 c13
      refine lv_iload_n hx hb dX2_sortDown_8 rfl (lv_at hl 2 rfl) ?_
      refine lv_istore_n (lv' := [(3, .int v2), (0, .ref (A 9)), (1, .ref (A 19)), (2, .int v2)]) hx hb dX2_sortDown_9 rfl hl (by decide) rfl (fun ls hl => ?_)
      refine lv_iload_n hx hb dX2_sortDown_10 rfl (lv_at hl 3 rfl) ?_
      refine lv_istore (lv' := [(4, .int v2), (3, .int v2), (0, .ref (A 9)), (1, .ref (A 19)), (2, .int v2)]) hx hb dX2_sortDown_11 hl (by decide) rfl (fun ls hl => ?_)
      exact tL13 K2 ih2 v2 v2 v2 S h _ _ _ hP hS (lv_sub hl [2, 3, 4, 1, 0] rfl)
  refine lv_iconst (v := (0 : Int32)) hx hb dX2_sortDown_0 (by decide) ?_
  refine lv_istore_n (lv' := [(2, .int (0 : Int32)), (0, .ref (A 9)), (1, .ref (A 19))]) hx hb dX2_sortDown_1 rfl hl (by decide) rfl (fun ls hl => ?_)
  exact tL2  (0 : Int32) S h _ _ _ hP hS (lv_sub hl [1, 2, 0] rfl)

def qX2_solve_L17 (a2 : Int32) (a3 : Int32) (Q : gS → Prop) (K17 : Int64 × Int64 × Int64 × Int32 × gS → Prop) : Int64 × Int64 × Int64 × Int32 × gS → Prop := fun ⟨v4, v6, v8, v10, S⟩ =>
  ((6 : Int32) ≤ v10 → (Q S)) ∧ (¬ (6 : Int32) ≤ v10 → (vp_in v10 6 ∧ (∀ x3 : Int64, x3 = ((ga S 51 v10.toNatClampNeg) + a3).toInt64 → (∀ x4 : Int64, x4 = ((v6 * x3) + ((ga S 51 v10.toNatClampNeg).toInt64 * v4)) → (∀ x5 : Int64, x5 = ((v8 * x3) + v4) → (∀ x6 : Int64, x6 = (v4 * x3) → (∀ S7 : gS, S7 = sL S 0 (x4 - (a2.toInt64 * x6)) → (∀ S8 : gS, S8 = sL S7 1 x5 → (((6 : Int32) ≤ (v10 + (1 : Int32)) → (∀ x10 : Int32, x10 = v10 + (1 : Int32) → (K17 (x6, x4, x5, x10, S8)))) ∧ (¬ (6 : Int32) ≤ (v10 + (1 : Int32)) → (vp_in (v10 + (1 : Int32)) 6 ∧ (((lg_cmp (gl S8 0) ((ga S8 51 (v10 + (1 : Int32)).toNatClampNeg).toInt64 * (gl S8 1))) < 0 → (∀ x13 : Int32, x13 = v10 + (1 : Int32) → (K17 (x6, x4, x5, x13, S8)))) ∧ (¬ (lg_cmp (gl S8 0) ((ga S8 51 (v10 + (1 : Int32)).toNatClampNeg).toInt64 * (gl S8 1))) < 0 → (Q S8))))))))))))))
def qX2_solve (S : gS) (a2 : Int32) (a3 : Int32) (Q : gS → Prop) : Prop :=
  qX2_sortDown S (fun S14 => lp (qX2_solve_L17 a2 a3 Q) ((1 : Int64), (0 : Int64), (0 : Int64), (0 : Int32), S14))
abbrev rmX2_solve : Room := { frames := 1, cells := 0, slots := 0, locals := 24 }
set_option maxHeartbeats 4000000 in
set_option maxRecDepth 100000 in
theorem kX2_solve (l : Launch) (D : va_G) (Y : Nat → ClassId) (A : Nat → Nat) (hI : iC A) (sz : Nat) (S : gS) (a2 : Int32) (a3 : Int32) (Q : gS → Prop) (h : qX2_solve S a2 a3 Q) : Met l yX2_solve wsX2_solve rmX2_solve (gPc [.ref (A 9), .ref (A 19), .int a2, .int a3] sz D vwCl (tY Y) (wC Y A S)) (va_Qv Q (fun S' t => gH D vwCl (tY Y) (wC Y A S') t) (gF A 65 sz)) 0 0 (gF A 65 sz) := by
  refine gMet_v (cc := cX2_solve) (maxL := 13) (by decide +kernel) rfl (Nat.le_of_ble_eq_true rfl) (fun p e s m args below meth c Z H locs hx hb hml hts hown hK hP hS hret ls hl => ?_)
  have hown : s.vm.findClass RX2 = some m.cls := hown
  have hl : lv_has ls 13 [(0, .ref (A 9)), (1, .ref (A 19)), (2, .int a2), (3, .int a3)] := hl
  have hD : ∀ S0 : gS, va_D (gF A 65 s.heap.size) (wC Y A S0) := fun S0 => dC hI S0 (fun k hk => gF_in hk)
  have k0 : ∀ w ∈ u_ws RX2 TX2 3, w ∈ wsX2_solve := by decide +kernel
  have k1 := hts (.fieldLink RX2 9 "CoastWatch$Game" "worths" "[I") (by decide +kernel)
  have k2 := hts (.fieldLink RX2 15 "CoastWatch$Game" "above" "J") (by decide +kernel)
  have k3 := hts (.fieldLink RX2 19 "CoastWatch$Game" "below" "J") (by decide +kernel)
  have tL17 : ∀ (v4 : Int64) (v6 : Int64) (v8 : Int64) (v10 : Int32) (S : gS), lp (qX2_solve_L17 a2 a3 Q) (v4, v6, v8, v10, S) → ∀ (H : Heap) (locs : List Loc) (ls : Array Slot), va_P D vwCl (wC Y A S) H → va_S (gF A 65 s.heap.size) s.heap H locs → lv_has ls 13 [(0, .ref (A 9)), (2, .int a2), (3, .int a3), (4, .long v4), (6, .long v6), (8, .long v8), (10, .int v10)] → W p l e rmX2_solve s m args below meth c H locs 0 0 Z (F0 m 17 ls []) := by
    intro  v4 v6 v8 v10 S h
    refine lp_walk (G := fun a => match a with | (v4, v6, v8, v10, S) => ∀ (H : Heap) (locs : List Loc) (ls : Array Slot), va_P D vwCl (wC Y A S) H → va_S (gF A 65 s.heap.size) s.heap H locs → lv_has ls 13 [(0, .ref (A 9)), (2, .int a2), (3, .int a3), (4, .long v4), (6, .long v6), (8, .long v8), (10, .int v10)] → W p l e rmX2_solve s m args below meth c H locs 0 0 Z (F0 m 17 ls [])) (fun K17 a ih17 h => ?_) (v4, v6, v8, v10, S) h
    obtain ⟨v4, v6, v8, v10, S⟩ := a
    have ih17 : ∀ (v4 : Int64) (v6 : Int64) (v8 : Int64) (v10 : Int32) (S : gS), K17 (v4, v6, v8, v10, S) → ∀ (H : Heap) (locs : List Loc) (ls : Array Slot), va_P D vwCl (wC Y A S) H → va_S (gF A 65 s.heap.size) s.heap H locs → lv_has ls 13 [(0, .ref (A 9)), (2, .int a2), (3, .int a3), (4, .long v4), (6, .long v6), (8, .long v8), (10, .int v10)] → W p l e rmX2_solve s m args below meth c H locs 0 0 Z (F0 m 17 ls []) := fun v4 v6 v8 v10 S q => ih17 (v4, v6, v8, v10, S) q
    intro H locs ls hP hS hl
    refine lv_iload hx hb dX2_solve_17 (lv_at hl 6 rfl) ?_
    refine lv_bipush (v := (6 : Int32)) hx hb dX2_solve_19 (by decide) ?_
    refine lv_icmp_ge (tgt := 129) hx hb dX2_solve_21 (by decide) (fun c1 => ?_) (fun c1 => ?_)
    · have h := h.1 c1
      exact hret _ _ _ _ _ dX2_solve_129 h hP hS
    · have h := h.2 c1
      refine lv_aload_n hx hb dX2_solve_24 rfl (lv_at hl 0 rfl) ?_
      refine va_get (ci := 2) (v := .ref (A 64)) (C := RX2) (T := TX2) (N := 3) hx hb hts k0 hown hK hP 9 (aC9 Y A S) rfl 0 (by decide) k1 (fun _ h9 => h9) rfl dX2_solve_25 ?_
      refine lv_iload hx hb dX2_solve_28 (lv_at hl 6 rfl) ?_
      have v_2 := h.1
      have h := h.2
      refine va_iald hx hb hK hP 64 0 (aC64 Y A S) rfl v_2 dX2_solve_30 ?_
      refine lv_iload_n hx hb dX2_solve_31 rfl (lv_at hl 2 rfl) ?_
      refine lv_iadd hx hb dX2_solve_32 ?_
      refine lv_i2l hx hb dX2_solve_33 rfl ?_
      refine lv_topl (fun x3 ex3 => ?_)
      have h := h x3 ex3
      refine lv_lstore (lv' := [(11, .long x3), (0, .ref (A 9)), (2, .int a2), (3, .int a3), (4, .long v4), (6, .long v6), (8, .long v8), (10, .int v10)]) hx hb dX2_solve_34 hl (by decide) rfl (fun ls hl => ?_)
      refine lv_lload hx hb dX2_solve_36 (lv_at hl 5 rfl) ?_
      refine lv_lload hx hb dX2_solve_38 (lv_at hl 0 rfl) ?_
      refine lv_lmul hx hb dX2_solve_40 ?_
      refine lv_aload_n hx hb dX2_solve_41 rfl (lv_at hl 1 rfl) ?_
      refine va_get (ci := 2) (v := .ref (A 64)) (C := RX2) (T := TX2) (N := 3) hx hb hts k0 hown hK hP 9 (aC9 Y A S) rfl 0 (by decide) k1 (fun _ h9 => h9) rfl dX2_solve_42 ?_
      refine lv_iload hx hb dX2_solve_45 (lv_at hl 7 rfl) ?_
      refine va_iald hx hb hK hP 64 0 (aC64 Y A S) rfl v_2 dX2_solve_47 ?_
      refine lv_i2l hx hb dX2_solve_48 rfl ?_
      refine lv_lload hx hb dX2_solve_49 (lv_at hl 4 rfl) ?_
      refine lv_lmul hx hb dX2_solve_51 ?_
      refine lv_ladd hx hb dX2_solve_52 ?_
      refine lv_topl (fun x4 ex4 => ?_)
      have h := h x4 ex4
      refine lv_lstore (lv' := [(6, .long x4), (11, .long x3), (0, .ref (A 9)), (2, .int a2), (3, .int a3), (4, .long v4), (8, .long v8), (10, .int v10)]) hx hb dX2_solve_53 hl (by decide) rfl (fun ls hl => ?_)
      refine lv_lload hx hb dX2_solve_55 (lv_at hl 6 rfl) ?_
      refine lv_lload hx hb dX2_solve_57 (lv_at hl 1 rfl) ?_
      refine lv_lmul hx hb dX2_solve_59 ?_
      refine lv_lload hx hb dX2_solve_60 (lv_at hl 5 rfl) ?_
      refine lv_ladd hx hb dX2_solve_62 ?_
      refine lv_topl (fun x5 ex5 => ?_)
      have h := h x5 ex5
      refine lv_lstore (lv' := [(8, .long x5), (6, .long x4), (11, .long x3), (0, .ref (A 9)), (2, .int a2), (3, .int a3), (4, .long v4), (10, .int v10)]) hx hb dX2_solve_63 hl (by decide) rfl (fun ls hl => ?_)
      refine lv_lload hx hb dX2_solve_65 (lv_at hl 6 rfl) ?_
      refine lv_lload hx hb dX2_solve_67 (lv_at hl 2 rfl) ?_
      refine lv_lmul hx hb dX2_solve_69 ?_
      refine lv_topl (fun x6 ex6 => ?_)
      have h := h x6 ex6
      refine lv_lstore (lv' := [(4, .long x6), (8, .long x5), (6, .long x4), (11, .long x3), (0, .ref (A 9)), (2, .int a2), (3, .int a3), (10, .int v10)]) hx hb dX2_solve_70 hl (by decide) rfl (fun ls hl => ?_)
      refine lv_aload_n hx hb dX2_solve_72 rfl (lv_at hl 4 rfl) ?_
      refine lv_lload hx hb dX2_solve_73 (lv_at hl 2 rfl) ?_
      refine lv_iload_n hx hb dX2_solve_75 rfl (lv_at hl 5 rfl) ?_
      refine lv_i2l hx hb dX2_solve_76 rfl ?_
      refine lv_lload hx hb dX2_solve_77 (lv_at hl 0 rfl) ?_
      refine lv_lmul hx hb dX2_solve_79 ?_
      refine lv_lsub hx hb dX2_solve_80 ?_
      obtain ⟨S7, eS7⟩ : ∃ z : gS, z = sL S 0 (x4 - (a2.toInt64 * x6)) := ⟨_, rfl⟩
      have h := h S7 eS7
      refine va_put (ci := 2) (v := .long (x4 - (a2.toInt64 * x6))) (ty := .long) (C := RX2) (T := TX2) (N := 3) hx hb hts k0 tyX2 tyX2_ok nmX2 hown hK hP (hD S) hS 9 (aC9 Y A S) rfl 1 (by decide) k2 (fun _ h9 => h9) rfl rfl rfl rfl (by simp) dX2_solve_81 (fun H locs hP _ hS => ?_)
      have hP := pC9_1 eS7 hP
      refine lv_aload_n hx hb dX2_solve_84 rfl (lv_at hl 4 rfl) ?_
      refine lv_lload hx hb dX2_solve_85 (lv_at hl 1 rfl) ?_
      obtain ⟨S8, eS8⟩ : ∃ z : gS, z = sL S7 1 x5 := ⟨_, rfl⟩
      have h := h S8 eS8
      refine va_put (ci := 2) (v := .long x5) (ty := .long) (C := RX2) (T := TX2) (N := 3) hx hb hts k0 tyX2 tyX2_ok nmX2 hown hK hP (hD S7) hS 9 (aC9 Y A S7) rfl 2 (by decide) k3 (fun _ h9 => h9) rfl rfl rfl rfl (by simp) dX2_solve_87 (fun H locs hP _ hS => ?_)
      have hP := pC9_2 eS8 hP
      refine lv_iload hx hb dX2_solve_90 (lv_at hl 7 rfl) ?_
      refine lv_iconst (v := (1 : Int32)) hx hb dX2_solve_92 (by decide) ?_
      refine lv_iadd hx hb dX2_solve_93 ?_
      refine lv_bipush (v := (6 : Int32)) hx hb dX2_solve_94 (by decide) ?_
      refine lv_icmp_ge (tgt := 123) hx hb dX2_solve_96 (by decide) (fun c9 => ?_) (fun c9 => ?_)
      · have h := h.1 c9
        obtain ⟨x10, ex10⟩ : ∃ z : Int32, z = v10 + (1 : Int32) := ⟨_, rfl⟩
        have h := h x10 ex10
        refine lv_iinc (v := x10) (lv' := [(10, .int x10), (4, .long x6), (8, .long x5), (6, .long x4), (11, .long x3), (0, .ref (A 9)), (2, .int a2), (3, .int a3)]) hx hb dX2_solve_123 hl (k := 7) rfl (by rw [ex10]; rfl) (by decide) rfl (fun ls hl => ?_)
        refine lv_goto (tgt := 17) hx hb dX2_solve_126 (by decide) ?_
        exact ih17 x6 x4 x5 x10 S8 h _ _ _ hP hS (lv_sub hl [5, 6, 7, 1, 3, 2, 0] rfl)
      · have h := h.2 c9
        refine lv_aload_n hx hb dX2_solve_99 rfl (lv_at hl 4 rfl) ?_
        refine va_get (ci := 2) (v := .long (gl S8 0)) (C := RX2) (T := TX2) (N := 3) hx hb hts k0 hown hK hP 9 (aC9 Y A S8) rfl 1 (by decide) k2 (fun _ h9 => h9) rfl dX2_solve_100 ?_
        refine lv_aload_n hx hb dX2_solve_103 rfl (lv_at hl 4 rfl) ?_
        refine va_get (ci := 2) (v := .ref (A 64)) (C := RX2) (T := TX2) (N := 3) hx hb hts k0 hown hK hP 9 (aC9 Y A S8) rfl 0 (by decide) k1 (fun _ h9 => h9) rfl dX2_solve_104 ?_
        refine lv_iload hx hb dX2_solve_107 (lv_at hl 7 rfl) ?_
        refine lv_iconst (v := (1 : Int32)) hx hb dX2_solve_109 (by decide) ?_
        refine lv_iadd hx hb dX2_solve_110 ?_
        have v_11 := h.1
        have h := h.2
        refine va_iald hx hb hK hP 64 0 (aC64 Y A S8) rfl v_11 dX2_solve_111 ?_
        refine lv_i2l hx hb dX2_solve_112 rfl ?_
        refine lv_aload_n hx hb dX2_solve_113 rfl (lv_at hl 4 rfl) ?_
        refine va_get (ci := 2) (v := .long (gl S8 1)) (C := RX2) (T := TX2) (N := 3) hx hb hts k0 hown hK hP 9 (aC9 Y A S8) rfl 2 (by decide) k3 (fun _ h9 => h9) rfl dX2_solve_114 ?_
        refine lv_lmul hx hb dX2_solve_117 ?_
        refine W.lcmp hx hb dX2_solve_118 ?_
        refine lv_if_lt (tgt := 123) hx hb dX2_solve_119 (by decide) (fun c12 => ?_) (fun c12 => ?_)
        · have h := h.1 c12
          obtain ⟨x13, ex13⟩ : ∃ z : Int32, z = v10 + (1 : Int32) := ⟨_, rfl⟩
          have h := h x13 ex13
          refine lv_iinc (v := x13) (lv' := [(10, .int x13), (4, .long x6), (8, .long x5), (6, .long x4), (11, .long x3), (0, .ref (A 9)), (2, .int a2), (3, .int a3)]) hx hb dX2_solve_123 hl (k := 7) rfl (by rw [ex13]; rfl) (by decide) rfl (fun ls hl => ?_)
          refine lv_goto (tgt := 17) hx hb dX2_solve_126 (by decide) ?_
          exact ih17 x6 x4 x5 x13 S8 h _ _ _ hP hS (lv_sub hl [5, 6, 7, 1, 3, 2, 0] rfl)
        · have h := h.2 c12
          exact hret _ _ _ _ _ dX2_solve_122 h hP hS
  refine lv_aload_n hx hb dX2_solve_0 rfl (lv_at hl 0 rfl) ?_
  refine lv_aload_n hx hb dX2_solve_1 rfl (lv_at hl 1 rfl) ?_
  refine gVv (As := [.ref (A 19)]) (rest := []) ⟨hx, hb, hml, hown, hts⟩ (kX2_sortDown l D Y A hI H.size S  _ h) (cwV 1 hts gX2_solve_X2_sortDown rfl rfl rfl (by decide +kernel) ⟨Nat.le_of_ble_eq_true rfl, Nat.le_of_ble_eq_true rfl⟩) hK hP hS (gF_le hS.1) (aC9 Y A S) (show vwCl[2]? = some (RX2, TX2, 3) from rfl) rfl rfl hl.1 (Nat.le_of_ble_eq_true rfl) dX2_solve_2 ⟨Nat.zero_le _, Nat.zero_le _⟩ ?_
  intro S14 H locs h hP hS
  refine lv_lconst (v := (1 : Int64)) hx hb dX2_solve_5 (by decide) ?_
  refine lv_lstore (lv' := [(4, .long (1 : Int64)), (0, .ref (A 9)), (1, .ref (A 19)), (2, .int a2), (3, .int a3)]) hx hb dX2_solve_6 hl (by decide) rfl (fun ls hl => ?_)
  refine lv_lconst (v := (0 : Int64)) hx hb dX2_solve_8 (by decide) ?_
  refine lv_lstore (lv' := [(6, .long (0 : Int64)), (4, .long (1 : Int64)), (0, .ref (A 9)), (1, .ref (A 19)), (2, .int a2), (3, .int a3)]) hx hb dX2_solve_9 hl (by decide) rfl (fun ls hl => ?_)
  refine lv_lconst (v := (0 : Int64)) hx hb dX2_solve_11 (by decide) ?_
  refine lv_lstore (lv' := [(8, .long (0 : Int64)), (6, .long (0 : Int64)), (4, .long (1 : Int64)), (0, .ref (A 9)), (1, .ref (A 19)), (2, .int a2), (3, .int a3)]) hx hb dX2_solve_12 hl (by decide) rfl (fun ls hl => ?_)
  refine lv_iconst (v := (0 : Int32)) hx hb dX2_solve_14 (by decide) ?_
  refine lv_istore (lv' := [(10, .int (0 : Int32)), (8, .long (0 : Int64)), (6, .long (0 : Int64)), (4, .long (1 : Int64)), (0, .ref (A 9)), (1, .ref (A 19)), (2, .int a2), (3, .int a3)]) hx hb dX2_solve_15 hl (by decide) rfl (fun ls hl => ?_)
  exact tL17  (1 : Int64) (0 : Int64) (0 : Int64) (0 : Int32) S14 h _ _ _ hP hS (lv_sub hl [4, 6, 7, 3, 2, 1, 0] rfl)

def qX3_add (S : gS) (a1 : Int32) (a2 : Int32) (a3 : Int32) (Q : Int32 → gS → Prop) : Prop :=
  ∀ x1 : Int32, x1 = (gi S 5) → ((x1 < (12 : Int32) → (vp_in x1 12 ∧ (∀ S3 : gS, S3 = sA S 29 (upd (ga S 29) x1.toNatClampNeg a1) → (∀ S5 : gS, S5 = sA S3 30 (upd (ga S3 30) x1.toNatClampNeg a2) → (∀ S6 : gS, S6 = sA S5 31 (upd (ga S5 31) x1.toNatClampNeg a3) → (∀ S7 : gS, S7 = sI S6 5 (x1 + (1 : Int32)) → (Q x1 S7))))))) ∧ (¬ x1 < (12 : Int32) → (Q (-1 : Int32) S)))
abbrev rmX3_add : Room := { frames := 0, cells := 0, slots := 0, locals := 0 }
set_option maxHeartbeats 4000000 in
set_option maxRecDepth 100000 in
theorem kX3_add (l : Launch) (D : va_G) (Y : Nat → ClassId) (A : Nat → Nat) (hI : iC A) (sz : Nat) (S : gS) (a1 : Int32) (a2 : Int32) (a3 : Int32) (Q : Int32 → gS → Prop) (h : qX3_add S a1 a2 a3 Q) : Met l yX3_add wsX3_add rmX3_add (gPc [.ref (A 4), .int a1, .int a2, .int a3] sz D vwCl (tY Y) (wC Y A S)) (va_Qi Q (fun S' t => gH D vwCl (tY Y) (wC Y A S') t) (gF A 65 sz)) 0 0 (gF A 65 sz) := by
  refine gMet_i (cc := cX3_add) (maxL := 5) (by decide +kernel) rfl (Nat.le_of_ble_eq_true rfl) (fun p e s m args below meth c Z H locs hx hb hml hts hown hK hP hS hret ls hl => ?_)
  have hown : s.vm.findClass RX3 = some m.cls := hown
  have hl : lv_has ls 5 [(0, .ref (A 4)), (1, .int a1), (2, .int a2), (3, .int a3)] := hl
  have hD : ∀ S0 : gS, va_D (gF A 65 s.heap.size) (wC Y A S0) := fun S0 => dC hI S0 (fun k hk => gF_in hk)
  have k0 : ∀ w ∈ u_ws RX3 TX3 7, w ∈ wsX3_add := by decide +kernel
  have k1 := hts (.fieldLink RX3 11 "CoastWatch$Hides" "size" "I") (by decide +kernel)
  have k2 := hts (.fieldLink RX3 15 "CoastWatch$Hides" "cove" "[I") (by decide +kernel)
  have k3 := hts (.fieldLink RX3 19 "CoastWatch$Hides" "room" "[I") (by decide +kernel)
  have k4 := hts (.fieldLink RX3 22 "CoastWatch$Hides" "cost" "[I") (by decide +kernel)
  refine lv_aload_n hx hb dX3_add_0 rfl (lv_at hl 0 rfl) ?_
  refine va_get (ci := 3) (v := .int (gi S 5)) (C := RX3) (T := TX3) (N := 7) hx hb hts k0 hown hK hP 4 (aC4 Y A S) rfl 0 (by decide) k1 (fun _ h9 => h9) rfl dX3_add_1 ?_
  refine lv_topi (fun x1 ex1 => ?_)
  have h := h x1 ex1
  refine lv_istore (lv' := [(4, .int x1), (0, .ref (A 4)), (1, .int a1), (2, .int a2), (3, .int a3)]) hx hb dX3_add_4 hl (by decide) rfl (fun ls hl => ?_)
  refine lv_iload hx hb dX3_add_6 (lv_at hl 0 rfl) ?_
  refine lv_bipush (v := (12 : Int32)) hx hb dX3_add_8 (by decide) ?_
  refine lv_icmp_lt (tgt := 15) hx hb dX3_add_10 (by decide) (fun c2 => ?_) (fun c2 => ?_)
  · have h := h.1 c2
    refine lv_aload_n hx hb dX3_add_15 rfl (lv_at hl 1 rfl) ?_
    refine va_get (ci := 3) (v := .ref (A 41)) (C := RX3) (T := TX3) (N := 7) hx hb hts k0 hown hK hP 4 (aC4 Y A S) rfl 1 (by decide) k2 (fun _ h9 => h9) rfl dX3_add_16 ?_
    refine lv_iload hx hb dX3_add_19 (lv_at hl 0 rfl) ?_
    refine lv_iload_n hx hb dX3_add_21 rfl (lv_at hl 2 rfl) ?_
    have v_4 := h.1
    have h := h.2
    obtain ⟨S3, eS3⟩ : ∃ z : gS, z = sA S 29 (upd (ga S 29) x1.toNatClampNeg a1) := ⟨_, rfl⟩
    refine va_iast hx hb hK hP (hD S) hS 41 0 (aC41 Y A S) rfl v_4 dX3_add_22 (fun H locs hP _ hS => ?_)
    have hP := uC41 eS3 hP
    have h := h S3 eS3
    refine lv_aload_n hx hb dX3_add_23 rfl (lv_at hl 1 rfl) ?_
    refine va_get (ci := 3) (v := .ref (A 42)) (C := RX3) (T := TX3) (N := 7) hx hb hts k0 hown hK hP 4 (aC4 Y A S3) rfl 2 (by decide) k3 (fun _ h9 => h9) rfl dX3_add_24 ?_
    refine lv_iload hx hb dX3_add_27 (lv_at hl 0 rfl) ?_
    refine lv_iload_n hx hb dX3_add_29 rfl (lv_at hl 3 rfl) ?_
    obtain ⟨S5, eS5⟩ : ∃ z : gS, z = sA S3 30 (upd (ga S3 30) x1.toNatClampNeg a2) := ⟨_, rfl⟩
    refine va_iast hx hb hK hP (hD S3) hS 42 0 (aC42 Y A S3) rfl v_4 dX3_add_30 (fun H locs hP _ hS => ?_)
    have hP := uC42 eS5 hP
    have h := h S5 eS5
    refine lv_aload_n hx hb dX3_add_31 rfl (lv_at hl 1 rfl) ?_
    refine va_get (ci := 3) (v := .ref (A 43)) (C := RX3) (T := TX3) (N := 7) hx hb hts k0 hown hK hP 4 (aC4 Y A S5) rfl 3 (by decide) k4 (fun _ h9 => h9) rfl dX3_add_32 ?_
    refine lv_iload hx hb dX3_add_35 (lv_at hl 0 rfl) ?_
    refine lv_iload_n hx hb dX3_add_37 rfl (lv_at hl 4 rfl) ?_
    obtain ⟨S6, eS6⟩ : ∃ z : gS, z = sA S5 31 (upd (ga S5 31) x1.toNatClampNeg a3) := ⟨_, rfl⟩
    refine va_iast hx hb hK hP (hD S5) hS 43 0 (aC43 Y A S5) rfl v_4 dX3_add_38 (fun H locs hP _ hS => ?_)
    have hP := uC43 eS6 hP
    have h := h S6 eS6
    refine lv_aload_n hx hb dX3_add_39 rfl (lv_at hl 1 rfl) ?_
    refine lv_iload hx hb dX3_add_40 (lv_at hl 0 rfl) ?_
    refine lv_iconst (v := (1 : Int32)) hx hb dX3_add_42 (by decide) ?_
    refine lv_iadd hx hb dX3_add_43 ?_
    obtain ⟨S7, eS7⟩ : ∃ z : gS, z = sI S6 5 (x1 + (1 : Int32)) := ⟨_, rfl⟩
    have h := h S7 eS7
    refine va_put (ci := 3) (v := .int (x1 + (1 : Int32))) (ty := .int) (C := RX3) (T := TX3) (N := 7) hx hb hts k0 tyX3 tyX3_ok nmX3 hown hK hP (hD S6) hS 4 (aC4 Y A S6) rfl 0 (by decide) k1 (fun _ h9 => h9) rfl rfl rfl rfl (by simp) dX3_add_44 (fun H locs hP _ hS => ?_)
    have hP := pC4_0 eS7 hP
    refine lv_iload hx hb dX3_add_47 (lv_at hl 0 rfl) ?_
    exact hret _ _ _ _ _ _ dX3_add_49 h hP hS
  · have h := h.2 c2
    refine lv_iconst (v := (-1 : Int32)) hx hb dX3_add_13 (by decide) ?_
    exact hret _ _ _ _ _ _ dX3_add_14 h hP hS

def qX3_firstWithRoom_L2 (a1 : Int32) (a2 : Int32) (Q : Int32 → gS → Prop) (K2 : Int32 × gS → Prop) : Int32 × gS → Prop := fun ⟨v3, S⟩ =>
  ((gi S 5) ≤ v3 → (Q (-1 : Int32) S)) ∧ (¬ (gi S 5) ≤ v3 → (vp_in v3 12 ∧ (((ga S 29 v3.toNatClampNeg) = a1 → ((((ga S 30 v3.toNatClampNeg) - (ga S 33 v3.toNatClampNeg)) < a2 → (∀ x6 : Int32, x6 = v3 + (1 : Int32) → (K2 (x6, S)))) ∧ (¬ ((ga S 30 v3.toNatClampNeg) - (ga S 33 v3.toNatClampNeg)) < a2 → (Q v3 S)))) ∧ (¬ (ga S 29 v3.toNatClampNeg) = a1 → (∀ x4 : Int32, x4 = v3 + (1 : Int32) → (K2 (x4, S)))))))
def qX3_firstWithRoom (S : gS) (a1 : Int32) (a2 : Int32) (Q : Int32 → gS → Prop) : Prop :=
  lp (qX3_firstWithRoom_L2 a1 a2 Q) ((0 : Int32), S)
abbrev rmX3_firstWithRoom : Room := { frames := 0, cells := 0, slots := 0, locals := 0 }
set_option maxHeartbeats 4000000 in
set_option maxRecDepth 100000 in
theorem kX3_firstWithRoom (l : Launch) (D : va_G) (Y : Nat → ClassId) (A : Nat → Nat) (hI : iC A) (sz : Nat) (S : gS) (a1 : Int32) (a2 : Int32) (Q : Int32 → gS → Prop) (h : qX3_firstWithRoom S a1 a2 Q) : Met l yX3_firstWithRoom wsX3_firstWithRoom rmX3_firstWithRoom (gPc [.ref (A 4), .int a1, .int a2] sz D vwCl (tY Y) (wC Y A S)) (va_Qi Q (fun S' t => gH D vwCl (tY Y) (wC Y A S') t) (gF A 65 sz)) 0 0 (gF A 65 sz) := by
  refine gMet_i (cc := cX3_firstWithRoom) (maxL := 4) (by decide +kernel) rfl (Nat.le_of_ble_eq_true rfl) (fun p e s m args below meth c Z H locs hx hb hml hts hown hK hP hS hret ls hl => ?_)
  have hown : s.vm.findClass RX3 = some m.cls := hown
  have hl : lv_has ls 4 [(0, .ref (A 4)), (1, .int a1), (2, .int a2)] := hl
  have hD : ∀ S0 : gS, va_D (gF A 65 s.heap.size) (wC Y A S0) := fun S0 => dC hI S0 (fun k hk => gF_in hk)
  have k0 : ∀ w ∈ u_ws RX3 TX3 7, w ∈ wsX3_firstWithRoom := by decide +kernel
  have k1 := hts (.fieldLink RX3 11 "CoastWatch$Hides" "size" "I") (by decide +kernel)
  have k2 := hts (.fieldLink RX3 15 "CoastWatch$Hides" "cove" "[I") (by decide +kernel)
  have k3 := hts (.fieldLink RX3 19 "CoastWatch$Hides" "room" "[I") (by decide +kernel)
  have k4 := hts (.fieldLink RX3 28 "CoastWatch$Hides" "lying" "[I") (by decide +kernel)
  have tL2 : ∀ (v3 : Int32) (S : gS), lp (qX3_firstWithRoom_L2 a1 a2 Q) (v3, S) → ∀ (H : Heap) (locs : List Loc) (ls : Array Slot), va_P D vwCl (wC Y A S) H → va_S (gF A 65 s.heap.size) s.heap H locs → lv_has ls 4 [(0, .ref (A 4)), (1, .int a1), (2, .int a2), (3, .int v3)] → W p l e rmX3_firstWithRoom s m args below meth c H locs 0 0 Z (F0 m 2 ls []) := by
    intro  v3 S h
    refine lp_walk (G := fun a => match a with | (v3, S) => ∀ (H : Heap) (locs : List Loc) (ls : Array Slot), va_P D vwCl (wC Y A S) H → va_S (gF A 65 s.heap.size) s.heap H locs → lv_has ls 4 [(0, .ref (A 4)), (1, .int a1), (2, .int a2), (3, .int v3)] → W p l e rmX3_firstWithRoom s m args below meth c H locs 0 0 Z (F0 m 2 ls [])) (fun K2 a ih2 h => ?_) (v3, S) h
    obtain ⟨v3, S⟩ := a
    have ih2 : ∀ (v3 : Int32) (S : gS), K2 (v3, S) → ∀ (H : Heap) (locs : List Loc) (ls : Array Slot), va_P D vwCl (wC Y A S) H → va_S (gF A 65 s.heap.size) s.heap H locs → lv_has ls 4 [(0, .ref (A 4)), (1, .int a1), (2, .int a2), (3, .int v3)] → W p l e rmX3_firstWithRoom s m args below meth c H locs 0 0 Z (F0 m 2 ls []) := fun v3 S q => ih2 (v3, S) q
    intro H locs ls hP hS hl
    refine lv_iload_n hx hb dX3_firstWithRoom_2 rfl (lv_at hl 3 rfl) ?_
    refine lv_aload_n hx hb dX3_firstWithRoom_3 rfl (lv_at hl 0 rfl) ?_
    refine va_get (ci := 3) (v := .int (gi S 5)) (C := RX3) (T := TX3) (N := 7) hx hb hts k0 hown hK hP 4 (aC4 Y A S) rfl 0 (by decide) k1 (fun _ h9 => h9) rfl dX3_firstWithRoom_4 ?_
    refine lv_icmp_ge (tgt := 45) hx hb dX3_firstWithRoom_7 (by decide) (fun c1 => ?_) (fun c1 => ?_)
    · have h := h.1 c1
      refine lv_iconst (v := (-1 : Int32)) hx hb dX3_firstWithRoom_45 (by decide) ?_
      exact hret _ _ _ _ _ _ dX3_firstWithRoom_46 h hP hS
    · have h := h.2 c1
      refine lv_aload_n hx hb dX3_firstWithRoom_10 rfl (lv_at hl 0 rfl) ?_
      refine va_get (ci := 3) (v := .ref (A 41)) (C := RX3) (T := TX3) (N := 7) hx hb hts k0 hown hK hP 4 (aC4 Y A S) rfl 1 (by decide) k2 (fun _ h9 => h9) rfl dX3_firstWithRoom_11 ?_
      refine lv_iload_n hx hb dX3_firstWithRoom_14 rfl (lv_at hl 3 rfl) ?_
      have v_2 := h.1
      have h := h.2
      refine va_iald hx hb hK hP 41 0 (aC41 Y A S) rfl v_2 dX3_firstWithRoom_15 ?_
      refine lv_iload_n hx hb dX3_firstWithRoom_16 rfl (lv_at hl 1 rfl) ?_
      refine lv_icmp_ne (tgt := 39) hx hb dX3_firstWithRoom_17 (by decide) (fun c3 => ?_) (fun c3 => ?_)
      · have h := h.2 c3
        obtain ⟨x4, ex4⟩ : ∃ z : Int32, z = v3 + (1 : Int32) := ⟨_, rfl⟩
        have h := h x4 ex4
        refine lv_iinc (v := x4) (lv' := [(3, .int x4), (0, .ref (A 4)), (1, .int a1), (2, .int a2)]) hx hb dX3_firstWithRoom_39 hl (k := 3) rfl (by rw [ex4]; rfl) (by decide) rfl (fun ls hl => ?_)
        refine lv_goto (tgt := 2) hx hb dX3_firstWithRoom_42 (by decide) ?_
        exact ih2 x4 S h _ _ _ hP hS (lv_sub hl [1, 2, 3, 0] rfl)
      · have h := h.1 c3
        refine lv_iload_n hx hb dX3_firstWithRoom_20 rfl (lv_at hl 2 rfl) ?_
        refine lv_aload_n hx hb dX3_firstWithRoom_21 rfl (lv_at hl 0 rfl) ?_
        refine va_get (ci := 3) (v := .ref (A 42)) (C := RX3) (T := TX3) (N := 7) hx hb hts k0 hown hK hP 4 (aC4 Y A S) rfl 2 (by decide) k3 (fun _ h9 => h9) rfl dX3_firstWithRoom_22 ?_
        refine lv_iload_n hx hb dX3_firstWithRoom_25 rfl (lv_at hl 3 rfl) ?_
        refine va_iald hx hb hK hP 42 0 (aC42 Y A S) rfl v_2 dX3_firstWithRoom_26 ?_
        refine lv_aload_n hx hb dX3_firstWithRoom_27 rfl (lv_at hl 0 rfl) ?_
        refine va_get (ci := 3) (v := .ref (A 45)) (C := RX3) (T := TX3) (N := 7) hx hb hts k0 hown hK hP 4 (aC4 Y A S) rfl 5 (by decide) k4 (fun _ h9 => h9) rfl dX3_firstWithRoom_28 ?_
        refine lv_iload_n hx hb dX3_firstWithRoom_31 rfl (lv_at hl 3 rfl) ?_
        refine va_iald hx hb hK hP 45 0 (aC45 Y A S) rfl v_2 dX3_firstWithRoom_32 ?_
        refine lv_isub hx hb dX3_firstWithRoom_33 ?_
        refine lv_icmp_gt (tgt := 39) hx hb dX3_firstWithRoom_34 (by decide) (fun c5 => ?_) (fun c5 => ?_)
        · have h := h.1 c5
          obtain ⟨x6, ex6⟩ : ∃ z : Int32, z = v3 + (1 : Int32) := ⟨_, rfl⟩
          have h := h x6 ex6
          refine lv_iinc (v := x6) (lv' := [(3, .int x6), (0, .ref (A 4)), (1, .int a1), (2, .int a2)]) hx hb dX3_firstWithRoom_39 hl (k := 3) rfl (by rw [ex6]; rfl) (by decide) rfl (fun ls hl => ?_)
          refine lv_goto (tgt := 2) hx hb dX3_firstWithRoom_42 (by decide) ?_
          exact ih2 x6 S h _ _ _ hP hS (lv_sub hl [1, 2, 3, 0] rfl)
        · have h := h.2 c5
          refine lv_iload_n hx hb dX3_firstWithRoom_37 rfl (lv_at hl 3 rfl) ?_
          exact hret _ _ _ _ _ _ dX3_firstWithRoom_38 h hP hS
  refine lv_iconst (v := (0 : Int32)) hx hb dX3_firstWithRoom_0 (by decide) ?_
  refine lv_istore_n (lv' := [(3, .int (0 : Int32)), (0, .ref (A 4)), (1, .int a1), (2, .int a2)]) hx hb dX3_firstWithRoom_1 rfl hl (by decide) rfl (fun ls hl => ?_)
  exact tL2  (0 : Int32) S h _ _ _ hP hS (lv_sub hl [1, 2, 3, 0] rfl)

def qX3_suspect_L2 (a1 : Int32) (Q : gS → Prop) (K2 : Int32 × gS → Prop) : Int32 × gS → Prop := fun ⟨v2, S⟩ =>
  ((gi S 5) ≤ v2 → (Q S)) ∧ (¬ (gi S 5) ≤ v2 → (vp_in v2 12 ∧ (((ga S 29 v2.toNatClampNeg) = a1 → (∀ S5 : gS, S5 = sA S 32 (upd (ga S 32) v2.toNatClampNeg (if ((ga S 32 v2.toNatClampNeg) + (10 : Int32)) < (999 : Int32) then ((ga S 32 v2.toNatClampNeg) + (10 : Int32)) else (999 : Int32))) → (∀ x6 : Int32, x6 = v2 + (1 : Int32) → (K2 (x6, S5))))) ∧ (¬ (ga S 29 v2.toNatClampNeg) = a1 → (∀ x4 : Int32, x4 = v2 + (1 : Int32) → (K2 (x4, S)))))))
def qX3_suspect (S : gS) (a1 : Int32) (Q : gS → Prop) : Prop :=
  lp (qX3_suspect_L2 a1 Q) ((0 : Int32), S)
abbrev rmX3_suspect : Room := { frames := 1, cells := 0, slots := 0, locals := 15 }
set_option maxHeartbeats 4000000 in
set_option maxRecDepth 100000 in
theorem kX3_suspect (l : Launch) (D : va_G) (Y : Nat → ClassId) (A : Nat → Nat) (hI : iC A) (sz : Nat) (S : gS) (a1 : Int32) (Q : gS → Prop) (h : qX3_suspect S a1 Q) : Met l yX3_suspect wsX3_suspect rmX3_suspect (gPc [.ref (A 4), .int a1] sz D vwCl (tY Y) (wC Y A S)) (va_Qv Q (fun S' t => gH D vwCl (tY Y) (wC Y A S') t) (gF A 65 sz)) 0 0 (gF A 65 sz) := by
  refine gMet_v (cc := cX3_suspect) (maxL := 3) (by decide +kernel) rfl (Nat.le_of_ble_eq_true rfl) (fun p e s m args below meth c Z H locs hx hb hml hts hown hK hP hS hret ls hl => ?_)
  have hown : s.vm.findClass RX3 = some m.cls := hown
  have hl : lv_has ls 3 [(0, .ref (A 4)), (1, .int a1)] := hl
  have hD : ∀ S0 : gS, va_D (gF A 65 s.heap.size) (wC Y A S0) := fun S0 => dC hI S0 (fun k hk => gF_in hk)
  have k0 : ∀ w ∈ u_ws RX3 TX3 7, w ∈ wsX3_suspect := by decide +kernel
  have k1 := hts (.fieldLink RX3 11 "CoastWatch$Hides" "size" "I") (by decide +kernel)
  have k2 := hts (.fieldLink RX3 15 "CoastWatch$Hides" "cove" "[I") (by decide +kernel)
  have k3 := hts (.fieldLink RX3 25 "CoastWatch$Hides" "guess" "[I") (by decide +kernel)
  have k4 := hts (.methodLink RX3 35 Lib.Math.min.name) (by decide +kernel)
  have k5 := hts (.static Lib.Math.min.name) (by decide +kernel)
  have k6 := hts (.initialized "java/lang/Math") (by decide +kernel)
  have k7 := hts (.code Lib.Math.min.name Lib.Math.min.code 2 (some .int)) (by decide +kernel)
  have tL2 : ∀ (v2 : Int32) (S : gS), lp (qX3_suspect_L2 a1 Q) (v2, S) → ∀ (H : Heap) (locs : List Loc) (ls : Array Slot), va_P D vwCl (wC Y A S) H → va_S (gF A 65 s.heap.size) s.heap H locs → lv_has ls 3 [(0, .ref (A 4)), (1, .int a1), (2, .int v2)] → W p l e rmX3_suspect s m args below meth c H locs 0 0 Z (F0 m 2 ls []) := by
    intro  v2 S h
    refine lp_walk (G := fun a => match a with | (v2, S) => ∀ (H : Heap) (locs : List Loc) (ls : Array Slot), va_P D vwCl (wC Y A S) H → va_S (gF A 65 s.heap.size) s.heap H locs → lv_has ls 3 [(0, .ref (A 4)), (1, .int a1), (2, .int v2)] → W p l e rmX3_suspect s m args below meth c H locs 0 0 Z (F0 m 2 ls [])) (fun K2 a ih2 h => ?_) (v2, S) h
    obtain ⟨v2, S⟩ := a
    have ih2 : ∀ (v2 : Int32) (S : gS), K2 (v2, S) → ∀ (H : Heap) (locs : List Loc) (ls : Array Slot), va_P D vwCl (wC Y A S) H → va_S (gF A 65 s.heap.size) s.heap H locs → lv_has ls 3 [(0, .ref (A 4)), (1, .int a1), (2, .int v2)] → W p l e rmX3_suspect s m args below meth c H locs 0 0 Z (F0 m 2 ls []) := fun v2 S q => ih2 (v2, S) q
    intro H locs ls hP hS hl
    refine lv_iload_n hx hb dX3_suspect_2 rfl (lv_at hl 2 rfl) ?_
    refine lv_aload_n hx hb dX3_suspect_3 rfl (lv_at hl 0 rfl) ?_
    refine va_get (ci := 3) (v := .int (gi S 5)) (C := RX3) (T := TX3) (N := 7) hx hb hts k0 hown hK hP 4 (aC4 Y A S) rfl 0 (by decide) k1 (fun _ h9 => h9) rfl dX3_suspect_4 ?_
    refine lv_icmp_ge (tgt := 47) hx hb dX3_suspect_7 (by decide) (fun c1 => ?_) (fun c1 => ?_)
    · have h := h.1 c1
      exact hret _ _ _ _ _ dX3_suspect_47 h hP hS
    · have h := h.2 c1
      refine lv_aload_n hx hb dX3_suspect_10 rfl (lv_at hl 0 rfl) ?_
      refine va_get (ci := 3) (v := .ref (A 41)) (C := RX3) (T := TX3) (N := 7) hx hb hts k0 hown hK hP 4 (aC4 Y A S) rfl 1 (by decide) k2 (fun _ h9 => h9) rfl dX3_suspect_11 ?_
      refine lv_iload_n hx hb dX3_suspect_14 rfl (lv_at hl 2 rfl) ?_
      have v_2 := h.1
      have h := h.2
      refine va_iald hx hb hK hP 41 0 (aC41 Y A S) rfl v_2 dX3_suspect_15 ?_
      refine lv_iload_n hx hb dX3_suspect_16 rfl (lv_at hl 1 rfl) ?_
      refine lv_icmp_ne (tgt := 41) hx hb dX3_suspect_17 (by decide) (fun c3 => ?_) (fun c3 => ?_)
      · have h := h.2 c3
        obtain ⟨x4, ex4⟩ : ∃ z : Int32, z = v2 + (1 : Int32) := ⟨_, rfl⟩
        have h := h x4 ex4
        refine lv_iinc (v := x4) (lv' := [(2, .int x4), (0, .ref (A 4)), (1, .int a1)]) hx hb dX3_suspect_41 hl (k := 2) rfl (by rw [ex4]; rfl) (by decide) rfl (fun ls hl => ?_)
        refine lv_goto (tgt := 2) hx hb dX3_suspect_44 (by decide) ?_
        exact ih2 x4 S h _ _ _ hP hS (lv_sub hl [1, 2, 0] rfl)
      · have h := h.1 c3
        refine lv_aload_n hx hb dX3_suspect_20 rfl (lv_at hl 0 rfl) ?_
        refine va_get (ci := 3) (v := .ref (A 44)) (C := RX3) (T := TX3) (N := 7) hx hb hts k0 hown hK hP 4 (aC4 Y A S) rfl 4 (by decide) k3 (fun _ h9 => h9) rfl dX3_suspect_21 ?_
        refine lv_iload_n hx hb dX3_suspect_24 rfl (lv_at hl 2 rfl) ?_
        refine lv_sipush (v := (999 : Int32)) hx hb dX3_suspect_25 (by decide) ?_
        refine lv_aload_n hx hb dX3_suspect_28 rfl (lv_at hl 0 rfl) ?_
        refine va_get (ci := 3) (v := .ref (A 44)) (C := RX3) (T := TX3) (N := 7) hx hb hts k0 hown hK hP 4 (aC4 Y A S) rfl 4 (by decide) k3 (fun _ h9 => h9) rfl dX3_suspect_29 ?_
        refine lv_iload_n hx hb dX3_suspect_32 rfl (lv_at hl 2 rfl) ?_
        refine va_iald hx hb hK hP 44 0 (aC44 Y A S) rfl v_2 dX3_suspect_33 ?_
        refine lv_bipush (v := (10 : Int32)) hx hb dX3_suspect_34 (by decide) ?_
        refine lv_iadd hx hb dX3_suspect_36 ?_
        refine va_mmin hx hb (hml.trans hl.1.symm) hown k4 k5 k6 k7 (Nat.le_of_ble_eq_true rfl) (Nat.le_of_ble_eq_true rfl) (Nat.zero_le _) (Nat.zero_le _) dX3_suspect_37 ?_
        obtain ⟨S5, eS5⟩ : ∃ z : gS, z = sA S 32 (upd (ga S 32) v2.toNatClampNeg (if ((ga S 32 v2.toNatClampNeg) + (10 : Int32)) < (999 : Int32) then ((ga S 32 v2.toNatClampNeg) + (10 : Int32)) else (999 : Int32))) := ⟨_, rfl⟩
        refine va_iast hx hb hK hP (hD S) hS 44 0 (aC44 Y A S) rfl v_2 dX3_suspect_40 (fun H locs hP _ hS => ?_)
        have hP := uC44 eS5 hP
        have h := h S5 eS5
        obtain ⟨x6, ex6⟩ : ∃ z : Int32, z = v2 + (1 : Int32) := ⟨_, rfl⟩
        have h := h x6 ex6
        refine lv_iinc (v := x6) (lv' := [(2, .int x6), (0, .ref (A 4)), (1, .int a1)]) hx hb dX3_suspect_41 hl (k := 2) rfl (by rw [ex6]; rfl) (by decide) rfl (fun ls hl => ?_)
        refine lv_goto (tgt := 2) hx hb dX3_suspect_44 (by decide) ?_
        exact ih2 x6 S5 h _ _ _ hP hS (lv_sub hl [1, 2, 0] rfl)
  refine lv_iconst (v := (0 : Int32)) hx hb dX3_suspect_0 (by decide) ?_
  refine lv_istore_n (lv' := [(2, .int (0 : Int32)), (0, .ref (A 4)), (1, .int a1)]) hx hb dX3_suspect_1 rfl hl (by decide) rfl (fun ls hl => ?_)
  exact tL2  (0 : Int32) S h _ _ _ hP hS (lv_sub hl [1, 2, 0] rfl)

def qX3_bestSet_L60 (a1 : Int32) (Q : Int32 → gS → Prop) (K29 : Int32 × Int32 × gS → Prop) (K60 : Int32 × Int32 × Int64 × Int32 × gS → Prop) : Int32 × Int32 × Int64 × Int32 × gS → Prop := fun ⟨v2, v3, v4, v6, S⟩ =>
  vp_in v3 12 ∧ ((v6 < (ga S 31 v3.toNatClampNeg) → (∀ x3 : Int32, x3 = v3 + (1 : Int32) → (K29 (v2, x3, S)))) ∧ (¬ v6 < (ga S 31 v3.toNatClampNeg) → (vp_in v6 101 ∧ (vp_in (v6 - (ga S 31 v3.toNatClampNeg)) 101 ∧ (∀ S6 : gS, S6 = sC S (vp_updL (gc S) v6.toNatClampNeg (if ((gc S (v6 - (ga S 31 v3.toNatClampNeg)).toNatClampNeg) + v4) < (gc S v6.toNatClampNeg) then (gc S v6.toNatClampNeg) else ((gc S (v6 - (ga S 31 v3.toNatClampNeg)).toNatClampNeg) + v4))) → (∀ x7 : Int32, x7 = v6 + (-1 : Int32) → (K60 (v2, v3, v4, x7, S6))))))))
def qX3_bestSet_L29 (a1 : Int32) (Q : Int32 → gS → Prop) (K29 : Int32 × Int32 × gS → Prop) : Int32 × Int32 × gS → Prop := fun ⟨v2, v3, S⟩ =>
  ((gi S 5) ≤ v3 → ((0 ≤ v2 → (vp_in v2 101 ∧ (Q (((-(gc S v2.toNatClampNeg)) &&& (8191 : Int64)).toInt32) S))) ∧ (¬ 0 ≤ v2 → (Q (0 : Int32) S)))) ∧ (¬ (gi S 5) ≤ v3 → (vp_in v3 12 ∧ (∀ x12 : Int64, x12 = ((((ga S 32 v3.toNatClampNeg).toInt64 <<< ((20 : Int32).toInt64 &&& 63)) - (8192 : Int64)) - ((1 : Int64) <<< (v3.toInt64 &&& 63))) → (lp (qX3_bestSet_L60 a1 Q K29) (v2, v3, x12, v2, S)))))
def qX3_bestSet_L9 (a1 : Int32) (Q : Int32 → gS → Prop) (K9 : Int32 × Int32 × gS → Prop) : Int32 × Int32 × gS → Prop := fun ⟨v2, v3, S⟩ =>
  (v2 < v3 → (lp (qX3_bestSet_L29 a1 Q) (v2, (0 : Int32), S))) ∧ (¬ v2 < v3 → (vp_in v3 101 ∧ (∀ S14 : gS, S14 = sC S (vp_updL (gc S) v3.toNatClampNeg (0 : Int64)) → (∀ x16 : Int32, x16 = v3 + (1 : Int32) → (K9 (v2, x16, S14))))))
def qX3_bestSet (S : gS) (a1 : Int32) (Q : Int32 → gS → Prop) : Prop :=
  ∀ x17 : Int32, x17 = (if (100 : Int32) < a1 then (100 : Int32) else a1) → (lp (qX3_bestSet_L9 a1 Q) (x17, (0 : Int32), S))
abbrev rmX3_bestSet : Room := { frames := 1, cells := 0, slots := 0, locals := 17 }
set_option maxHeartbeats 4000000 in
set_option maxRecDepth 100000 in
theorem kX3_bestSet (l : Launch) (D : va_G) (Y : Nat → ClassId) (A : Nat → Nat) (hI : iC A) (sz : Nat) (S : gS) (a1 : Int32) (Q : Int32 → gS → Prop) (h : qX3_bestSet S a1 Q) : Met l yX3_bestSet wsX3_bestSet rmX3_bestSet (gPc [.ref (A 4), .int a1] sz D vwCl (tY Y) (wC Y A S)) (va_Qi Q (fun S' t => gH D vwCl (tY Y) (wC Y A S') t) (gF A 65 sz)) 0 0 (gF A 65 sz) := by
  refine gMet_i (cc := cX3_bestSet) (maxL := 7) (by decide +kernel) rfl (Nat.le_of_ble_eq_true rfl) (fun p e s m args below meth c Z H locs hx hb hml hts hown hK hP hS hret ls hl => ?_)
  have hown : s.vm.findClass RX3 = some m.cls := hown
  have hl : lv_has ls 7 [(0, .ref (A 4)), (1, .int a1)] := hl
  have hD : ∀ S0 : gS, va_D (gF A 65 s.heap.size) (wC Y A S0) := fun S0 => dC hI S0 (fun k hk => gF_in hk)
  have k0 : ∀ w ∈ u_ws RX3 TX3 7, w ∈ wsX3_bestSet := by decide +kernel
  have k1 := hts (.fieldLink RX3 22 "CoastWatch$Hides" "cost" "[I") (by decide +kernel)
  have k2 := hts (.fieldLink RX3 31 "CoastWatch$Hides" "scores" "[J") (by decide +kernel)
  have k3 := hts (.methodLink RX3 43 Lib.MathLoose.max_long.x) (by decide +kernel)
  have k4 := hts (.static Lib.MathLoose.max_long.x) (by decide +kernel)
  have k5 := hts (.initialized "java/lang/Math") (by decide +kernel)
  have k6 := hts (.code Lib.MathLoose.max_long.x Lib.MathLoose.max_long.code 4 (some .long)) (by decide +kernel)
  have k7 := hts (.fieldLink RX3 11 "CoastWatch$Hides" "size" "I") (by decide +kernel)
  have k8 := hts (.constantLong RX3 47 8191) (by decide +kernel)
  have k9 := hts (.fieldLink RX3 25 "CoastWatch$Hides" "guess" "[I") (by decide +kernel)
  have k10 := hts (.constantLong RX3 41 8192) (by decide +kernel)
  have k11 := hts (.methodLink RX3 35 Lib.Math.min.name) (by decide +kernel)
  have k12 := hts (.static Lib.Math.min.name) (by decide +kernel)
  have k13 := hts (.code Lib.Math.min.name Lib.Math.min.code 2 (some .int)) (by decide +kernel)
  have tL60 : ∀ (K29 : Int32 × Int32 × gS → Prop) (ih29 : ∀ (v2 : Int32) (v3 : Int32) (S : gS), K29 (v2, v3, S) → ∀ (H : Heap) (locs : List Loc) (ls : Array Slot), va_P D vwCl (wC Y A S) H → va_S (gF A 65 s.heap.size) s.heap H locs → lv_has ls 7 [(0, .ref (A 4)), (2, .int v2), (3, .int v3)] → W p l e rmX3_bestSet s m args below meth c H locs 0 0 Z (F0 m 29 ls [])) (v2 : Int32) (v3 : Int32) (v4 : Int64) (v6 : Int32) (S : gS), lp (qX3_bestSet_L60 a1 Q K29) (v2, v3, v4, v6, S) → ∀ (H : Heap) (locs : List Loc) (ls : Array Slot), va_P D vwCl (wC Y A S) H → va_S (gF A 65 s.heap.size) s.heap H locs → lv_has ls 7 [(0, .ref (A 4)), (2, .int v2), (3, .int v3), (4, .long v4), (6, .int v6)] → W p l e rmX3_bestSet s m args below meth c H locs 0 0 Z (F0 m 60 ls []) := by
    intro K29 ih29 v2 v3 v4 v6 S h
    refine lp_walk (G := fun a => match a with | (v2, v3, v4, v6, S) => ∀ (H : Heap) (locs : List Loc) (ls : Array Slot), va_P D vwCl (wC Y A S) H → va_S (gF A 65 s.heap.size) s.heap H locs → lv_has ls 7 [(0, .ref (A 4)), (2, .int v2), (3, .int v3), (4, .long v4), (6, .int v6)] → W p l e rmX3_bestSet s m args below meth c H locs 0 0 Z (F0 m 60 ls [])) (fun K60 a ih60 h => ?_) (v2, v3, v4, v6, S) h
    obtain ⟨v2, v3, v4, v6, S⟩ := a
    have ih60 : ∀ (v2 : Int32) (v3 : Int32) (v4 : Int64) (v6 : Int32) (S : gS), K60 (v2, v3, v4, v6, S) → ∀ (H : Heap) (locs : List Loc) (ls : Array Slot), va_P D vwCl (wC Y A S) H → va_S (gF A 65 s.heap.size) s.heap H locs → lv_has ls 7 [(0, .ref (A 4)), (2, .int v2), (3, .int v3), (4, .long v4), (6, .int v6)] → W p l e rmX3_bestSet s m args below meth c H locs 0 0 Z (F0 m 60 ls []) := fun v2 v3 v4 v6 S q => ih60 (v2, v3, v4, v6, S) q
    intro H locs ls hP hS hl
    refine lv_iload hx hb dX3_bestSet_60 (lv_at hl 4 rfl) ?_
    refine lv_aload_n hx hb dX3_bestSet_62 rfl (lv_at hl 0 rfl) ?_
    refine va_get (ci := 3) (v := .ref (A 43)) (C := RX3) (T := TX3) (N := 7) hx hb hts k0 hown hK hP 4 (aC4 Y A S) rfl 3 (by decide) k1 (fun _ h9 => h9) rfl dX3_bestSet_63 ?_
    refine lv_iload_n hx hb dX3_bestSet_66 rfl (lv_at hl 2 rfl) ?_
    have v_1 := h.1
    have h := h.2
    refine va_iald hx hb hK hP 43 0 (aC43 Y A S) rfl v_1 dX3_bestSet_67 ?_
    refine lv_icmp_lt (tgt := 111) hx hb dX3_bestSet_68 (by decide) (fun c2 => ?_) (fun c2 => ?_)
    · have h := h.1 c2
      obtain ⟨x3, ex3⟩ : ∃ z : Int32, z = v3 + (1 : Int32) := ⟨_, rfl⟩
      have h := h x3 ex3
      refine lv_iinc (v := x3) (lv' := [(3, .int x3), (0, .ref (A 4)), (2, .int v2), (4, .long v4), (6, .int v6)]) hx hb dX3_bestSet_111 hl (k := 2) rfl (by rw [ex3]; rfl) (by decide) rfl (fun ls hl => ?_)
      refine lv_goto (tgt := 29) hx hb dX3_bestSet_114 (by decide) ?_
      exact ih29 v2 x3 S h _ _ _ hP hS (lv_sub hl [1, 2, 0] rfl)
    · have h := h.2 c2
      refine lv_aload_n hx hb dX3_bestSet_71 rfl (lv_at hl 0 rfl) ?_
      refine va_get (ci := 3) (v := .ref (A 46)) (C := RX3) (T := TX3) (N := 7) hx hb hts k0 hown hK hP 4 (aC4 Y A S) rfl 6 (by decide) k2 (fun _ h9 => h9) rfl dX3_bestSet_72 ?_
      refine lv_iload hx hb dX3_bestSet_75 (lv_at hl 4 rfl) ?_
      refine lv_aload_n hx hb dX3_bestSet_77 rfl (lv_at hl 0 rfl) ?_
      refine va_get (ci := 3) (v := .ref (A 46)) (C := RX3) (T := TX3) (N := 7) hx hb hts k0 hown hK hP 4 (aC4 Y A S) rfl 6 (by decide) k2 (fun _ h9 => h9) rfl dX3_bestSet_78 ?_
      refine lv_iload hx hb dX3_bestSet_81 (lv_at hl 4 rfl) ?_
      have v_4 := h.1
      have h := h.2
      refine va_lald hx hb hK hP 46 2 (aC46 Y A S) rfl v_4 dX3_bestSet_83 ?_
      refine lv_aload_n hx hb dX3_bestSet_84 rfl (lv_at hl 0 rfl) ?_
      refine va_get (ci := 3) (v := .ref (A 46)) (C := RX3) (T := TX3) (N := 7) hx hb hts k0 hown hK hP 4 (aC4 Y A S) rfl 6 (by decide) k2 (fun _ h9 => h9) rfl dX3_bestSet_85 ?_
      refine lv_iload hx hb dX3_bestSet_88 (lv_at hl 4 rfl) ?_
      refine lv_aload_n hx hb dX3_bestSet_90 rfl (lv_at hl 0 rfl) ?_
      refine va_get (ci := 3) (v := .ref (A 43)) (C := RX3) (T := TX3) (N := 7) hx hb hts k0 hown hK hP 4 (aC4 Y A S) rfl 3 (by decide) k1 (fun _ h9 => h9) rfl dX3_bestSet_91 ?_
      refine lv_iload_n hx hb dX3_bestSet_94 rfl (lv_at hl 2 rfl) ?_
      refine va_iald hx hb hK hP 43 0 (aC43 Y A S) rfl v_1 dX3_bestSet_95 ?_
      refine lv_isub hx hb dX3_bestSet_96 ?_
      have v_5 := h.1
      have h := h.2
      refine va_lald hx hb hK hP 46 2 (aC46 Y A S) rfl v_5 dX3_bestSet_97 ?_
      refine lv_lload hx hb dX3_bestSet_98 (lv_at hl 3 rfl) ?_
      refine lv_ladd hx hb dX3_bestSet_100 ?_
      refine va_mmax_long hx hb (hml.trans hl.1.symm) hown k3 k4 k5 k6 (Nat.le_of_ble_eq_true rfl) (Nat.le_of_ble_eq_true rfl) (Nat.zero_le _) (Nat.zero_le _) dX3_bestSet_101 ?_
      obtain ⟨S6, eS6⟩ : ∃ z : gS, z = sC S (vp_updL (gc S) v6.toNatClampNeg (if ((gc S (v6 - (ga S 31 v3.toNatClampNeg)).toNatClampNeg) + v4) < (gc S v6.toNatClampNeg) then (gc S v6.toNatClampNeg) else ((gc S (v6 - (ga S 31 v3.toNatClampNeg)).toNatClampNeg) + v4))) := ⟨_, rfl⟩
      refine va_last hx hb hK hP (hD S) hS 46 2 (aC46 Y A S) rfl v_4 dX3_bestSet_104 (fun H locs hP _ hS => ?_)
      have hP := uC46 eS6 hP
      have h := h S6 eS6
      obtain ⟨x7, ex7⟩ : ∃ z : Int32, z = v6 + (-1 : Int32) := ⟨_, rfl⟩
      have h := h x7 ex7
      refine lv_iinc (v := x7) (lv' := [(6, .int x7), (0, .ref (A 4)), (2, .int v2), (3, .int v3), (4, .long v4)]) hx hb dX3_bestSet_105 hl (k := 4) rfl (by rw [ex7]; rfl) (by decide) rfl (fun ls hl => ?_)
      refine lv_goto (tgt := 60) hx hb dX3_bestSet_108 (by decide) ?_
      exact ih60 v2 v3 v4 x7 S6 h _ _ _ hP hS (lv_sub hl [1, 2, 3, 4, 0] rfl)
  have tL29 : ∀ (v2 : Int32) (v3 : Int32) (S : gS), lp (qX3_bestSet_L29 a1 Q) (v2, v3, S) → ∀ (H : Heap) (locs : List Loc) (ls : Array Slot), va_P D vwCl (wC Y A S) H → va_S (gF A 65 s.heap.size) s.heap H locs → lv_has ls 7 [(0, .ref (A 4)), (2, .int v2), (3, .int v3)] → W p l e rmX3_bestSet s m args below meth c H locs 0 0 Z (F0 m 29 ls []) := by
    intro  v2 v3 S h
    refine lp_walk (G := fun a => match a with | (v2, v3, S) => ∀ (H : Heap) (locs : List Loc) (ls : Array Slot), va_P D vwCl (wC Y A S) H → va_S (gF A 65 s.heap.size) s.heap H locs → lv_has ls 7 [(0, .ref (A 4)), (2, .int v2), (3, .int v3)] → W p l e rmX3_bestSet s m args below meth c H locs 0 0 Z (F0 m 29 ls [])) (fun K29 a ih29 h => ?_) (v2, v3, S) h
    obtain ⟨v2, v3, S⟩ := a
    have ih29 : ∀ (v2 : Int32) (v3 : Int32) (S : gS), K29 (v2, v3, S) → ∀ (H : Heap) (locs : List Loc) (ls : Array Slot), va_P D vwCl (wC Y A S) H → va_S (gF A 65 s.heap.size) s.heap H locs → lv_has ls 7 [(0, .ref (A 4)), (2, .int v2), (3, .int v3)] → W p l e rmX3_bestSet s m args below meth c H locs 0 0 Z (F0 m 29 ls []) := fun v2 v3 S q => ih29 (v2, v3, S) q
    intro H locs ls hP hS hl
    refine lv_iload_n hx hb dX3_bestSet_29 rfl (lv_at hl 2 rfl) ?_
    refine lv_aload_n hx hb dX3_bestSet_30 rfl (lv_at hl 0 rfl) ?_
    refine va_get (ci := 3) (v := .int (gi S 5)) (C := RX3) (T := TX3) (N := 7) hx hb hts k0 hown hK hP 4 (aC4 Y A S) rfl 0 (by decide) k7 (fun _ h9 => h9) rfl dX3_bestSet_31 ?_
    refine lv_icmp_ge (tgt := 117) hx hb dX3_bestSet_34 (by decide) (fun c8 => ?_) (fun c8 => ?_)
    · have h := h.1 c8
      refine lv_iload_n hx hb dX3_bestSet_117 rfl (lv_at hl 1 rfl) ?_
      refine lv_if_ge (tgt := 125) hx hb dX3_bestSet_118 (by decide) (fun c9 => ?_) (fun c9 => ?_)
      · have h := h.1 c9
        refine lv_aload_n hx hb dX3_bestSet_125 rfl (lv_at hl 0 rfl) ?_
        refine va_get (ci := 3) (v := .ref (A 46)) (C := RX3) (T := TX3) (N := 7) hx hb hts k0 hown hK hP 4 (aC4 Y A S) rfl 6 (by decide) k2 (fun _ h9 => h9) rfl dX3_bestSet_126 ?_
        refine lv_iload_n hx hb dX3_bestSet_129 rfl (lv_at hl 1 rfl) ?_
        have v_10 := h.1
        have h := h.2
        refine va_lald hx hb hK hP 46 2 (aC46 Y A S) rfl v_10 dX3_bestSet_130 ?_
        refine lv_lneg hx hb dX3_bestSet_131 ?_
        refine lv_ldc2 (v := (8191 : Int64)) hx hb hown k8 dX3_bestSet_132 ?_
        refine lv_land hx hb dX3_bestSet_135 ?_
        refine lv_l2i hx hb dX3_bestSet_136 rfl ?_
        exact hret _ _ _ _ _ _ dX3_bestSet_137 h hP hS
      · have h := h.2 c9
        refine lv_iconst (v := (0 : Int32)) hx hb dX3_bestSet_121 (by decide) ?_
        refine lv_goto (tgt := 137) hx hb dX3_bestSet_122 (by decide) ?_
        exact hret _ _ _ _ _ _ dX3_bestSet_137 h hP hS
    · have h := h.2 c8
      refine lv_aload_n hx hb dX3_bestSet_37 rfl (lv_at hl 0 rfl) ?_
      refine va_get (ci := 3) (v := .ref (A 44)) (C := RX3) (T := TX3) (N := 7) hx hb hts k0 hown hK hP 4 (aC4 Y A S) rfl 4 (by decide) k9 (fun _ h9 => h9) rfl dX3_bestSet_38 ?_
      refine lv_iload_n hx hb dX3_bestSet_41 rfl (lv_at hl 2 rfl) ?_
      have v_11 := h.1
      have h := h.2
      refine va_iald hx hb hK hP 44 0 (aC44 Y A S) rfl v_11 dX3_bestSet_42 ?_
      refine lv_i2l hx hb dX3_bestSet_43 rfl ?_
      refine lv_bipush (v := (20 : Int32)) hx hb dX3_bestSet_44 (by decide) ?_
      refine lv_lshl hx hb dX3_bestSet_46 rfl ?_
      refine lv_ldc2 (v := (8192 : Int64)) hx hb hown k10 dX3_bestSet_47 ?_
      refine lv_lsub hx hb dX3_bestSet_50 ?_
      refine lv_lconst (v := (1 : Int64)) hx hb dX3_bestSet_51 (by decide) ?_
      refine lv_iload_n hx hb dX3_bestSet_52 rfl (lv_at hl 2 rfl) ?_
      refine lv_lshl hx hb dX3_bestSet_53 rfl ?_
      refine lv_lsub hx hb dX3_bestSet_54 ?_
      refine lv_topl (fun x12 ex12 => ?_)
      have h := h x12 ex12
      refine lv_lstore (lv' := [(4, .long x12), (0, .ref (A 4)), (2, .int v2), (3, .int v3)]) hx hb dX3_bestSet_55 hl (by decide) rfl (fun ls hl => ?_)
      refine lv_iload_n hx hb dX3_bestSet_57 rfl (lv_at hl 2 rfl) ?_
      refine lv_istore (lv' := [(6, .int v2), (4, .long x12), (0, .ref (A 4)), (2, .int v2), (3, .int v3)]) hx hb dX3_bestSet_58 hl (by decide) rfl (fun ls hl => ?_)
      exact tL60 K29 ih29 v2 v3 x12 v2 S h _ _ _ hP hS (lv_sub hl [2, 3, 4, 1, 0] rfl)
  have tL9 : ∀ (v2 : Int32) (v3 : Int32) (S : gS), lp (qX3_bestSet_L9 a1 Q) (v2, v3, S) → ∀ (H : Heap) (locs : List Loc) (ls : Array Slot), va_P D vwCl (wC Y A S) H → va_S (gF A 65 s.heap.size) s.heap H locs → lv_has ls 7 [(0, .ref (A 4)), (2, .int v2), (3, .int v3)] → W p l e rmX3_bestSet s m args below meth c H locs 0 0 Z (F0 m 9 ls []) := by
    intro  v2 v3 S h
    refine lp_walk (G := fun a => match a with | (v2, v3, S) => ∀ (H : Heap) (locs : List Loc) (ls : Array Slot), va_P D vwCl (wC Y A S) H → va_S (gF A 65 s.heap.size) s.heap H locs → lv_has ls 7 [(0, .ref (A 4)), (2, .int v2), (3, .int v3)] → W p l e rmX3_bestSet s m args below meth c H locs 0 0 Z (F0 m 9 ls [])) (fun K9 a ih9 h => ?_) (v2, v3, S) h
    obtain ⟨v2, v3, S⟩ := a
    have ih9 : ∀ (v2 : Int32) (v3 : Int32) (S : gS), K9 (v2, v3, S) → ∀ (H : Heap) (locs : List Loc) (ls : Array Slot), va_P D vwCl (wC Y A S) H → va_S (gF A 65 s.heap.size) s.heap H locs → lv_has ls 7 [(0, .ref (A 4)), (2, .int v2), (3, .int v3)] → W p l e rmX3_bestSet s m args below meth c H locs 0 0 Z (F0 m 9 ls []) := fun v2 v3 S q => ih9 (v2, v3, S) q
    intro H locs ls hP hS hl
    refine lv_iload_n hx hb dX3_bestSet_9 rfl (lv_at hl 2 rfl) ?_
    refine lv_iload_n hx hb dX3_bestSet_10 rfl (lv_at hl 1 rfl) ?_
    refine lv_icmp_gt (tgt := 27) hx hb dX3_bestSet_11 (by decide) (fun c13 => ?_) (fun c13 => ?_)
    · have h := h.1 c13
      refine lv_iconst (v := (0 : Int32)) hx hb dX3_bestSet_27 (by decide) ?_
      refine lv_istore_n (lv' := [(3, .int (0 : Int32)), (0, .ref (A 4)), (2, .int v2)]) hx hb dX3_bestSet_28 rfl hl (by decide) rfl (fun ls hl => ?_)
      exact tL29  v2 (0 : Int32) S h _ _ _ hP hS (lv_sub hl [1, 2, 0] rfl)
    · have h := h.2 c13
      refine lv_aload_n hx hb dX3_bestSet_14 rfl (lv_at hl 0 rfl) ?_
      refine va_get (ci := 3) (v := .ref (A 46)) (C := RX3) (T := TX3) (N := 7) hx hb hts k0 hown hK hP 4 (aC4 Y A S) rfl 6 (by decide) k2 (fun _ h9 => h9) rfl dX3_bestSet_15 ?_
      refine lv_iload_n hx hb dX3_bestSet_18 rfl (lv_at hl 2 rfl) ?_
      refine lv_lconst (v := (0 : Int64)) hx hb dX3_bestSet_19 (by decide) ?_
      have v_15 := h.1
      have h := h.2
      obtain ⟨S14, eS14⟩ : ∃ z : gS, z = sC S (vp_updL (gc S) v3.toNatClampNeg (0 : Int64)) := ⟨_, rfl⟩
      refine va_last hx hb hK hP (hD S) hS 46 2 (aC46 Y A S) rfl v_15 dX3_bestSet_20 (fun H locs hP _ hS => ?_)
      have hP := uC46 eS14 hP
      have h := h S14 eS14
      obtain ⟨x16, ex16⟩ : ∃ z : Int32, z = v3 + (1 : Int32) := ⟨_, rfl⟩
      have h := h x16 ex16
      refine lv_iinc (v := x16) (lv' := [(3, .int x16), (0, .ref (A 4)), (2, .int v2)]) hx hb dX3_bestSet_21 hl (k := 2) rfl (by rw [ex16]; rfl) (by decide) rfl (fun ls hl => ?_)
      refine lv_goto (tgt := 9) hx hb dX3_bestSet_24 (by decide) ?_
      exact ih9 v2 x16 S14 h _ _ _ hP hS (lv_sub hl [1, 2, 0] rfl)
  refine lv_iload_n hx hb dX3_bestSet_0 rfl (lv_at hl 1 rfl) ?_
  refine lv_bipush (v := (100 : Int32)) hx hb dX3_bestSet_1 (by decide) ?_
  refine va_mmin hx hb (hml.trans hl.1.symm) hown k11 k12 k5 k13 (Nat.le_of_ble_eq_true rfl) (Nat.le_of_ble_eq_true rfl) (Nat.zero_le _) (Nat.zero_le _) dX3_bestSet_3 ?_
  refine lv_topi (fun x17 ex17 => ?_)
  have h := h x17 ex17
  refine lv_istore_n (lv' := [(2, .int x17), (0, .ref (A 4)), (1, .int a1)]) hx hb dX3_bestSet_6 rfl hl (by decide) rfl (fun ls hl => ?_)
  refine lv_iconst (v := (0 : Int32)) hx hb dX3_bestSet_7 (by decide) ?_
  refine lv_istore_n (lv' := [(3, .int (0 : Int32)), (2, .int x17), (0, .ref (A 4)), (1, .int a1)]) hx hb dX3_bestSet_8 rfl hl (by decide) rfl (fun ls hl => ?_)
  exact tL9  x17 (0 : Int32) S h _ _ _ hP hS (lv_sub hl [2, 1, 0] rfl)

def qX4_add (S : gS) (a1 : Int32) (a2 : Int32) (a3 : Int32) (Q : Int32 → gS → Prop) : Prop :=
  ∀ x1 : Int32, x1 = (gi S 7) → ((x1 < (20 : Int32) → (vp_in x1 20 ∧ (∀ S3 : gS, S3 = sA S 40 (upd (ga S 40) x1.toNatClampNeg a1) → (∀ S5 : gS, S5 = sA S3 41 (upd (ga S3 41) x1.toNatClampNeg a2) → (∀ S6 : gS, S6 = sA S5 42 (upd (ga S5 42) x1.toNatClampNeg a3) → (∀ S7 : gS, S7 = sI S6 7 (x1 + (1 : Int32)) → (Q x1 S7))))))) ∧ (¬ x1 < (20 : Int32) → (Q (-1 : Int32) S)))
abbrev rmX4_add : Room := { frames := 0, cells := 0, slots := 0, locals := 0 }
set_option maxHeartbeats 4000000 in
set_option maxRecDepth 100000 in
theorem kX4_add (l : Launch) (D : va_G) (Y : Nat → ClassId) (A : Nat → Nat) (hI : iC A) (sz : Nat) (S : gS) (a1 : Int32) (a2 : Int32) (a3 : Int32) (Q : Int32 → gS → Prop) (h : qX4_add S a1 a2 a3 Q) : Met l yX4_add wsX4_add rmX4_add (gPc [.ref (A 6), .int a1, .int a2, .int a3] sz D vwCl (tY Y) (wC Y A S)) (va_Qi Q (fun S' t => gH D vwCl (tY Y) (wC Y A S') t) (gF A 65 sz)) 0 0 (gF A 65 sz) := by
  refine gMet_i (cc := cX4_add) (maxL := 5) (by decide +kernel) rfl (Nat.le_of_ble_eq_true rfl) (fun p e s m args below meth c Z H locs hx hb hml hts hown hK hP hS hret ls hl => ?_)
  have hown : s.vm.findClass RX4 = some m.cls := hown
  have hl : lv_has ls 5 [(0, .ref (A 6)), (1, .int a1), (2, .int a2), (3, .int a3)] := hl
  have hD : ∀ S0 : gS, va_D (gF A 65 s.heap.size) (wC Y A S0) := fun S0 => dC hI S0 (fun k hk => gF_in hk)
  have k0 : ∀ w ∈ u_ws RX4 TX4 4, w ∈ wsX4_add := by decide +kernel
  have k1 := hts (.fieldLink RX4 9 "CoastWatch$Laws" "size" "I") (by decide +kernel)
  have k2 := hts (.fieldLink RX4 15 "CoastWatch$Laws" "crew" "[I") (by decide +kernel)
  have k3 := hts (.fieldLink RX4 19 "CoastWatch$Laws" "informer" "[I") (by decide +kernel)
  have k4 := hts (.fieldLink RX4 22 "CoastWatch$Laws" "from" "[I") (by decide +kernel)
  refine lv_aload_n hx hb dX4_add_0 rfl (lv_at hl 0 rfl) ?_
  refine va_get (ci := 4) (v := .int (gi S 7)) (C := RX4) (T := TX4) (N := 4) hx hb hts k0 hown hK hP 6 (aC6 Y A S) rfl 0 (by decide) k1 (fun _ h9 => h9) rfl dX4_add_1 ?_
  refine lv_topi (fun x1 ex1 => ?_)
  have h := h x1 ex1
  refine lv_istore (lv' := [(4, .int x1), (0, .ref (A 6)), (1, .int a1), (2, .int a2), (3, .int a3)]) hx hb dX4_add_4 hl (by decide) rfl (fun ls hl => ?_)
  refine lv_iload hx hb dX4_add_6 (lv_at hl 0 rfl) ?_
  refine lv_bipush (v := (20 : Int32)) hx hb dX4_add_8 (by decide) ?_
  refine lv_icmp_lt (tgt := 15) hx hb dX4_add_10 (by decide) (fun c2 => ?_) (fun c2 => ?_)
  · have h := h.1 c2
    refine lv_aload_n hx hb dX4_add_15 rfl (lv_at hl 1 rfl) ?_
    refine va_get (ci := 4) (v := .ref (A 53)) (C := RX4) (T := TX4) (N := 4) hx hb hts k0 hown hK hP 6 (aC6 Y A S) rfl 1 (by decide) k2 (fun _ h9 => h9) rfl dX4_add_16 ?_
    refine lv_iload hx hb dX4_add_19 (lv_at hl 0 rfl) ?_
    refine lv_iload_n hx hb dX4_add_21 rfl (lv_at hl 2 rfl) ?_
    have v_4 := h.1
    have h := h.2
    obtain ⟨S3, eS3⟩ : ∃ z : gS, z = sA S 40 (upd (ga S 40) x1.toNatClampNeg a1) := ⟨_, rfl⟩
    refine va_iast hx hb hK hP (hD S) hS 53 0 (aC53 Y A S) rfl v_4 dX4_add_22 (fun H locs hP _ hS => ?_)
    have hP := uC53 eS3 hP
    have h := h S3 eS3
    refine lv_aload_n hx hb dX4_add_23 rfl (lv_at hl 1 rfl) ?_
    refine va_get (ci := 4) (v := .ref (A 54)) (C := RX4) (T := TX4) (N := 4) hx hb hts k0 hown hK hP 6 (aC6 Y A S3) rfl 2 (by decide) k3 (fun _ h9 => h9) rfl dX4_add_24 ?_
    refine lv_iload hx hb dX4_add_27 (lv_at hl 0 rfl) ?_
    refine lv_iload_n hx hb dX4_add_29 rfl (lv_at hl 3 rfl) ?_
    obtain ⟨S5, eS5⟩ : ∃ z : gS, z = sA S3 41 (upd (ga S3 41) x1.toNatClampNeg a2) := ⟨_, rfl⟩
    refine va_iast hx hb hK hP (hD S3) hS 54 0 (aC54 Y A S3) rfl v_4 dX4_add_30 (fun H locs hP _ hS => ?_)
    have hP := uC54 eS5 hP
    have h := h S5 eS5
    refine lv_aload_n hx hb dX4_add_31 rfl (lv_at hl 1 rfl) ?_
    refine va_get (ci := 4) (v := .ref (A 55)) (C := RX4) (T := TX4) (N := 4) hx hb hts k0 hown hK hP 6 (aC6 Y A S5) rfl 3 (by decide) k4 (fun _ h9 => h9) rfl dX4_add_32 ?_
    refine lv_iload hx hb dX4_add_35 (lv_at hl 0 rfl) ?_
    refine lv_iload_n hx hb dX4_add_37 rfl (lv_at hl 4 rfl) ?_
    obtain ⟨S6, eS6⟩ : ∃ z : gS, z = sA S5 42 (upd (ga S5 42) x1.toNatClampNeg a3) := ⟨_, rfl⟩
    refine va_iast hx hb hK hP (hD S5) hS 55 0 (aC55 Y A S5) rfl v_4 dX4_add_38 (fun H locs hP _ hS => ?_)
    have hP := uC55 eS6 hP
    have h := h S6 eS6
    refine lv_aload_n hx hb dX4_add_39 rfl (lv_at hl 1 rfl) ?_
    refine lv_iload hx hb dX4_add_40 (lv_at hl 0 rfl) ?_
    refine lv_iconst (v := (1 : Int32)) hx hb dX4_add_42 (by decide) ?_
    refine lv_iadd hx hb dX4_add_43 ?_
    obtain ⟨S7, eS7⟩ : ∃ z : gS, z = sI S6 7 (x1 + (1 : Int32)) := ⟨_, rfl⟩
    have h := h S7 eS7
    refine va_put (ci := 4) (v := .int (x1 + (1 : Int32))) (ty := .int) (C := RX4) (T := TX4) (N := 4) hx hb hts k0 tyX4 tyX4_ok nmX4 hown hK hP (hD S6) hS 6 (aC6 Y A S6) rfl 0 (by decide) k1 (fun _ h9 => h9) rfl rfl rfl rfl (by simp) dX4_add_44 (fun H locs hP _ hS => ?_)
    have hP := pC6_0 eS7 hP
    refine lv_iload hx hb dX4_add_47 (lv_at hl 0 rfl) ?_
    exact hret _ _ _ _ _ _ dX4_add_49 h hP hS
  · have h := h.2 c2
    refine lv_iconst (v := (-1 : Int32)) hx hb dX4_add_13 (by decide) ?_
    exact hret _ _ _ _ _ _ dX4_add_14 h hP hS

def qX4_inForceOn_L4 (a1 : Int32) (Q : Int32 → gS → Prop) (K4 : Int32 × Int32 × gS → Prop) : Int32 × Int32 × gS → Prop := fun ⟨v2, v3, S⟩ =>
  ((gi S 7) ≤ v3 → (Q v2 S)) ∧ (¬ (gi S 7) ≤ v3 → (vp_in v3 20 ∧ ((a1 < (ga S 42 v3.toNatClampNeg) → (∀ x4 : Int32, x4 = v3 + (1 : Int32) → (K4 (v2, x4, S)))) ∧ (¬ a1 < (ga S 42 v3.toNatClampNeg) → ((v2 = (-1 : Int32) → (∀ x6 : Int32, x6 = v3 + (1 : Int32) → (K4 (v3, x6, S)))) ∧ (¬ v2 = (-1 : Int32) → (vp_in v2 20 ∧ (((ga S 42 v3.toNatClampNeg) < (ga S 42 v2.toNatClampNeg) → (∀ x9 : Int32, x9 = v3 + (1 : Int32) → (K4 (v2, x9, S)))) ∧ (¬ (ga S 42 v3.toNatClampNeg) < (ga S 42 v2.toNatClampNeg) → (∀ x10 : Int32, x10 = v3 + (1 : Int32) → (K4 (v3, x10, S))))))))))))
def qX4_inForceOn (S : gS) (a1 : Int32) (Q : Int32 → gS → Prop) : Prop :=
  lp (qX4_inForceOn_L4 a1 Q) ((-1 : Int32), (0 : Int32), S)
abbrev rmX4_inForceOn : Room := { frames := 0, cells := 0, slots := 0, locals := 0 }
set_option maxHeartbeats 4000000 in
set_option maxRecDepth 100000 in
theorem kX4_inForceOn (l : Launch) (D : va_G) (Y : Nat → ClassId) (A : Nat → Nat) (hI : iC A) (sz : Nat) (S : gS) (a1 : Int32) (Q : Int32 → gS → Prop) (h : qX4_inForceOn S a1 Q) : Met l yX4_inForceOn wsX4_inForceOn rmX4_inForceOn (gPc [.ref (A 6), .int a1] sz D vwCl (tY Y) (wC Y A S)) (va_Qi Q (fun S' t => gH D vwCl (tY Y) (wC Y A S') t) (gF A 65 sz)) 0 0 (gF A 65 sz) := by
  refine gMet_i (cc := cX4_inForceOn) (maxL := 4) (by decide +kernel) rfl (Nat.le_of_ble_eq_true rfl) (fun p e s m args below meth c Z H locs hx hb hml hts hown hK hP hS hret ls hl => ?_)
  have hown : s.vm.findClass RX4 = some m.cls := hown
  have hl : lv_has ls 4 [(0, .ref (A 6)), (1, .int a1)] := hl
  have hD : ∀ S0 : gS, va_D (gF A 65 s.heap.size) (wC Y A S0) := fun S0 => dC hI S0 (fun k hk => gF_in hk)
  have k0 : ∀ w ∈ u_ws RX4 TX4 4, w ∈ wsX4_inForceOn := by decide +kernel
  have k1 := hts (.fieldLink RX4 9 "CoastWatch$Laws" "size" "I") (by decide +kernel)
  have k2 := hts (.fieldLink RX4 22 "CoastWatch$Laws" "from" "[I") (by decide +kernel)
  have tL4 : ∀ (v2 : Int32) (v3 : Int32) (S : gS), lp (qX4_inForceOn_L4 a1 Q) (v2, v3, S) → ∀ (H : Heap) (locs : List Loc) (ls : Array Slot), va_P D vwCl (wC Y A S) H → va_S (gF A 65 s.heap.size) s.heap H locs → lv_has ls 4 [(0, .ref (A 6)), (1, .int a1), (2, .int v2), (3, .int v3)] → W p l e rmX4_inForceOn s m args below meth c H locs 0 0 Z (F0 m 4 ls []) := by
    intro  v2 v3 S h
    refine lp_walk (G := fun a => match a with | (v2, v3, S) => ∀ (H : Heap) (locs : List Loc) (ls : Array Slot), va_P D vwCl (wC Y A S) H → va_S (gF A 65 s.heap.size) s.heap H locs → lv_has ls 4 [(0, .ref (A 6)), (1, .int a1), (2, .int v2), (3, .int v3)] → W p l e rmX4_inForceOn s m args below meth c H locs 0 0 Z (F0 m 4 ls [])) (fun K4 a ih4 h => ?_) (v2, v3, S) h
    obtain ⟨v2, v3, S⟩ := a
    have ih4 : ∀ (v2 : Int32) (v3 : Int32) (S : gS), K4 (v2, v3, S) → ∀ (H : Heap) (locs : List Loc) (ls : Array Slot), va_P D vwCl (wC Y A S) H → va_S (gF A 65 s.heap.size) s.heap H locs → lv_has ls 4 [(0, .ref (A 6)), (1, .int a1), (2, .int v2), (3, .int v3)] → W p l e rmX4_inForceOn s m args below meth c H locs 0 0 Z (F0 m 4 ls []) := fun v2 v3 S q => ih4 (v2, v3, S) q
    intro H locs ls hP hS hl
    refine lv_iload_n hx hb dX4_inForceOn_4 rfl (lv_at hl 3 rfl) ?_
    refine lv_aload_n hx hb dX4_inForceOn_5 rfl (lv_at hl 0 rfl) ?_
    refine va_get (ci := 4) (v := .int (gi S 7)) (C := RX4) (T := TX4) (N := 4) hx hb hts k0 hown hK hP 6 (aC6 Y A S) rfl 0 (by decide) k1 (fun _ h9 => h9) rfl dX4_inForceOn_6 ?_
    refine lv_icmp_ge (tgt := 50) hx hb dX4_inForceOn_9 (by decide) (fun c1 => ?_) (fun c1 => ?_)
    · have h := h.1 c1
      refine lv_iload_n hx hb dX4_inForceOn_50 rfl (lv_at hl 2 rfl) ?_
      exact hret _ _ _ _ _ _ dX4_inForceOn_51 h hP hS
    · have h := h.2 c1
      refine lv_aload_n hx hb dX4_inForceOn_12 rfl (lv_at hl 0 rfl) ?_
      refine va_get (ci := 4) (v := .ref (A 55)) (C := RX4) (T := TX4) (N := 4) hx hb hts k0 hown hK hP 6 (aC6 Y A S) rfl 3 (by decide) k2 (fun _ h9 => h9) rfl dX4_inForceOn_13 ?_
      refine lv_iload_n hx hb dX4_inForceOn_16 rfl (lv_at hl 3 rfl) ?_
      have v_2 := h.1
      have h := h.2
      refine va_iald hx hb hK hP 55 0 (aC55 Y A S) rfl v_2 dX4_inForceOn_17 ?_
      refine lv_iload_n hx hb dX4_inForceOn_18 rfl (lv_at hl 1 rfl) ?_
      refine lv_icmp_gt (tgt := 44) hx hb dX4_inForceOn_19 (by decide) (fun c3 => ?_) (fun c3 => ?_)
      · have h := h.1 c3
        obtain ⟨x4, ex4⟩ : ∃ z : Int32, z = v3 + (1 : Int32) := ⟨_, rfl⟩
        have h := h x4 ex4
        refine lv_iinc (v := x4) (lv' := [(3, .int x4), (0, .ref (A 6)), (1, .int a1), (2, .int v2)]) hx hb dX4_inForceOn_44 hl (k := 3) rfl (by rw [ex4]; rfl) (by decide) rfl (fun ls hl => ?_)
        refine lv_goto (tgt := 4) hx hb dX4_inForceOn_47 (by decide) ?_
        exact ih4 v2 x4 S h _ _ _ hP hS (lv_sub hl [1, 2, 3, 0] rfl)
      · have h := h.2 c3
        refine lv_iload_n hx hb dX4_inForceOn_22 rfl (lv_at hl 2 rfl) ?_
        refine lv_iconst (v := (-1 : Int32)) hx hb dX4_inForceOn_23 (by decide) ?_
        refine lv_icmp_eq (tgt := 42) hx hb dX4_inForceOn_24 (by decide) (fun c5 => ?_) (fun c5 => ?_)
        · have h := h.1 c5
          refine lv_iload_n hx hb dX4_inForceOn_42 rfl (lv_at hl 3 rfl) ?_
          refine lv_istore_n (lv' := [(2, .int v3), (0, .ref (A 6)), (1, .int a1), (3, .int v3)]) hx hb dX4_inForceOn_43 rfl hl (by decide) rfl (fun ls hl => ?_)
          obtain ⟨x6, ex6⟩ : ∃ z : Int32, z = v3 + (1 : Int32) := ⟨_, rfl⟩
          have h := h x6 ex6
          refine lv_iinc (v := x6) (lv' := [(3, .int x6), (2, .int v3), (0, .ref (A 6)), (1, .int a1)]) hx hb dX4_inForceOn_44 hl (k := 3) rfl (by rw [ex6]; rfl) (by decide) rfl (fun ls hl => ?_)
          refine lv_goto (tgt := 4) hx hb dX4_inForceOn_47 (by decide) ?_
          exact ih4 v3 x6 S h _ _ _ hP hS (lv_sub hl [2, 3, 1, 0] rfl)
        · have h := h.2 c5
          refine lv_aload_n hx hb dX4_inForceOn_27 rfl (lv_at hl 0 rfl) ?_
          refine va_get (ci := 4) (v := .ref (A 55)) (C := RX4) (T := TX4) (N := 4) hx hb hts k0 hown hK hP 6 (aC6 Y A S) rfl 3 (by decide) k2 (fun _ h9 => h9) rfl dX4_inForceOn_28 ?_
          refine lv_iload_n hx hb dX4_inForceOn_31 rfl (lv_at hl 3 rfl) ?_
          refine va_iald hx hb hK hP 55 0 (aC55 Y A S) rfl v_2 dX4_inForceOn_32 ?_
          refine lv_aload_n hx hb dX4_inForceOn_33 rfl (lv_at hl 0 rfl) ?_
          refine va_get (ci := 4) (v := .ref (A 55)) (C := RX4) (T := TX4) (N := 4) hx hb hts k0 hown hK hP 6 (aC6 Y A S) rfl 3 (by decide) k2 (fun _ h9 => h9) rfl dX4_inForceOn_34 ?_
          refine lv_iload_n hx hb dX4_inForceOn_37 rfl (lv_at hl 2 rfl) ?_
          have v_7 := h.1
          have h := h.2
          refine va_iald hx hb hK hP 55 0 (aC55 Y A S) rfl v_7 dX4_inForceOn_38 ?_
          refine lv_icmp_lt (tgt := 44) hx hb dX4_inForceOn_39 (by decide) (fun c8 => ?_) (fun c8 => ?_)
          · have h := h.1 c8
            obtain ⟨x9, ex9⟩ : ∃ z : Int32, z = v3 + (1 : Int32) := ⟨_, rfl⟩
            have h := h x9 ex9
            refine lv_iinc (v := x9) (lv' := [(3, .int x9), (0, .ref (A 6)), (1, .int a1), (2, .int v2)]) hx hb dX4_inForceOn_44 hl (k := 3) rfl (by rw [ex9]; rfl) (by decide) rfl (fun ls hl => ?_)
            refine lv_goto (tgt := 4) hx hb dX4_inForceOn_47 (by decide) ?_
            exact ih4 v2 x9 S h _ _ _ hP hS (lv_sub hl [1, 2, 3, 0] rfl)
          · have h := h.2 c8
            refine lv_iload_n hx hb dX4_inForceOn_42 rfl (lv_at hl 3 rfl) ?_
            refine lv_istore_n (lv' := [(2, .int v3), (0, .ref (A 6)), (1, .int a1), (3, .int v3)]) hx hb dX4_inForceOn_43 rfl hl (by decide) rfl (fun ls hl => ?_)
            obtain ⟨x10, ex10⟩ : ∃ z : Int32, z = v3 + (1 : Int32) := ⟨_, rfl⟩
            have h := h x10 ex10
            refine lv_iinc (v := x10) (lv' := [(3, .int x10), (2, .int v3), (0, .ref (A 6)), (1, .int a1)]) hx hb dX4_inForceOn_44 hl (k := 3) rfl (by rw [ex10]; rfl) (by decide) rfl (fun ls hl => ?_)
            refine lv_goto (tgt := 4) hx hb dX4_inForceOn_47 (by decide) ?_
            exact ih4 v3 x10 S h _ _ _ hP hS (lv_sub hl [2, 3, 1, 0] rfl)
  refine lv_iconst (v := (-1 : Int32)) hx hb dX4_inForceOn_0 (by decide) ?_
  refine lv_istore_n (lv' := [(2, .int (-1 : Int32)), (0, .ref (A 6)), (1, .int a1)]) hx hb dX4_inForceOn_1 rfl hl (by decide) rfl (fun ls hl => ?_)
  refine lv_iconst (v := (0 : Int32)) hx hb dX4_inForceOn_2 (by decide) ?_
  refine lv_istore_n (lv' := [(3, .int (0 : Int32)), (2, .int (-1 : Int32)), (0, .ref (A 6)), (1, .int a1)]) hx hb dX4_inForceOn_3 rfl hl (by decide) rfl (fun ls hl => ?_)
  exact tL4  (-1 : Int32) (0 : Int32) S h _ _ _ hP hS (lv_sub hl [2, 3, 1, 0] rfl)

def qX5_add (S : gS) (a1 : Int32) (a2 : Int32) (a3 : Int32) (a4 : Int32) (a5 : Int32) (a6 : Int32) (Q : gS → Prop) : Prop :=
  ((gi S 6) < (100 : Int32) → (vp_in (gi S 6) 100 ∧ (∀ S2 : gS, S2 = sA S 34 (upd (ga S 34) (gi S 6).toNatClampNeg a1) → (vp_in (gi S2 6) 100 ∧ (∀ S4 : gS, S4 = sA S2 35 (upd (ga S2 35) (gi S2 6).toNatClampNeg a2) → (vp_in (gi S4 6) 100 ∧ (∀ S6 : gS, S6 = sA S4 36 (upd (ga S4 36) (gi S4 6).toNatClampNeg a3) → (vp_in (gi S6 6) 100 ∧ (∀ S8 : gS, S8 = sA S6 37 (upd (ga S6 37) (gi S6 6).toNatClampNeg a4) → (vp_in (gi S8 6) 100 ∧ (∀ S10 : gS, S10 = sA S8 38 (upd (ga S8 38) (gi S8 6).toNatClampNeg a5) → (vp_in (gi S10 6) 100 ∧ (∀ S12 : gS, S12 = sA S10 39 (upd (ga S10 39) (gi S10 6).toNatClampNeg a6) → (∀ S14 : gS, S14 = sI S12 6 ((gi S12 6) + (1 : Int32)) → (Q S14))))))))))))))) ∧ (¬ (gi S 6) < (100 : Int32) → (Q S))
abbrev rmX5_add : Room := { frames := 0, cells := 0, slots := 0, locals := 0 }
set_option maxHeartbeats 4000000 in
set_option maxRecDepth 100000 in
theorem kX5_add (l : Launch) (D : va_G) (Y : Nat → ClassId) (A : Nat → Nat) (hI : iC A) (sz : Nat) (S : gS) (a1 : Int32) (a2 : Int32) (a3 : Int32) (a4 : Int32) (a5 : Int32) (a6 : Int32) (Q : gS → Prop) (h : qX5_add S a1 a2 a3 a4 a5 a6 Q) : Met l yX5_add wsX5_add rmX5_add (gPc [.ref (A 5), .int a1, .int a2, .int a3, .int a4, .int a5, .int a6] sz D vwCl (tY Y) (wC Y A S)) (va_Qv Q (fun S' t => gH D vwCl (tY Y) (wC Y A S') t) (gF A 65 sz)) 0 0 (gF A 65 sz) := by
  refine gMet_v (cc := cX5_add) (maxL := 7) (by decide +kernel) rfl (Nat.le_of_ble_eq_true rfl) (fun p e s m args below meth c Z H locs hx hb hml hts hown hK hP hS hret ls hl => ?_)
  have hown : s.vm.findClass RX5 = some m.cls := hown
  have hl : lv_has ls 7 [(0, .ref (A 5)), (1, .int a1), (2, .int a2), (3, .int a3), (4, .int a4), (5, .int a5), (6, .int a6)] := hl
  have hD : ∀ S0 : gS, va_D (gF A 65 s.heap.size) (wC Y A S0) := fun S0 => dC hI S0 (fun k hk => gF_in hk)
  have k0 : ∀ w ∈ u_ws RX5 TX5 7, w ∈ wsX5_add := by decide +kernel
  have k1 := hts (.fieldLink RX5 9 "CoastWatch$Lots" "size" "I") (by decide +kernel)
  have k2 := hts (.fieldLink RX5 15 "CoastWatch$Lots" "boat" "[I") (by decide +kernel)
  have k3 := hts (.fieldLink RX5 19 "CoastWatch$Lots" "casks" "[I") (by decide +kernel)
  have k4 := hts (.fieldLink RX5 22 "CoastWatch$Lots" "night" "[I") (by decide +kernel)
  have k5 := hts (.fieldLink RX5 25 "CoastWatch$Lots" "cove" "[I") (by decide +kernel)
  have k6 := hts (.fieldLink RX5 28 "CoastWatch$Lots" "place" "[I") (by decide +kernel)
  have k7 := hts (.fieldLink RX5 31 "CoastWatch$Lots" "hide" "[I") (by decide +kernel)
  refine lv_aload_n hx hb dX5_add_0 rfl (lv_at hl 0 rfl) ?_
  refine va_get (ci := 5) (v := .int (gi S 6)) (C := RX5) (T := TX5) (N := 7) hx hb hts k0 hown hK hP 5 (aC5 Y A S) rfl 0 (by decide) k1 (fun _ h9 => h9) rfl dX5_add_1 ?_
  refine lv_bipush (v := (100 : Int32)) hx hb dX5_add_4 (by decide) ?_
  refine lv_icmp_lt (tgt := 10) hx hb dX5_add_6 (by decide) (fun c1 => ?_) (fun c1 => ?_)
  · have h := h.1 c1
    refine lv_aload_n hx hb dX5_add_10 rfl (lv_at hl 0 rfl) ?_
    refine va_get (ci := 5) (v := .ref (A 47)) (C := RX5) (T := TX5) (N := 7) hx hb hts k0 hown hK hP 5 (aC5 Y A S) rfl 1 (by decide) k2 (fun _ h9 => h9) rfl dX5_add_11 ?_
    refine lv_aload_n hx hb dX5_add_14 rfl (lv_at hl 0 rfl) ?_
    refine va_get (ci := 5) (v := .int (gi S 6)) (C := RX5) (T := TX5) (N := 7) hx hb hts k0 hown hK hP 5 (aC5 Y A S) rfl 0 (by decide) k1 (fun _ h9 => h9) rfl dX5_add_15 ?_
    refine lv_iload_n hx hb dX5_add_18 rfl (lv_at hl 1 rfl) ?_
    have v_3 := h.1
    have h := h.2
    obtain ⟨S2, eS2⟩ : ∃ z : gS, z = sA S 34 (upd (ga S 34) (gi S 6).toNatClampNeg a1) := ⟨_, rfl⟩
    refine va_iast hx hb hK hP (hD S) hS 47 0 (aC47 Y A S) rfl v_3 dX5_add_19 (fun H locs hP _ hS => ?_)
    have hP := uC47 eS2 hP
    have h := h S2 eS2
    refine lv_aload_n hx hb dX5_add_20 rfl (lv_at hl 0 rfl) ?_
    refine va_get (ci := 5) (v := .ref (A 48)) (C := RX5) (T := TX5) (N := 7) hx hb hts k0 hown hK hP 5 (aC5 Y A S2) rfl 2 (by decide) k3 (fun _ h9 => h9) rfl dX5_add_21 ?_
    refine lv_aload_n hx hb dX5_add_24 rfl (lv_at hl 0 rfl) ?_
    refine va_get (ci := 5) (v := .int (gi S2 6)) (C := RX5) (T := TX5) (N := 7) hx hb hts k0 hown hK hP 5 (aC5 Y A S2) rfl 0 (by decide) k1 (fun _ h9 => h9) rfl dX5_add_25 ?_
    refine lv_iload_n hx hb dX5_add_28 rfl (lv_at hl 2 rfl) ?_
    have v_5 := h.1
    have h := h.2
    obtain ⟨S4, eS4⟩ : ∃ z : gS, z = sA S2 35 (upd (ga S2 35) (gi S2 6).toNatClampNeg a2) := ⟨_, rfl⟩
    refine va_iast hx hb hK hP (hD S2) hS 48 0 (aC48 Y A S2) rfl v_5 dX5_add_29 (fun H locs hP _ hS => ?_)
    have hP := uC48 eS4 hP
    have h := h S4 eS4
    refine lv_aload_n hx hb dX5_add_30 rfl (lv_at hl 0 rfl) ?_
    refine va_get (ci := 5) (v := .ref (A 49)) (C := RX5) (T := TX5) (N := 7) hx hb hts k0 hown hK hP 5 (aC5 Y A S4) rfl 3 (by decide) k4 (fun _ h9 => h9) rfl dX5_add_31 ?_
    refine lv_aload_n hx hb dX5_add_34 rfl (lv_at hl 0 rfl) ?_
    refine va_get (ci := 5) (v := .int (gi S4 6)) (C := RX5) (T := TX5) (N := 7) hx hb hts k0 hown hK hP 5 (aC5 Y A S4) rfl 0 (by decide) k1 (fun _ h9 => h9) rfl dX5_add_35 ?_
    refine lv_iload_n hx hb dX5_add_38 rfl (lv_at hl 3 rfl) ?_
    have v_7 := h.1
    have h := h.2
    obtain ⟨S6, eS6⟩ : ∃ z : gS, z = sA S4 36 (upd (ga S4 36) (gi S4 6).toNatClampNeg a3) := ⟨_, rfl⟩
    refine va_iast hx hb hK hP (hD S4) hS 49 0 (aC49 Y A S4) rfl v_7 dX5_add_39 (fun H locs hP _ hS => ?_)
    have hP := uC49 eS6 hP
    have h := h S6 eS6
    refine lv_aload_n hx hb dX5_add_40 rfl (lv_at hl 0 rfl) ?_
    refine va_get (ci := 5) (v := .ref (A 50)) (C := RX5) (T := TX5) (N := 7) hx hb hts k0 hown hK hP 5 (aC5 Y A S6) rfl 4 (by decide) k5 (fun _ h9 => h9) rfl dX5_add_41 ?_
    refine lv_aload_n hx hb dX5_add_44 rfl (lv_at hl 0 rfl) ?_
    refine va_get (ci := 5) (v := .int (gi S6 6)) (C := RX5) (T := TX5) (N := 7) hx hb hts k0 hown hK hP 5 (aC5 Y A S6) rfl 0 (by decide) k1 (fun _ h9 => h9) rfl dX5_add_45 ?_
    refine lv_iload hx hb dX5_add_48 (lv_at hl 4 rfl) ?_
    have v_9 := h.1
    have h := h.2
    obtain ⟨S8, eS8⟩ : ∃ z : gS, z = sA S6 37 (upd (ga S6 37) (gi S6 6).toNatClampNeg a4) := ⟨_, rfl⟩
    refine va_iast hx hb hK hP (hD S6) hS 50 0 (aC50 Y A S6) rfl v_9 dX5_add_50 (fun H locs hP _ hS => ?_)
    have hP := uC50 eS8 hP
    have h := h S8 eS8
    refine lv_aload_n hx hb dX5_add_51 rfl (lv_at hl 0 rfl) ?_
    refine va_get (ci := 5) (v := .ref (A 51)) (C := RX5) (T := TX5) (N := 7) hx hb hts k0 hown hK hP 5 (aC5 Y A S8) rfl 5 (by decide) k6 (fun _ h9 => h9) rfl dX5_add_52 ?_
    refine lv_aload_n hx hb dX5_add_55 rfl (lv_at hl 0 rfl) ?_
    refine va_get (ci := 5) (v := .int (gi S8 6)) (C := RX5) (T := TX5) (N := 7) hx hb hts k0 hown hK hP 5 (aC5 Y A S8) rfl 0 (by decide) k1 (fun _ h9 => h9) rfl dX5_add_56 ?_
    refine lv_iload hx hb dX5_add_59 (lv_at hl 5 rfl) ?_
    have v_11 := h.1
    have h := h.2
    obtain ⟨S10, eS10⟩ : ∃ z : gS, z = sA S8 38 (upd (ga S8 38) (gi S8 6).toNatClampNeg a5) := ⟨_, rfl⟩
    refine va_iast hx hb hK hP (hD S8) hS 51 0 (aC51 Y A S8) rfl v_11 dX5_add_61 (fun H locs hP _ hS => ?_)
    have hP := uC51 eS10 hP
    have h := h S10 eS10
    refine lv_aload_n hx hb dX5_add_62 rfl (lv_at hl 0 rfl) ?_
    refine va_get (ci := 5) (v := .ref (A 52)) (C := RX5) (T := TX5) (N := 7) hx hb hts k0 hown hK hP 5 (aC5 Y A S10) rfl 6 (by decide) k7 (fun _ h9 => h9) rfl dX5_add_63 ?_
    refine lv_aload_n hx hb dX5_add_66 rfl (lv_at hl 0 rfl) ?_
    refine va_get (ci := 5) (v := .int (gi S10 6)) (C := RX5) (T := TX5) (N := 7) hx hb hts k0 hown hK hP 5 (aC5 Y A S10) rfl 0 (by decide) k1 (fun _ h9 => h9) rfl dX5_add_67 ?_
    refine lv_iload hx hb dX5_add_70 (lv_at hl 6 rfl) ?_
    have v_13 := h.1
    have h := h.2
    obtain ⟨S12, eS12⟩ : ∃ z : gS, z = sA S10 39 (upd (ga S10 39) (gi S10 6).toNatClampNeg a6) := ⟨_, rfl⟩
    refine va_iast hx hb hK hP (hD S10) hS 52 0 (aC52 Y A S10) rfl v_13 dX5_add_72 (fun H locs hP _ hS => ?_)
    have hP := uC52 eS12 hP
    have h := h S12 eS12
    refine lv_aload_n hx hb dX5_add_73 rfl (lv_at hl 0 rfl) ?_
    refine lv_dup hx hb dX5_add_74 rfl ?_
    refine va_get (ci := 5) (v := .int (gi S12 6)) (C := RX5) (T := TX5) (N := 7) hx hb hts k0 hown hK hP 5 (aC5 Y A S12) rfl 0 (by decide) k1 (fun _ h9 => h9) rfl dX5_add_75 ?_
    refine lv_iconst (v := (1 : Int32)) hx hb dX5_add_78 (by decide) ?_
    refine lv_iadd hx hb dX5_add_79 ?_
    obtain ⟨S14, eS14⟩ : ∃ z : gS, z = sI S12 6 ((gi S12 6) + (1 : Int32)) := ⟨_, rfl⟩
    have h := h S14 eS14
    refine va_put (ci := 5) (v := .int ((gi S12 6) + (1 : Int32))) (ty := .int) (C := RX5) (T := TX5) (N := 7) hx hb hts k0 tyX5 tyX5_ok nmX5 hown hK hP (hD S12) hS 5 (aC5 Y A S12) rfl 0 (by decide) k1 (fun _ h9 => h9) rfl rfl rfl rfl (by simp) dX5_add_80 (fun H locs hP _ hS => ?_)
    have hP := pC5_0 eS14 hP
    exact hret _ _ _ _ _ dX5_add_83 h hP hS
  · have h := h.2 c1
    exact hret _ _ _ _ _ dX5_add_9 h hP hS

def qX5_liesIn (S : gS) (a1 : Int32) (a2 : Int32) (Q : Int32 → gS → Prop) : Prop :=
  vp_in a1 100 ∧ (((ga S 38 a1.toNatClampNeg) = 0 → (((ga S 39 a1.toNatClampNeg) = a2 → (Q (1 : Int32) S)) ∧ (¬ (ga S 39 a1.toNatClampNeg) = a2 → (Q (0 : Int32) S)))) ∧ (¬ (ga S 38 a1.toNatClampNeg) = 0 → (Q (0 : Int32) S)))
abbrev rmX5_liesIn : Room := { frames := 0, cells := 0, slots := 0, locals := 0 }
set_option maxHeartbeats 4000000 in
set_option maxRecDepth 100000 in
theorem kX5_liesIn (l : Launch) (D : va_G) (Y : Nat → ClassId) (A : Nat → Nat) (hI : iC A) (sz : Nat) (S : gS) (a1 : Int32) (a2 : Int32) (Q : Int32 → gS → Prop) (h : qX5_liesIn S a1 a2 Q) : Met l yX5_liesIn wsX5_liesIn rmX5_liesIn (gPc [.ref (A 5), .int a1, .int a2] sz D vwCl (tY Y) (wC Y A S)) (va_Qi Q (fun S' t => gH D vwCl (tY Y) (wC Y A S') t) (gF A 65 sz)) 0 0 (gF A 65 sz) := by
  refine gMet_z (cc := cX5_liesIn) (maxL := 3) (by decide +kernel) rfl (Nat.le_of_ble_eq_true rfl) (fun p e s m args below meth c Z H locs hx hb hml hts hown hK hP hS hret ls hl => ?_)
  have hown : s.vm.findClass RX5 = some m.cls := hown
  have hl : lv_has ls 3 [(0, .ref (A 5)), (1, .int a1), (2, .int a2)] := hl
  have hD : ∀ S0 : gS, va_D (gF A 65 s.heap.size) (wC Y A S0) := fun S0 => dC hI S0 (fun k hk => gF_in hk)
  have k0 : ∀ w ∈ u_ws RX5 TX5 7, w ∈ wsX5_liesIn := by decide +kernel
  have k1 := hts (.fieldLink RX5 28 "CoastWatch$Lots" "place" "[I") (by decide +kernel)
  have k2 := hts (.fieldLink RX5 31 "CoastWatch$Lots" "hide" "[I") (by decide +kernel)
  refine lv_aload_n hx hb dX5_liesIn_0 rfl (lv_at hl 0 rfl) ?_
  refine va_get (ci := 5) (v := .ref (A 51)) (C := RX5) (T := TX5) (N := 7) hx hb hts k0 hown hK hP 5 (aC5 Y A S) rfl 5 (by decide) k1 (fun _ h9 => h9) rfl dX5_liesIn_1 ?_
  refine lv_iload_n hx hb dX5_liesIn_4 rfl (lv_at hl 1 rfl) ?_
  have v_1 := h.1
  have h := h.2
  refine va_iald hx hb hK hP 51 0 (aC51 Y A S) rfl v_1 dX5_liesIn_5 ?_
  refine lv_if_ne (tgt := 23) hx hb dX5_liesIn_6 (by decide) (fun c2 => ?_) (fun c2 => ?_)
  · have h := h.2 c2
    refine lv_iconst (v := (0 : Int32)) hx hb dX5_liesIn_23 (by decide) ?_
    exact hret _ _ _ _ _ _ dX5_liesIn_24 rfl h hP hS
  · have h := h.1 c2
    refine lv_aload_n hx hb dX5_liesIn_9 rfl (lv_at hl 0 rfl) ?_
    refine va_get (ci := 5) (v := .ref (A 52)) (C := RX5) (T := TX5) (N := 7) hx hb hts k0 hown hK hP 5 (aC5 Y A S) rfl 6 (by decide) k2 (fun _ h9 => h9) rfl dX5_liesIn_10 ?_
    refine lv_iload_n hx hb dX5_liesIn_13 rfl (lv_at hl 1 rfl) ?_
    refine va_iald hx hb hK hP 52 0 (aC52 Y A S) rfl v_1 dX5_liesIn_14 ?_
    refine lv_iload_n hx hb dX5_liesIn_15 rfl (lv_at hl 2 rfl) ?_
    refine lv_icmp_ne (tgt := 23) hx hb dX5_liesIn_16 (by decide) (fun c3 => ?_) (fun c3 => ?_)
    · have h := h.2 c3
      refine lv_iconst (v := (0 : Int32)) hx hb dX5_liesIn_23 (by decide) ?_
      exact hret _ _ _ _ _ _ dX5_liesIn_24 rfl h hP hS
    · have h := h.1 c3
      refine lv_iconst (v := (1 : Int32)) hx hb dX5_liesIn_19 (by decide) ?_
      refine lv_goto (tgt := 24) hx hb dX5_liesIn_20 (by decide) ?_
      exact hret _ _ _ _ _ _ dX5_liesIn_24 rfl h hP hS

def qX5_cameTo_L2 (a1 : Int32) (a2 : Int32) (Q : Int32 → gS → Prop) (K2 : Int32 × gS → Prop) : Int32 × gS → Prop := fun ⟨v3, S⟩ =>
  ((gi S 6) ≤ v3 → (Q (0 : Int32) S)) ∧ (¬ (gi S 6) ≤ v3 → (vp_in v3 100 ∧ (((ga S 37 v3.toNatClampNeg) = a1 → (((ga S 36 v3.toNatClampNeg) = a2 → (Q (1 : Int32) S)) ∧ (¬ (ga S 36 v3.toNatClampNeg) = a2 → (∀ x6 : Int32, x6 = v3 + (1 : Int32) → (K2 (x6, S)))))) ∧ (¬ (ga S 37 v3.toNatClampNeg) = a1 → (∀ x4 : Int32, x4 = v3 + (1 : Int32) → (K2 (x4, S)))))))
def qX5_cameTo (S : gS) (a1 : Int32) (a2 : Int32) (Q : Int32 → gS → Prop) : Prop :=
  lp (qX5_cameTo_L2 a1 a2 Q) ((0 : Int32), S)
abbrev rmX5_cameTo : Room := { frames := 0, cells := 0, slots := 0, locals := 0 }
set_option maxHeartbeats 4000000 in
set_option maxRecDepth 100000 in
theorem kX5_cameTo (l : Launch) (D : va_G) (Y : Nat → ClassId) (A : Nat → Nat) (hI : iC A) (sz : Nat) (S : gS) (a1 : Int32) (a2 : Int32) (Q : Int32 → gS → Prop) (h : qX5_cameTo S a1 a2 Q) : Met l yX5_cameTo wsX5_cameTo rmX5_cameTo (gPc [.ref (A 5), .int a1, .int a2] sz D vwCl (tY Y) (wC Y A S)) (va_Qi Q (fun S' t => gH D vwCl (tY Y) (wC Y A S') t) (gF A 65 sz)) 0 0 (gF A 65 sz) := by
  refine gMet_z (cc := cX5_cameTo) (maxL := 4) (by decide +kernel) rfl (Nat.le_of_ble_eq_true rfl) (fun p e s m args below meth c Z H locs hx hb hml hts hown hK hP hS hret ls hl => ?_)
  have hown : s.vm.findClass RX5 = some m.cls := hown
  have hl : lv_has ls 4 [(0, .ref (A 5)), (1, .int a1), (2, .int a2)] := hl
  have hD : ∀ S0 : gS, va_D (gF A 65 s.heap.size) (wC Y A S0) := fun S0 => dC hI S0 (fun k hk => gF_in hk)
  have k0 : ∀ w ∈ u_ws RX5 TX5 7, w ∈ wsX5_cameTo := by decide +kernel
  have k1 := hts (.fieldLink RX5 9 "CoastWatch$Lots" "size" "I") (by decide +kernel)
  have k2 := hts (.fieldLink RX5 25 "CoastWatch$Lots" "cove" "[I") (by decide +kernel)
  have k3 := hts (.fieldLink RX5 22 "CoastWatch$Lots" "night" "[I") (by decide +kernel)
  have tL2 : ∀ (v3 : Int32) (S : gS), lp (qX5_cameTo_L2 a1 a2 Q) (v3, S) → ∀ (H : Heap) (locs : List Loc) (ls : Array Slot), va_P D vwCl (wC Y A S) H → va_S (gF A 65 s.heap.size) s.heap H locs → lv_has ls 4 [(0, .ref (A 5)), (1, .int a1), (2, .int a2), (3, .int v3)] → W p l e rmX5_cameTo s m args below meth c H locs 0 0 Z (F0 m 2 ls []) := by
    intro  v3 S h
    refine lp_walk (G := fun a => match a with | (v3, S) => ∀ (H : Heap) (locs : List Loc) (ls : Array Slot), va_P D vwCl (wC Y A S) H → va_S (gF A 65 s.heap.size) s.heap H locs → lv_has ls 4 [(0, .ref (A 5)), (1, .int a1), (2, .int a2), (3, .int v3)] → W p l e rmX5_cameTo s m args below meth c H locs 0 0 Z (F0 m 2 ls [])) (fun K2 a ih2 h => ?_) (v3, S) h
    obtain ⟨v3, S⟩ := a
    have ih2 : ∀ (v3 : Int32) (S : gS), K2 (v3, S) → ∀ (H : Heap) (locs : List Loc) (ls : Array Slot), va_P D vwCl (wC Y A S) H → va_S (gF A 65 s.heap.size) s.heap H locs → lv_has ls 4 [(0, .ref (A 5)), (1, .int a1), (2, .int a2), (3, .int v3)] → W p l e rmX5_cameTo s m args below meth c H locs 0 0 Z (F0 m 2 ls []) := fun v3 S q => ih2 (v3, S) q
    intro H locs ls hP hS hl
    refine lv_iload_n hx hb dX5_cameTo_2 rfl (lv_at hl 3 rfl) ?_
    refine lv_aload_n hx hb dX5_cameTo_3 rfl (lv_at hl 0 rfl) ?_
    refine va_get (ci := 5) (v := .int (gi S 6)) (C := RX5) (T := TX5) (N := 7) hx hb hts k0 hown hK hP 5 (aC5 Y A S) rfl 0 (by decide) k1 (fun _ h9 => h9) rfl dX5_cameTo_4 ?_
    refine lv_icmp_ge (tgt := 38) hx hb dX5_cameTo_7 (by decide) (fun c1 => ?_) (fun c1 => ?_)
    · have h := h.1 c1
      refine lv_iconst (v := (0 : Int32)) hx hb dX5_cameTo_38 (by decide) ?_
      exact hret _ _ _ _ _ _ dX5_cameTo_39 rfl h hP hS
    · have h := h.2 c1
      refine lv_aload_n hx hb dX5_cameTo_10 rfl (lv_at hl 0 rfl) ?_
      refine va_get (ci := 5) (v := .ref (A 50)) (C := RX5) (T := TX5) (N := 7) hx hb hts k0 hown hK hP 5 (aC5 Y A S) rfl 4 (by decide) k2 (fun _ h9 => h9) rfl dX5_cameTo_11 ?_
      refine lv_iload_n hx hb dX5_cameTo_14 rfl (lv_at hl 3 rfl) ?_
      have v_2 := h.1
      have h := h.2
      refine va_iald hx hb hK hP 50 0 (aC50 Y A S) rfl v_2 dX5_cameTo_15 ?_
      refine lv_iload_n hx hb dX5_cameTo_16 rfl (lv_at hl 1 rfl) ?_
      refine lv_icmp_ne (tgt := 32) hx hb dX5_cameTo_17 (by decide) (fun c3 => ?_) (fun c3 => ?_)
      · have h := h.2 c3
        obtain ⟨x4, ex4⟩ : ∃ z : Int32, z = v3 + (1 : Int32) := ⟨_, rfl⟩
        have h := h x4 ex4
        refine lv_iinc (v := x4) (lv' := [(3, .int x4), (0, .ref (A 5)), (1, .int a1), (2, .int a2)]) hx hb dX5_cameTo_32 hl (k := 3) rfl (by rw [ex4]; rfl) (by decide) rfl (fun ls hl => ?_)
        refine lv_goto (tgt := 2) hx hb dX5_cameTo_35 (by decide) ?_
        exact ih2 x4 S h _ _ _ hP hS (lv_sub hl [1, 2, 3, 0] rfl)
      · have h := h.1 c3
        refine lv_aload_n hx hb dX5_cameTo_20 rfl (lv_at hl 0 rfl) ?_
        refine va_get (ci := 5) (v := .ref (A 49)) (C := RX5) (T := TX5) (N := 7) hx hb hts k0 hown hK hP 5 (aC5 Y A S) rfl 3 (by decide) k3 (fun _ h9 => h9) rfl dX5_cameTo_21 ?_
        refine lv_iload_n hx hb dX5_cameTo_24 rfl (lv_at hl 3 rfl) ?_
        refine va_iald hx hb hK hP 49 0 (aC49 Y A S) rfl v_2 dX5_cameTo_25 ?_
        refine lv_iload_n hx hb dX5_cameTo_26 rfl (lv_at hl 2 rfl) ?_
        refine lv_icmp_ne (tgt := 32) hx hb dX5_cameTo_27 (by decide) (fun c5 => ?_) (fun c5 => ?_)
        · have h := h.2 c5
          obtain ⟨x6, ex6⟩ : ∃ z : Int32, z = v3 + (1 : Int32) := ⟨_, rfl⟩
          have h := h x6 ex6
          refine lv_iinc (v := x6) (lv' := [(3, .int x6), (0, .ref (A 5)), (1, .int a1), (2, .int a2)]) hx hb dX5_cameTo_32 hl (k := 3) rfl (by rw [ex6]; rfl) (by decide) rfl (fun ls hl => ?_)
          refine lv_goto (tgt := 2) hx hb dX5_cameTo_35 (by decide) ?_
          exact ih2 x6 S h _ _ _ hP hS (lv_sub hl [1, 2, 3, 0] rfl)
        · have h := h.1 c5
          refine lv_iconst (v := (1 : Int32)) hx hb dX5_cameTo_30 (by decide) ?_
          exact hret _ _ _ _ _ _ dX5_cameTo_31 rfl h hP hS
  refine lv_iconst (v := (0 : Int32)) hx hb dX5_cameTo_0 (by decide) ?_
  refine lv_istore_n (lv' := [(3, .int (0 : Int32)), (0, .ref (A 5)), (1, .int a1), (2, .int a2)]) hx hb dX5_cameTo_1 rfl hl (by decide) rfl (fun ls hl => ?_)
  exact tL2  (0 : Int32) S h _ _ _ hP hS (lv_sub hl [1, 2, 3, 0] rfl)

def qX5_heldIn_L4 (a1 : Int32) (Q : Int32 → gS → Prop) (K4 : Int32 × Int32 × gS → Prop) : Int32 × Int32 × gS → Prop := fun ⟨v2, v3, S⟩ =>
  ((gi S 6) ≤ v3 → (Q v2 S)) ∧ (¬ (gi S 6) ≤ v3 → (vp_in v3 100 ∧ ((((ga S 36 v3.toNatClampNeg) / (30 : Int32)) = a1 → (((ga S 38 v3.toNatClampNeg) = 0 → (∀ x7 : Int32, x7 = (v2 + (ga S 35 v3.toNatClampNeg)) → (∀ x8 : Int32, x8 = v3 + (1 : Int32) → (K4 (x7, x8, S))))) ∧ (¬ (ga S 38 v3.toNatClampNeg) = 0 → (∀ x6 : Int32, x6 = v3 + (1 : Int32) → (K4 (v2, x6, S)))))) ∧ (¬ ((ga S 36 v3.toNatClampNeg) / (30 : Int32)) = a1 → (∀ x4 : Int32, x4 = v3 + (1 : Int32) → (K4 (v2, x4, S)))))))
def qX5_heldIn (S : gS) (a1 : Int32) (Q : Int32 → gS → Prop) : Prop :=
  lp (qX5_heldIn_L4 a1 Q) ((0 : Int32), (0 : Int32), S)
abbrev rmX5_heldIn : Room := { frames := 0, cells := 0, slots := 0, locals := 0 }
set_option maxHeartbeats 4000000 in
set_option maxRecDepth 100000 in
theorem kX5_heldIn (l : Launch) (D : va_G) (Y : Nat → ClassId) (A : Nat → Nat) (hI : iC A) (sz : Nat) (S : gS) (a1 : Int32) (Q : Int32 → gS → Prop) (h : qX5_heldIn S a1 Q) : Met l yX5_heldIn wsX5_heldIn rmX5_heldIn (gPc [.ref (A 5), .int a1] sz D vwCl (tY Y) (wC Y A S)) (va_Qi Q (fun S' t => gH D vwCl (tY Y) (wC Y A S') t) (gF A 65 sz)) 0 0 (gF A 65 sz) := by
  refine gMet_i (cc := cX5_heldIn) (maxL := 4) (by decide +kernel) rfl (Nat.le_of_ble_eq_true rfl) (fun p e s m args below meth c Z H locs hx hb hml hts hown hK hP hS hret ls hl => ?_)
  have hown : s.vm.findClass RX5 = some m.cls := hown
  have hl : lv_has ls 4 [(0, .ref (A 5)), (1, .int a1)] := hl
  have hD : ∀ S0 : gS, va_D (gF A 65 s.heap.size) (wC Y A S0) := fun S0 => dC hI S0 (fun k hk => gF_in hk)
  have k0 : ∀ w ∈ u_ws RX5 TX5 7, w ∈ wsX5_heldIn := by decide +kernel
  have k1 := hts (.fieldLink RX5 9 "CoastWatch$Lots" "size" "I") (by decide +kernel)
  have k2 := hts (.fieldLink RX5 22 "CoastWatch$Lots" "night" "[I") (by decide +kernel)
  have k3 := hts (.fieldLink RX5 28 "CoastWatch$Lots" "place" "[I") (by decide +kernel)
  have k4 := hts (.fieldLink RX5 19 "CoastWatch$Lots" "casks" "[I") (by decide +kernel)
  have tL4 : ∀ (v2 : Int32) (v3 : Int32) (S : gS), lp (qX5_heldIn_L4 a1 Q) (v2, v3, S) → ∀ (H : Heap) (locs : List Loc) (ls : Array Slot), va_P D vwCl (wC Y A S) H → va_S (gF A 65 s.heap.size) s.heap H locs → lv_has ls 4 [(0, .ref (A 5)), (1, .int a1), (2, .int v2), (3, .int v3)] → W p l e rmX5_heldIn s m args below meth c H locs 0 0 Z (F0 m 4 ls []) := by
    intro  v2 v3 S h
    refine lp_walk (G := fun a => match a with | (v2, v3, S) => ∀ (H : Heap) (locs : List Loc) (ls : Array Slot), va_P D vwCl (wC Y A S) H → va_S (gF A 65 s.heap.size) s.heap H locs → lv_has ls 4 [(0, .ref (A 5)), (1, .int a1), (2, .int v2), (3, .int v3)] → W p l e rmX5_heldIn s m args below meth c H locs 0 0 Z (F0 m 4 ls [])) (fun K4 a ih4 h => ?_) (v2, v3, S) h
    obtain ⟨v2, v3, S⟩ := a
    have ih4 : ∀ (v2 : Int32) (v3 : Int32) (S : gS), K4 (v2, v3, S) → ∀ (H : Heap) (locs : List Loc) (ls : Array Slot), va_P D vwCl (wC Y A S) H → va_S (gF A 65 s.heap.size) s.heap H locs → lv_has ls 4 [(0, .ref (A 5)), (1, .int a1), (2, .int v2), (3, .int v3)] → W p l e rmX5_heldIn s m args below meth c H locs 0 0 Z (F0 m 4 ls []) := fun v2 v3 S q => ih4 (v2, v3, S) q
    intro H locs ls hP hS hl
    refine lv_iload_n hx hb dX5_heldIn_4 rfl (lv_at hl 3 rfl) ?_
    refine lv_aload_n hx hb dX5_heldIn_5 rfl (lv_at hl 0 rfl) ?_
    refine va_get (ci := 5) (v := .int (gi S 6)) (C := RX5) (T := TX5) (N := 7) hx hb hts k0 hown hK hP 5 (aC5 Y A S) rfl 0 (by decide) k1 (fun _ h9 => h9) rfl dX5_heldIn_6 ?_
    refine lv_icmp_ge (tgt := 49) hx hb dX5_heldIn_9 (by decide) (fun c1 => ?_) (fun c1 => ?_)
    · have h := h.1 c1
      refine lv_iload_n hx hb dX5_heldIn_49 rfl (lv_at hl 2 rfl) ?_
      exact hret _ _ _ _ _ _ dX5_heldIn_50 h hP hS
    · have h := h.2 c1
      refine lv_aload_n hx hb dX5_heldIn_12 rfl (lv_at hl 0 rfl) ?_
      refine va_get (ci := 5) (v := .ref (A 49)) (C := RX5) (T := TX5) (N := 7) hx hb hts k0 hown hK hP 5 (aC5 Y A S) rfl 3 (by decide) k2 (fun _ h9 => h9) rfl dX5_heldIn_13 ?_
      refine lv_iload_n hx hb dX5_heldIn_16 rfl (lv_at hl 3 rfl) ?_
      have v_2 := h.1
      have h := h.2
      refine va_iald hx hb hK hP 49 0 (aC49 Y A S) rfl v_2 dX5_heldIn_17 ?_
      refine lv_bipush (v := (30 : Int32)) hx hb dX5_heldIn_18 (by decide) ?_
      refine lv_idiv hx hb dX5_heldIn_20 (by decide) ?_
      refine lv_iload_n hx hb dX5_heldIn_21 rfl (lv_at hl 1 rfl) ?_
      refine lv_icmp_ne (tgt := 43) hx hb dX5_heldIn_22 (by decide) (fun c3 => ?_) (fun c3 => ?_)
      · have h := h.2 c3
        obtain ⟨x4, ex4⟩ : ∃ z : Int32, z = v3 + (1 : Int32) := ⟨_, rfl⟩
        have h := h x4 ex4
        refine lv_iinc (v := x4) (lv' := [(3, .int x4), (0, .ref (A 5)), (1, .int a1), (2, .int v2)]) hx hb dX5_heldIn_43 hl (k := 3) rfl (by rw [ex4]; rfl) (by decide) rfl (fun ls hl => ?_)
        refine lv_goto (tgt := 4) hx hb dX5_heldIn_46 (by decide) ?_
        exact ih4 v2 x4 S h _ _ _ hP hS (lv_sub hl [1, 2, 3, 0] rfl)
      · have h := h.1 c3
        refine lv_aload_n hx hb dX5_heldIn_25 rfl (lv_at hl 0 rfl) ?_
        refine va_get (ci := 5) (v := .ref (A 51)) (C := RX5) (T := TX5) (N := 7) hx hb hts k0 hown hK hP 5 (aC5 Y A S) rfl 5 (by decide) k3 (fun _ h9 => h9) rfl dX5_heldIn_26 ?_
        refine lv_iload_n hx hb dX5_heldIn_29 rfl (lv_at hl 3 rfl) ?_
        refine va_iald hx hb hK hP 51 0 (aC51 Y A S) rfl v_2 dX5_heldIn_30 ?_
        refine lv_if_ne (tgt := 43) hx hb dX5_heldIn_31 (by decide) (fun c5 => ?_) (fun c5 => ?_)
        · have h := h.2 c5
          obtain ⟨x6, ex6⟩ : ∃ z : Int32, z = v3 + (1 : Int32) := ⟨_, rfl⟩
          have h := h x6 ex6
          refine lv_iinc (v := x6) (lv' := [(3, .int x6), (0, .ref (A 5)), (1, .int a1), (2, .int v2)]) hx hb dX5_heldIn_43 hl (k := 3) rfl (by rw [ex6]; rfl) (by decide) rfl (fun ls hl => ?_)
          refine lv_goto (tgt := 4) hx hb dX5_heldIn_46 (by decide) ?_
          exact ih4 v2 x6 S h _ _ _ hP hS (lv_sub hl [1, 2, 3, 0] rfl)
        · have h := h.1 c5
          refine lv_iload_n hx hb dX5_heldIn_34 rfl (lv_at hl 2 rfl) ?_
          refine lv_aload_n hx hb dX5_heldIn_35 rfl (lv_at hl 0 rfl) ?_
          refine va_get (ci := 5) (v := .ref (A 48)) (C := RX5) (T := TX5) (N := 7) hx hb hts k0 hown hK hP 5 (aC5 Y A S) rfl 2 (by decide) k4 (fun _ h9 => h9) rfl dX5_heldIn_36 ?_
          refine lv_iload_n hx hb dX5_heldIn_39 rfl (lv_at hl 3 rfl) ?_
          refine va_iald hx hb hK hP 48 0 (aC48 Y A S) rfl v_2 dX5_heldIn_40 ?_
          refine lv_iadd hx hb dX5_heldIn_41 ?_
          refine lv_topi (fun x7 ex7 => ?_)
          have h := h x7 ex7
          refine lv_istore_n (lv' := [(2, .int x7), (0, .ref (A 5)), (1, .int a1), (3, .int v3)]) hx hb dX5_heldIn_42 rfl hl (by decide) rfl (fun ls hl => ?_)
          obtain ⟨x8, ex8⟩ : ∃ z : Int32, z = v3 + (1 : Int32) := ⟨_, rfl⟩
          have h := h x8 ex8
          refine lv_iinc (v := x8) (lv' := [(3, .int x8), (2, .int x7), (0, .ref (A 5)), (1, .int a1)]) hx hb dX5_heldIn_43 hl (k := 3) rfl (by rw [ex8]; rfl) (by decide) rfl (fun ls hl => ?_)
          refine lv_goto (tgt := 4) hx hb dX5_heldIn_46 (by decide) ?_
          exact ih4 x7 x8 S h _ _ _ hP hS (lv_sub hl [2, 3, 1, 0] rfl)
  refine lv_iconst (v := (0 : Int32)) hx hb dX5_heldIn_0 (by decide) ?_
  refine lv_istore_n (lv' := [(2, .int (0 : Int32)), (0, .ref (A 5)), (1, .int a1)]) hx hb dX5_heldIn_1 rfl hl (by decide) rfl (fun ls hl => ?_)
  refine lv_iconst (v := (0 : Int32)) hx hb dX5_heldIn_2 (by decide) ?_
  refine lv_istore_n (lv' := [(3, .int (0 : Int32)), (2, .int (0 : Int32)), (0, .ref (A 5)), (1, .int a1)]) hx hb dX5_heldIn_3 rfl hl (by decide) rfl (fun ls hl => ?_)
  exact tL4  (0 : Int32) (0 : Int32) S h _ _ _ hP hS (lv_sub hl [2, 3, 1, 0] rfl)

def qX5_seizedIn_L4 (a1 : Int32) (Q : Int32 → gS → Prop) (K4 : Int32 × Int32 × gS → Prop) : Int32 × Int32 × gS → Prop := fun ⟨v2, v3, S⟩ =>
  ((gi S 6) ≤ v3 → (Q v2 S)) ∧ (¬ (gi S 6) ≤ v3 → (vp_in v3 100 ∧ ((((ga S 36 v3.toNatClampNeg) / (30 : Int32)) = a1 → (((ga S 38 v3.toNatClampNeg) = 0 → (∀ x6 : Int32, x6 = v3 + (1 : Int32) → (K4 (v2, x6, S)))) ∧ (¬ (ga S 38 v3.toNatClampNeg) = 0 → (∀ x7 : Int32, x7 = (v2 + (ga S 35 v3.toNatClampNeg)) → (∀ x8 : Int32, x8 = v3 + (1 : Int32) → (K4 (x7, x8, S))))))) ∧ (¬ ((ga S 36 v3.toNatClampNeg) / (30 : Int32)) = a1 → (∀ x4 : Int32, x4 = v3 + (1 : Int32) → (K4 (v2, x4, S)))))))
def qX5_seizedIn (S : gS) (a1 : Int32) (Q : Int32 → gS → Prop) : Prop :=
  lp (qX5_seizedIn_L4 a1 Q) ((0 : Int32), (0 : Int32), S)
abbrev rmX5_seizedIn : Room := { frames := 0, cells := 0, slots := 0, locals := 0 }
set_option maxHeartbeats 4000000 in
set_option maxRecDepth 100000 in
theorem kX5_seizedIn (l : Launch) (D : va_G) (Y : Nat → ClassId) (A : Nat → Nat) (hI : iC A) (sz : Nat) (S : gS) (a1 : Int32) (Q : Int32 → gS → Prop) (h : qX5_seizedIn S a1 Q) : Met l yX5_seizedIn wsX5_seizedIn rmX5_seizedIn (gPc [.ref (A 5), .int a1] sz D vwCl (tY Y) (wC Y A S)) (va_Qi Q (fun S' t => gH D vwCl (tY Y) (wC Y A S') t) (gF A 65 sz)) 0 0 (gF A 65 sz) := by
  refine gMet_i (cc := cX5_seizedIn) (maxL := 4) (by decide +kernel) rfl (Nat.le_of_ble_eq_true rfl) (fun p e s m args below meth c Z H locs hx hb hml hts hown hK hP hS hret ls hl => ?_)
  have hown : s.vm.findClass RX5 = some m.cls := hown
  have hl : lv_has ls 4 [(0, .ref (A 5)), (1, .int a1)] := hl
  have hD : ∀ S0 : gS, va_D (gF A 65 s.heap.size) (wC Y A S0) := fun S0 => dC hI S0 (fun k hk => gF_in hk)
  have k0 : ∀ w ∈ u_ws RX5 TX5 7, w ∈ wsX5_seizedIn := by decide +kernel
  have k1 := hts (.fieldLink RX5 9 "CoastWatch$Lots" "size" "I") (by decide +kernel)
  have k2 := hts (.fieldLink RX5 22 "CoastWatch$Lots" "night" "[I") (by decide +kernel)
  have k3 := hts (.fieldLink RX5 28 "CoastWatch$Lots" "place" "[I") (by decide +kernel)
  have k4 := hts (.fieldLink RX5 19 "CoastWatch$Lots" "casks" "[I") (by decide +kernel)
  have tL4 : ∀ (v2 : Int32) (v3 : Int32) (S : gS), lp (qX5_seizedIn_L4 a1 Q) (v2, v3, S) → ∀ (H : Heap) (locs : List Loc) (ls : Array Slot), va_P D vwCl (wC Y A S) H → va_S (gF A 65 s.heap.size) s.heap H locs → lv_has ls 4 [(0, .ref (A 5)), (1, .int a1), (2, .int v2), (3, .int v3)] → W p l e rmX5_seizedIn s m args below meth c H locs 0 0 Z (F0 m 4 ls []) := by
    intro  v2 v3 S h
    refine lp_walk (G := fun a => match a with | (v2, v3, S) => ∀ (H : Heap) (locs : List Loc) (ls : Array Slot), va_P D vwCl (wC Y A S) H → va_S (gF A 65 s.heap.size) s.heap H locs → lv_has ls 4 [(0, .ref (A 5)), (1, .int a1), (2, .int v2), (3, .int v3)] → W p l e rmX5_seizedIn s m args below meth c H locs 0 0 Z (F0 m 4 ls [])) (fun K4 a ih4 h => ?_) (v2, v3, S) h
    obtain ⟨v2, v3, S⟩ := a
    have ih4 : ∀ (v2 : Int32) (v3 : Int32) (S : gS), K4 (v2, v3, S) → ∀ (H : Heap) (locs : List Loc) (ls : Array Slot), va_P D vwCl (wC Y A S) H → va_S (gF A 65 s.heap.size) s.heap H locs → lv_has ls 4 [(0, .ref (A 5)), (1, .int a1), (2, .int v2), (3, .int v3)] → W p l e rmX5_seizedIn s m args below meth c H locs 0 0 Z (F0 m 4 ls []) := fun v2 v3 S q => ih4 (v2, v3, S) q
    intro H locs ls hP hS hl
    refine lv_iload_n hx hb dX5_seizedIn_4 rfl (lv_at hl 3 rfl) ?_
    refine lv_aload_n hx hb dX5_seizedIn_5 rfl (lv_at hl 0 rfl) ?_
    refine va_get (ci := 5) (v := .int (gi S 6)) (C := RX5) (T := TX5) (N := 7) hx hb hts k0 hown hK hP 5 (aC5 Y A S) rfl 0 (by decide) k1 (fun _ h9 => h9) rfl dX5_seizedIn_6 ?_
    refine lv_icmp_ge (tgt := 49) hx hb dX5_seizedIn_9 (by decide) (fun c1 => ?_) (fun c1 => ?_)
    · have h := h.1 c1
      refine lv_iload_n hx hb dX5_seizedIn_49 rfl (lv_at hl 2 rfl) ?_
      exact hret _ _ _ _ _ _ dX5_seizedIn_50 h hP hS
    · have h := h.2 c1
      refine lv_aload_n hx hb dX5_seizedIn_12 rfl (lv_at hl 0 rfl) ?_
      refine va_get (ci := 5) (v := .ref (A 49)) (C := RX5) (T := TX5) (N := 7) hx hb hts k0 hown hK hP 5 (aC5 Y A S) rfl 3 (by decide) k2 (fun _ h9 => h9) rfl dX5_seizedIn_13 ?_
      refine lv_iload_n hx hb dX5_seizedIn_16 rfl (lv_at hl 3 rfl) ?_
      have v_2 := h.1
      have h := h.2
      refine va_iald hx hb hK hP 49 0 (aC49 Y A S) rfl v_2 dX5_seizedIn_17 ?_
      refine lv_bipush (v := (30 : Int32)) hx hb dX5_seizedIn_18 (by decide) ?_
      refine lv_idiv hx hb dX5_seizedIn_20 (by decide) ?_
      refine lv_iload_n hx hb dX5_seizedIn_21 rfl (lv_at hl 1 rfl) ?_
      refine lv_icmp_ne (tgt := 43) hx hb dX5_seizedIn_22 (by decide) (fun c3 => ?_) (fun c3 => ?_)
      · have h := h.2 c3
        obtain ⟨x4, ex4⟩ : ∃ z : Int32, z = v3 + (1 : Int32) := ⟨_, rfl⟩
        have h := h x4 ex4
        refine lv_iinc (v := x4) (lv' := [(3, .int x4), (0, .ref (A 5)), (1, .int a1), (2, .int v2)]) hx hb dX5_seizedIn_43 hl (k := 3) rfl (by rw [ex4]; rfl) (by decide) rfl (fun ls hl => ?_)
        refine lv_goto (tgt := 4) hx hb dX5_seizedIn_46 (by decide) ?_
        exact ih4 v2 x4 S h _ _ _ hP hS (lv_sub hl [1, 2, 3, 0] rfl)
      · have h := h.1 c3
        refine lv_aload_n hx hb dX5_seizedIn_25 rfl (lv_at hl 0 rfl) ?_
        refine va_get (ci := 5) (v := .ref (A 51)) (C := RX5) (T := TX5) (N := 7) hx hb hts k0 hown hK hP 5 (aC5 Y A S) rfl 5 (by decide) k3 (fun _ h9 => h9) rfl dX5_seizedIn_26 ?_
        refine lv_iload_n hx hb dX5_seizedIn_29 rfl (lv_at hl 3 rfl) ?_
        refine va_iald hx hb hK hP 51 0 (aC51 Y A S) rfl v_2 dX5_seizedIn_30 ?_
        refine lv_if_eq (tgt := 43) hx hb dX5_seizedIn_31 (by decide) (fun c5 => ?_) (fun c5 => ?_)
        · have h := h.1 c5
          obtain ⟨x6, ex6⟩ : ∃ z : Int32, z = v3 + (1 : Int32) := ⟨_, rfl⟩
          have h := h x6 ex6
          refine lv_iinc (v := x6) (lv' := [(3, .int x6), (0, .ref (A 5)), (1, .int a1), (2, .int v2)]) hx hb dX5_seizedIn_43 hl (k := 3) rfl (by rw [ex6]; rfl) (by decide) rfl (fun ls hl => ?_)
          refine lv_goto (tgt := 4) hx hb dX5_seizedIn_46 (by decide) ?_
          exact ih4 v2 x6 S h _ _ _ hP hS (lv_sub hl [1, 2, 3, 0] rfl)
        · have h := h.2 c5
          refine lv_iload_n hx hb dX5_seizedIn_34 rfl (lv_at hl 2 rfl) ?_
          refine lv_aload_n hx hb dX5_seizedIn_35 rfl (lv_at hl 0 rfl) ?_
          refine va_get (ci := 5) (v := .ref (A 48)) (C := RX5) (T := TX5) (N := 7) hx hb hts k0 hown hK hP 5 (aC5 Y A S) rfl 2 (by decide) k4 (fun _ h9 => h9) rfl dX5_seizedIn_36 ?_
          refine lv_iload_n hx hb dX5_seizedIn_39 rfl (lv_at hl 3 rfl) ?_
          refine va_iald hx hb hK hP 48 0 (aC48 Y A S) rfl v_2 dX5_seizedIn_40 ?_
          refine lv_iadd hx hb dX5_seizedIn_41 ?_
          refine lv_topi (fun x7 ex7 => ?_)
          have h := h x7 ex7
          refine lv_istore_n (lv' := [(2, .int x7), (0, .ref (A 5)), (1, .int a1), (3, .int v3)]) hx hb dX5_seizedIn_42 rfl hl (by decide) rfl (fun ls hl => ?_)
          obtain ⟨x8, ex8⟩ : ∃ z : Int32, z = v3 + (1 : Int32) := ⟨_, rfl⟩
          have h := h x8 ex8
          refine lv_iinc (v := x8) (lv' := [(3, .int x8), (2, .int x7), (0, .ref (A 5)), (1, .int a1)]) hx hb dX5_seizedIn_43 hl (k := 3) rfl (by rw [ex8]; rfl) (by decide) rfl (fun ls hl => ?_)
          refine lv_goto (tgt := 4) hx hb dX5_seizedIn_46 (by decide) ?_
          exact ih4 x7 x8 S h _ _ _ hP hS (lv_sub hl [2, 3, 1, 0] rfl)
  refine lv_iconst (v := (0 : Int32)) hx hb dX5_seizedIn_0 (by decide) ?_
  refine lv_istore_n (lv' := [(2, .int (0 : Int32)), (0, .ref (A 5)), (1, .int a1)]) hx hb dX5_seizedIn_1 rfl hl (by decide) rfl (fun ls hl => ?_)
  refine lv_iconst (v := (0 : Int32)) hx hb dX5_seizedIn_2 (by decide) ?_
  refine lv_istore_n (lv' := [(3, .int (0 : Int32)), (2, .int (0 : Int32)), (0, .ref (A 5)), (1, .int a1)]) hx hb dX5_seizedIn_3 rfl hl (by decide) rfl (fun ls hl => ?_)
  exact tL4  (0 : Int32) (0 : Int32) S h _ _ _ hP hS (lv_sub hl [2, 3, 1, 0] rfl)

def qX6_landedOf (S : gS) (a1 : Int32) (a2 : Int32) (a3 : Int32) (Q : Int32 → gS → Prop) : Prop :=
  vp_in a1 34 ∧ (Q (if (0 : Int32) < ((a2 - (ga S 50 a1.toNatClampNeg)) - a3) then ((a2 - (ga S 50 a1.toNatClampNeg)) - a3) else (0 : Int32)) S)
abbrev rmX6_landedOf : Room := { frames := 1, cells := 0, slots := 0, locals := 15 }
set_option maxHeartbeats 4000000 in
set_option maxRecDepth 100000 in
theorem kX6_landedOf (l : Launch) (D : va_G) (Y : Nat → ClassId) (A : Nat → Nat) (hI : iC A) (sz : Nat) (S : gS) (a1 : Int32) (a2 : Int32) (a3 : Int32) (Q : Int32 → gS → Prop) (h : qX6_landedOf S a1 a2 a3 Q) : Met l yX6_landedOf wsX6_landedOf rmX6_landedOf (gPc [.ref (A 8), .int a1, .int a2, .int a3] sz D vwCl (tY Y) (wC Y A S)) (va_Qi Q (fun S' t => gH D vwCl (tY Y) (wC Y A S') t) (gF A 65 sz)) 0 0 (gF A 65 sz) := by
  refine gMet_i (cc := cX6_landedOf) (maxL := 4) (by decide +kernel) rfl (Nat.le_of_ble_eq_true rfl) (fun p e s m args below meth c Z H locs hx hb hml hts hown hK hP hS hret ls hl => ?_)
  have hown : s.vm.findClass RX6 = some m.cls := hown
  have hl : lv_has ls 4 [(0, .ref (A 8)), (1, .int a1), (2, .int a2), (3, .int a3)] := hl
  have hD : ∀ S0 : gS, va_D (gF A 65 s.heap.size) (wC Y A S0) := fun S0 => dC hI S0 (fun k hk => gF_in hk)
  have k0 : ∀ w ∈ u_ws RX6 TX6 3, w ∈ wsX6_landedOf := by decide +kernel
  have k1 := hts (.fieldLink RX6 18 "CoastWatch$Seasons" "byLaw" "[I") (by decide +kernel)
  have k2 := hts (.methodLink RX6 21 Lib.Math.max.name) (by decide +kernel)
  have k3 := hts (.static Lib.Math.max.name) (by decide +kernel)
  have k4 := hts (.initialized "java/lang/Math") (by decide +kernel)
  have k5 := hts (.code Lib.Math.max.name Lib.Math.max.code 2 (some .int)) (by decide +kernel)
  refine lv_iconst (v := (0 : Int32)) hx hb dX6_landedOf_0 (by decide) ?_
  refine lv_iload_n hx hb dX6_landedOf_1 rfl (lv_at hl 2 rfl) ?_
  refine lv_aload_n hx hb dX6_landedOf_2 rfl (lv_at hl 0 rfl) ?_
  refine va_get (ci := 6) (v := .ref (A 63)) (C := RX6) (T := TX6) (N := 3) hx hb hts k0 hown hK hP 8 (aC8 Y A S) rfl 2 (by decide) k1 (fun _ h9 => h9) rfl dX6_landedOf_3 ?_
  refine lv_iload_n hx hb dX6_landedOf_6 rfl (lv_at hl 1 rfl) ?_
  have v_1 := h.1
  have h := h.2
  refine va_iald hx hb hK hP 63 0 (aC63 Y A S) rfl v_1 dX6_landedOf_7 ?_
  refine lv_isub hx hb dX6_landedOf_8 ?_
  refine lv_iload_n hx hb dX6_landedOf_9 rfl (lv_at hl 3 rfl) ?_
  refine lv_isub hx hb dX6_landedOf_10 ?_
  refine va_mmax hx hb (hml.trans hl.1.symm) hown k2 k3 k4 k5 (Nat.le_of_ble_eq_true rfl) (Nat.le_of_ble_eq_true rfl) (Nat.zero_le _) (Nat.zero_le _) dX6_landedOf_11 ?_
  exact hret _ _ _ _ _ _ dX6_landedOf_14 h hP hS

def qX7_isMissing (S : gS) (a1 : Int32) (Q : Int32 → gS → Prop) : Prop :=
  vp_in a1 4 ∧ ((0 ≤ (ga S 6 a1.toNatClampNeg) → (Q (0 : Int32) S)) ∧ (¬ 0 ≤ (ga S 6 a1.toNatClampNeg) → (Q (1 : Int32) S)))
abbrev rmX7_isMissing : Room := { frames := 0, cells := 0, slots := 0, locals := 0 }
set_option maxHeartbeats 4000000 in
set_option maxRecDepth 100000 in
theorem kX7_isMissing (l : Launch) (D : va_G) (Y : Nat → ClassId) (A : Nat → Nat) (hI : iC A) (sz : Nat) (S : gS) (a1 : Int32) (Q : Int32 → gS → Prop) (h : qX7_isMissing S a1 Q) : Met l yX7_isMissing wsX7_isMissing rmX7_isMissing (gPc [.ref (A 1), .int a1] sz D vwCl (tY Y) (wC Y A S)) (va_Qi Q (fun S' t => gH D vwCl (tY Y) (wC Y A S') t) (gF A 65 sz)) 0 0 (gF A 65 sz) := by
  refine gMet_z (cc := cX7_isMissing) (maxL := 2) (by decide +kernel) rfl (Nat.le_of_ble_eq_true rfl) (fun p e s m args below meth c Z H locs hx hb hml hts hown hK hP hS hret ls hl => ?_)
  have hown : s.vm.findClass RX7 = some m.cls := hown
  have hl : lv_has ls 2 [(0, .ref (A 1)), (1, .int a1)] := hl
  have hD : ∀ S0 : gS, va_D (gF A 65 s.heap.size) (wC Y A S0) := fun S0 => dC hI S0 (fun k hk => gF_in hk)
  have k0 : ∀ w ∈ u_ws RX7 TX7 2, w ∈ wsX7_isMissing := by decide +kernel
  have k1 := hts (.fieldLink RX7 16 "CoastWatch$Tables" "length" "[I") (by decide +kernel)
  refine lv_aload_n hx hb dX7_isMissing_0 rfl (lv_at hl 0 rfl) ?_
  refine va_get (ci := 7) (v := .ref (A 17)) (C := RX7) (T := TX7) (N := 2) hx hb hts k0 hown hK hP 1 (aC1 Y A S) rfl 1 (by decide) k1 (fun _ h9 => h9) rfl dX7_isMissing_1 ?_
  refine lv_iload_n hx hb dX7_isMissing_4 rfl (lv_at hl 1 rfl) ?_
  have v_1 := h.1
  have h := h.2
  refine va_iald hx hb hK hP 17 0 (aC17 Y A S) rfl v_1 dX7_isMissing_5 ?_
  refine lv_if_ge (tgt := 13) hx hb dX7_isMissing_6 (by decide) (fun c2 => ?_) (fun c2 => ?_)
  · have h := h.1 c2
    refine lv_iconst (v := (0 : Int32)) hx hb dX7_isMissing_13 (by decide) ?_
    exact hret _ _ _ _ _ _ dX7_isMissing_14 rfl h hP hS
  · have h := h.2 c2
    refine lv_iconst (v := (1 : Int32)) hx hb dX7_isMissing_9 (by decide) ?_
    refine lv_goto (tgt := 14) hx hb dX7_isMissing_10 (by decide) ?_
    exact hret _ _ _ _ _ _ dX7_isMissing_14 rfl h hP hS

def qX7_begin_L9 (a1 : Int32) (a2 : Int32) (Q : gS → Prop) (K9 : Int32 × gS → Prop) : Int32 × gS → Prop := fun ⟨v3, S⟩ =>
  ((30 : Int32) ≤ v3 → (Q S)) ∧ (¬ (30 : Int32) ≤ v3 → (vp_in a1 4 ∧ (vp_in v3 30 ∧ (∀ S3 : gS, S3 = sA S (2 + a1.toNatClampNeg) (upd (ga S (2 + a1.toNatClampNeg)) v3.toNatClampNeg (0 : Int32)) → (∀ x5 : Int32, x5 = v3 + (1 : Int32) → (K9 (x5, S3)))))))
def qX7_begin (S : gS) (a1 : Int32) (a2 : Int32) (Q : gS → Prop) : Prop :=
  vp_in a1 4 ∧ (∀ S6 : gS, S6 = sA S 6 (upd (ga S 6) a1.toNatClampNeg a2) → (lp (qX7_begin_L9 a1 a2 Q) ((0 : Int32), S6)))
abbrev rmX7_begin : Room := { frames := 0, cells := 0, slots := 0, locals := 0 }
set_option maxHeartbeats 4000000 in
set_option maxRecDepth 100000 in
theorem kX7_begin (l : Launch) (D : va_G) (Y : Nat → ClassId) (A : Nat → Nat) (hI : iC A) (sz : Nat) (S : gS) (a1 : Int32) (a2 : Int32) (Q : gS → Prop) (h : qX7_begin S a1 a2 Q) : Met l yX7_begin wsX7_begin rmX7_begin (gPc [.ref (A 1), .int a1, .int a2] sz D vwCl (tY Y) (wC Y A S)) (va_Qv Q (fun S' t => gH D vwCl (tY Y) (wC Y A S') t) (gF A 65 sz)) 0 0 (gF A 65 sz) := by
  refine gMet_v (cc := cX7_begin) (maxL := 4) (by decide +kernel) rfl (Nat.le_of_ble_eq_true rfl) (fun p e s m args below meth c Z H locs hx hb hml hts hown hK hP hS hret ls hl => ?_)
  have hown : s.vm.findClass RX7 = some m.cls := hown
  have hl : lv_has ls 4 [(0, .ref (A 1)), (1, .int a1), (2, .int a2)] := hl
  have hD : ∀ S0 : gS, va_D (gF A 65 s.heap.size) (wC Y A S0) := fun S0 => dC hI S0 (fun k hk => gF_in hk)
  have k0 : ∀ w ∈ u_ws RX7 TX7 2, w ∈ wsX7_begin := by decide +kernel
  have k1 := hts (.fieldLink RX7 11 "CoastWatch$Tables" "numbers" "[[I") (by decide +kernel)
  have k2 := hts (.fieldLink RX7 16 "CoastWatch$Tables" "length" "[I") (by decide +kernel)
  have tL9 : ∀ (v3 : Int32) (S : gS), lp (qX7_begin_L9 a1 a2 Q) (v3, S) → ∀ (H : Heap) (locs : List Loc) (ls : Array Slot), va_P D vwCl (wC Y A S) H → va_S (gF A 65 s.heap.size) s.heap H locs → lv_has ls 4 [(0, .ref (A 1)), (1, .int a1), (3, .int v3)] → W p l e rmX7_begin s m args below meth c H locs 0 0 Z (F0 m 9 ls []) := by
    intro  v3 S h
    refine lp_walk (G := fun a => match a with | (v3, S) => ∀ (H : Heap) (locs : List Loc) (ls : Array Slot), va_P D vwCl (wC Y A S) H → va_S (gF A 65 s.heap.size) s.heap H locs → lv_has ls 4 [(0, .ref (A 1)), (1, .int a1), (3, .int v3)] → W p l e rmX7_begin s m args below meth c H locs 0 0 Z (F0 m 9 ls [])) (fun K9 a ih9 h => ?_) (v3, S) h
    obtain ⟨v3, S⟩ := a
    have ih9 : ∀ (v3 : Int32) (S : gS), K9 (v3, S) → ∀ (H : Heap) (locs : List Loc) (ls : Array Slot), va_P D vwCl (wC Y A S) H → va_S (gF A 65 s.heap.size) s.heap H locs → lv_has ls 4 [(0, .ref (A 1)), (1, .int a1), (3, .int v3)] → W p l e rmX7_begin s m args below meth c H locs 0 0 Z (F0 m 9 ls []) := fun v3 S q => ih9 (v3, S) q
    intro H locs ls hP hS hl
    refine lv_iload_n hx hb dX7_begin_9 rfl (lv_at hl 2 rfl) ?_
    refine lv_bipush (v := (30 : Int32)) hx hb dX7_begin_10 (by decide) ?_
    refine lv_icmp_ge (tgt := 30) hx hb dX7_begin_12 (by decide) (fun c1 => ?_) (fun c1 => ?_)
    · have h := h.1 c1
      exact hret _ _ _ _ _ dX7_begin_30 h hP hS
    · have h := h.2 c1
      refine lv_aload_n hx hb dX7_begin_15 rfl (lv_at hl 0 rfl) ?_
      refine va_get (ci := 7) (v := .ref (A 12)) (C := RX7) (T := TX7) (N := 2) hx hb hts k0 hown hK hP 1 (aC1 Y A S) rfl 0 (by decide) k1 (fun _ h9 => h9) rfl dX7_begin_16 ?_
      refine lv_iload_n hx hb dX7_begin_19 rfl (lv_at hl 1 rfl) ?_
      have v_2 := h.1
      have h := h.2
      refine gAald (g := fun j => A (13 + j)) hx hb hK hP 12 3 (aC12 Y A S) rfl (fun j hj => if_pos hj) v_2 dX7_begin_20 ?_
      refine lv_iload_n hx hb dX7_begin_21 rfl (lv_at hl 2 rfl) ?_
      refine lv_iconst (v := (0 : Int32)) hx hb dX7_begin_22 (by decide) ?_
      have v_4 := h.1
      have h := h.2
      obtain ⟨S3, eS3⟩ : ∃ z : gS, z = sA S (2 + a1.toNatClampNeg) (upd (ga S (2 + a1.toNatClampNeg)) v3.toNatClampNeg (0 : Int32)) := ⟨_, rfl⟩
      refine va_iast hx hb hK hP (hD S) hS (13 + a1.toNatClampNeg) 0 (arC12 Y A S (vp_lt v_2)) rfl v_4 dX7_begin_23 (fun H locs hP _ hS => ?_)
      have hP := urC12 (vp_lt v_2) eS3 hP
      have h := h S3 eS3
      obtain ⟨x5, ex5⟩ : ∃ z : Int32, z = v3 + (1 : Int32) := ⟨_, rfl⟩
      have h := h x5 ex5
      refine lv_iinc (v := x5) (lv' := [(3, .int x5), (0, .ref (A 1)), (1, .int a1)]) hx hb dX7_begin_24 hl (k := 2) rfl (by rw [ex5]; rfl) (by decide) rfl (fun ls hl => ?_)
      refine lv_goto (tgt := 9) hx hb dX7_begin_27 (by decide) ?_
      exact ih9 x5 S3 h _ _ _ hP hS (lv_sub hl [1, 2, 0] rfl)
  refine lv_aload_n hx hb dX7_begin_0 rfl (lv_at hl 0 rfl) ?_
  refine va_get (ci := 7) (v := .ref (A 17)) (C := RX7) (T := TX7) (N := 2) hx hb hts k0 hown hK hP 1 (aC1 Y A S) rfl 1 (by decide) k2 (fun _ h9 => h9) rfl dX7_begin_1 ?_
  refine lv_iload_n hx hb dX7_begin_4 rfl (lv_at hl 1 rfl) ?_
  refine lv_iload_n hx hb dX7_begin_5 rfl (lv_at hl 2 rfl) ?_
  have v_7 := h.1
  have h := h.2
  obtain ⟨S6, eS6⟩ : ∃ z : gS, z = sA S 6 (upd (ga S 6) a1.toNatClampNeg a2) := ⟨_, rfl⟩
  refine va_iast hx hb hK hP (hD S) hS 17 0 (aC17 Y A S) rfl v_7 dX7_begin_6 (fun H locs hP _ hS => ?_)
  have hP := uC17 eS6 hP
  have h := h S6 eS6
  refine lv_iconst (v := (0 : Int32)) hx hb dX7_begin_7 (by decide) ?_
  refine lv_istore_n (lv' := [(3, .int (0 : Int32)), (0, .ref (A 1)), (1, .int a1), (2, .int a2)]) hx hb dX7_begin_8 rfl hl (by decide) rfl (fun ls hl => ?_)
  exact tL9  (0 : Int32) S6 h _ _ _ hP hS (lv_sub hl [1, 2, 0] rfl)

def qX7_forget (S : gS) (a1 : Int32) (Q : gS → Prop) : Prop :=
  vp_in a1 4 ∧ (∀ S1 : gS, S1 = sA S 6 (upd (ga S 6) a1.toNatClampNeg (-1 : Int32)) → (Q S1))
abbrev rmX7_forget : Room := { frames := 0, cells := 0, slots := 0, locals := 0 }
set_option maxHeartbeats 4000000 in
set_option maxRecDepth 100000 in
theorem kX7_forget (l : Launch) (D : va_G) (Y : Nat → ClassId) (A : Nat → Nat) (hI : iC A) (sz : Nat) (S : gS) (a1 : Int32) (Q : gS → Prop) (h : qX7_forget S a1 Q) : Met l yX7_forget wsX7_forget rmX7_forget (gPc [.ref (A 1), .int a1] sz D vwCl (tY Y) (wC Y A S)) (va_Qv Q (fun S' t => gH D vwCl (tY Y) (wC Y A S') t) (gF A 65 sz)) 0 0 (gF A 65 sz) := by
  refine gMet_v (cc := cX7_forget) (maxL := 2) (by decide +kernel) rfl (Nat.le_of_ble_eq_true rfl) (fun p e s m args below meth c Z H locs hx hb hml hts hown hK hP hS hret ls hl => ?_)
  have hown : s.vm.findClass RX7 = some m.cls := hown
  have hl : lv_has ls 2 [(0, .ref (A 1)), (1, .int a1)] := hl
  have hD : ∀ S0 : gS, va_D (gF A 65 s.heap.size) (wC Y A S0) := fun S0 => dC hI S0 (fun k hk => gF_in hk)
  have k0 : ∀ w ∈ u_ws RX7 TX7 2, w ∈ wsX7_forget := by decide +kernel
  have k1 := hts (.fieldLink RX7 16 "CoastWatch$Tables" "length" "[I") (by decide +kernel)
  refine lv_aload_n hx hb dX7_forget_0 rfl (lv_at hl 0 rfl) ?_
  refine va_get (ci := 7) (v := .ref (A 17)) (C := RX7) (T := TX7) (N := 2) hx hb hts k0 hown hK hP 1 (aC1 Y A S) rfl 1 (by decide) k1 (fun _ h9 => h9) rfl dX7_forget_1 ?_
  refine lv_iload_n hx hb dX7_forget_4 rfl (lv_at hl 1 rfl) ?_
  refine lv_iconst (v := (-1 : Int32)) hx hb dX7_forget_5 (by decide) ?_
  have v_2 := h.1
  have h := h.2
  obtain ⟨S1, eS1⟩ : ∃ z : gS, z = sA S 6 (upd (ga S 6) a1.toNatClampNeg (-1 : Int32)) := ⟨_, rfl⟩
  refine va_iast hx hb hK hP (hD S) hS 17 0 (aC17 Y A S) rfl v_2 dX7_forget_6 (fun H locs hP _ hS => ?_)
  have hP := uC17 eS1 hP
  have h := h S1 eS1
  exact hret _ _ _ _ _ dX7_forget_7 h hP hS

def qX7_hasPlaces (S : gS) (a1 : Int32) (a2 : Int32) (a3 : Int32) (Q : Int32 → gS → Prop) : Prop :=
  (a3 < 0 → (Q (0 : Int32) S)) ∧ (¬ a3 < 0 → ((a2 < 0 → (Q (0 : Int32) S)) ∧ (¬ a2 < 0 → (vp_in a1 4 ∧ ((((ga S 6 a1.toNatClampNeg) - a3) < a2 → (Q (0 : Int32) S)) ∧ (¬ ((ga S 6 a1.toNatClampNeg) - a3) < a2 → (Q (1 : Int32) S)))))))
abbrev rmX7_hasPlaces : Room := { frames := 0, cells := 0, slots := 0, locals := 0 }
set_option maxHeartbeats 4000000 in
set_option maxRecDepth 100000 in
theorem kX7_hasPlaces (l : Launch) (D : va_G) (Y : Nat → ClassId) (A : Nat → Nat) (hI : iC A) (sz : Nat) (S : gS) (a1 : Int32) (a2 : Int32) (a3 : Int32) (Q : Int32 → gS → Prop) (h : qX7_hasPlaces S a1 a2 a3 Q) : Met l yX7_hasPlaces wsX7_hasPlaces rmX7_hasPlaces (gPc [.ref (A 1), .int a1, .int a2, .int a3] sz D vwCl (tY Y) (wC Y A S)) (va_Qi Q (fun S' t => gH D vwCl (tY Y) (wC Y A S') t) (gF A 65 sz)) 0 0 (gF A 65 sz) := by
  refine gMet_z (cc := cX7_hasPlaces) (maxL := 4) (by decide +kernel) rfl (Nat.le_of_ble_eq_true rfl) (fun p e s m args below meth c Z H locs hx hb hml hts hown hK hP hS hret ls hl => ?_)
  have hown : s.vm.findClass RX7 = some m.cls := hown
  have hl : lv_has ls 4 [(0, .ref (A 1)), (1, .int a1), (2, .int a2), (3, .int a3)] := hl
  have hD : ∀ S0 : gS, va_D (gF A 65 s.heap.size) (wC Y A S0) := fun S0 => dC hI S0 (fun k hk => gF_in hk)
  have k0 : ∀ w ∈ u_ws RX7 TX7 2, w ∈ wsX7_hasPlaces := by decide +kernel
  have k1 := hts (.fieldLink RX7 16 "CoastWatch$Tables" "length" "[I") (by decide +kernel)
  refine lv_iload_n hx hb dX7_hasPlaces_0 rfl (lv_at hl 3 rfl) ?_
  refine lv_if_lt (tgt := 24) hx hb dX7_hasPlaces_1 (by decide) (fun c1 => ?_) (fun c1 => ?_)
  · have h := h.1 c1
    refine lv_iconst (v := (0 : Int32)) hx hb dX7_hasPlaces_24 (by decide) ?_
    exact hret _ _ _ _ _ _ dX7_hasPlaces_25 rfl h hP hS
  · have h := h.2 c1
    refine lv_iload_n hx hb dX7_hasPlaces_4 rfl (lv_at hl 2 rfl) ?_
    refine lv_if_lt (tgt := 24) hx hb dX7_hasPlaces_5 (by decide) (fun c2 => ?_) (fun c2 => ?_)
    · have h := h.1 c2
      refine lv_iconst (v := (0 : Int32)) hx hb dX7_hasPlaces_24 (by decide) ?_
      exact hret _ _ _ _ _ _ dX7_hasPlaces_25 rfl h hP hS
    · have h := h.2 c2
      refine lv_iload_n hx hb dX7_hasPlaces_8 rfl (lv_at hl 2 rfl) ?_
      refine lv_aload_n hx hb dX7_hasPlaces_9 rfl (lv_at hl 0 rfl) ?_
      refine va_get (ci := 7) (v := .ref (A 17)) (C := RX7) (T := TX7) (N := 2) hx hb hts k0 hown hK hP 1 (aC1 Y A S) rfl 1 (by decide) k1 (fun _ h9 => h9) rfl dX7_hasPlaces_10 ?_
      refine lv_iload_n hx hb dX7_hasPlaces_13 rfl (lv_at hl 1 rfl) ?_
      have v_3 := h.1
      have h := h.2
      refine va_iald hx hb hK hP 17 0 (aC17 Y A S) rfl v_3 dX7_hasPlaces_14 ?_
      refine lv_iload_n hx hb dX7_hasPlaces_15 rfl (lv_at hl 3 rfl) ?_
      refine lv_isub hx hb dX7_hasPlaces_16 ?_
      refine lv_icmp_gt (tgt := 24) hx hb dX7_hasPlaces_17 (by decide) (fun c4 => ?_) (fun c4 => ?_)
      · have h := h.1 c4
        refine lv_iconst (v := (0 : Int32)) hx hb dX7_hasPlaces_24 (by decide) ?_
        exact hret _ _ _ _ _ _ dX7_hasPlaces_25 rfl h hP hS
      · have h := h.2 c4
        refine lv_iconst (v := (1 : Int32)) hx hb dX7_hasPlaces_20 (by decide) ?_
        refine lv_goto (tgt := 25) hx hb dX7_hasPlaces_21 (by decide) ?_
        exact hret _ _ _ _ _ _ dX7_hasPlaces_25 rfl h hP hS

def qX8_add (S : gS) (a1 : Int32) (a2 : Int32) (a3 : Int32) (Q : Int32 → gS → Prop) : Prop :=
  ∀ x1 : Int32, x1 = (gi S 8) → ((x1 < (60 : Int32) → (vp_in x1 60 ∧ (∀ S3 : gS, S3 = sA S 43 (upd (ga S 43) x1.toNatClampNeg a1) → (∀ S5 : gS, S5 = sA S3 44 (upd (ga S3 44) x1.toNatClampNeg a2) → (∀ S6 : gS, S6 = sA S5 45 (upd (ga S5 45) x1.toNatClampNeg a3) → (∀ S7 : gS, S7 = sI S6 8 (x1 + (1 : Int32)) → (Q x1 S7))))))) ∧ (¬ x1 < (60 : Int32) → (Q (-1 : Int32) S)))
abbrev rmX8_add : Room := { frames := 0, cells := 0, slots := 0, locals := 0 }
set_option maxHeartbeats 4000000 in
set_option maxRecDepth 100000 in
theorem kX8_add (l : Launch) (D : va_G) (Y : Nat → ClassId) (A : Nat → Nat) (hI : iC A) (sz : Nat) (S : gS) (a1 : Int32) (a2 : Int32) (a3 : Int32) (Q : Int32 → gS → Prop) (h : qX8_add S a1 a2 a3 Q) : Met l yX8_add wsX8_add rmX8_add (gPc [.ref (A 7), .int a1, .int a2, .int a3] sz D vwCl (tY Y) (wC Y A S)) (va_Qi Q (fun S' t => gH D vwCl (tY Y) (wC Y A S') t) (gF A 65 sz)) 0 0 (gF A 65 sz) := by
  refine gMet_i (cc := cX8_add) (maxL := 5) (by decide +kernel) rfl (Nat.le_of_ble_eq_true rfl) (fun p e s m args below meth c Z H locs hx hb hml hts hown hK hP hS hret ls hl => ?_)
  have hown : s.vm.findClass RX8 = some m.cls := hown
  have hl : lv_has ls 5 [(0, .ref (A 7)), (1, .int a1), (2, .int a2), (3, .int a3)] := hl
  have hD : ∀ S0 : gS, va_D (gF A 65 s.heap.size) (wC Y A S0) := fun S0 => dC hI S0 (fun k hk => gF_in hk)
  have k0 : ∀ w ∈ u_ws RX8 TX8 6, w ∈ wsX8_add := by decide +kernel
  have k1 := hts (.fieldLink RX8 9 "CoastWatch$Words" "size" "I") (by decide +kernel)
  have k2 := hts (.fieldLink RX8 15 "CoastWatch$Words" "informer" "[I") (by decide +kernel)
  have k3 := hts (.fieldLink RX8 19 "CoastWatch$Words" "night" "[I") (by decide +kernel)
  have k4 := hts (.fieldLink RX8 22 "CoastWatch$Words" "cove" "[I") (by decide +kernel)
  refine lv_aload_n hx hb dX8_add_0 rfl (lv_at hl 0 rfl) ?_
  refine va_get (ci := 8) (v := .int (gi S 8)) (C := RX8) (T := TX8) (N := 6) hx hb hts k0 hown hK hP 7 (aC7 Y A S) rfl 0 (by decide) k1 (fun _ h9 => h9) rfl dX8_add_1 ?_
  refine lv_topi (fun x1 ex1 => ?_)
  have h := h x1 ex1
  refine lv_istore (lv' := [(4, .int x1), (0, .ref (A 7)), (1, .int a1), (2, .int a2), (3, .int a3)]) hx hb dX8_add_4 hl (by decide) rfl (fun ls hl => ?_)
  refine lv_iload hx hb dX8_add_6 (lv_at hl 0 rfl) ?_
  refine lv_bipush (v := (60 : Int32)) hx hb dX8_add_8 (by decide) ?_
  refine lv_icmp_lt (tgt := 15) hx hb dX8_add_10 (by decide) (fun c2 => ?_) (fun c2 => ?_)
  · have h := h.1 c2
    refine lv_aload_n hx hb dX8_add_15 rfl (lv_at hl 1 rfl) ?_
    refine va_get (ci := 8) (v := .ref (A 56)) (C := RX8) (T := TX8) (N := 6) hx hb hts k0 hown hK hP 7 (aC7 Y A S) rfl 1 (by decide) k2 (fun _ h9 => h9) rfl dX8_add_16 ?_
    refine lv_iload hx hb dX8_add_19 (lv_at hl 0 rfl) ?_
    refine lv_iload_n hx hb dX8_add_21 rfl (lv_at hl 2 rfl) ?_
    have v_4 := h.1
    have h := h.2
    obtain ⟨S3, eS3⟩ : ∃ z : gS, z = sA S 43 (upd (ga S 43) x1.toNatClampNeg a1) := ⟨_, rfl⟩
    refine va_iast hx hb hK hP (hD S) hS 56 0 (aC56 Y A S) rfl v_4 dX8_add_22 (fun H locs hP _ hS => ?_)
    have hP := uC56 eS3 hP
    have h := h S3 eS3
    refine lv_aload_n hx hb dX8_add_23 rfl (lv_at hl 1 rfl) ?_
    refine va_get (ci := 8) (v := .ref (A 57)) (C := RX8) (T := TX8) (N := 6) hx hb hts k0 hown hK hP 7 (aC7 Y A S3) rfl 2 (by decide) k3 (fun _ h9 => h9) rfl dX8_add_24 ?_
    refine lv_iload hx hb dX8_add_27 (lv_at hl 0 rfl) ?_
    refine lv_iload_n hx hb dX8_add_29 rfl (lv_at hl 3 rfl) ?_
    obtain ⟨S5, eS5⟩ : ∃ z : gS, z = sA S3 44 (upd (ga S3 44) x1.toNatClampNeg a2) := ⟨_, rfl⟩
    refine va_iast hx hb hK hP (hD S3) hS 57 0 (aC57 Y A S3) rfl v_4 dX8_add_30 (fun H locs hP _ hS => ?_)
    have hP := uC57 eS5 hP
    have h := h S5 eS5
    refine lv_aload_n hx hb dX8_add_31 rfl (lv_at hl 1 rfl) ?_
    refine va_get (ci := 8) (v := .ref (A 58)) (C := RX8) (T := TX8) (N := 6) hx hb hts k0 hown hK hP 7 (aC7 Y A S5) rfl 3 (by decide) k4 (fun _ h9 => h9) rfl dX8_add_32 ?_
    refine lv_iload hx hb dX8_add_35 (lv_at hl 0 rfl) ?_
    refine lv_iload_n hx hb dX8_add_37 rfl (lv_at hl 4 rfl) ?_
    obtain ⟨S6, eS6⟩ : ∃ z : gS, z = sA S5 45 (upd (ga S5 45) x1.toNatClampNeg a3) := ⟨_, rfl⟩
    refine va_iast hx hb hK hP (hD S5) hS 58 0 (aC58 Y A S5) rfl v_4 dX8_add_38 (fun H locs hP _ hS => ?_)
    have hP := uC58 eS6 hP
    have h := h S6 eS6
    refine lv_aload_n hx hb dX8_add_39 rfl (lv_at hl 1 rfl) ?_
    refine lv_iload hx hb dX8_add_40 (lv_at hl 0 rfl) ?_
    refine lv_iconst (v := (1 : Int32)) hx hb dX8_add_42 (by decide) ?_
    refine lv_iadd hx hb dX8_add_43 ?_
    obtain ⟨S7, eS7⟩ : ∃ z : gS, z = sI S6 8 (x1 + (1 : Int32)) := ⟨_, rfl⟩
    have h := h S7 eS7
    refine va_put (ci := 8) (v := .int (x1 + (1 : Int32))) (ty := .int) (C := RX8) (T := TX8) (N := 6) hx hb hts k0 tyX8 tyX8_ok nmX8 hown hK hP (hD S6) hS 7 (aC7 Y A S6) rfl 0 (by decide) k1 (fun _ h9 => h9) rfl rfl rfl rfl (by simp) dX8_add_44 (fun H locs hP _ hS => ?_)
    have hP := pC7_0 eS7 hP
    refine lv_iload hx hb dX8_add_47 (lv_at hl 0 rfl) ?_
    exact hret _ _ _ _ _ _ dX8_add_49 h hP hS
  · have h := h.2 c2
    refine lv_iconst (v := (-1 : Int32)) hx hb dX8_add_13 (by decide) ?_
    exact hret _ _ _ _ _ _ dX8_add_14 h hP hS

def qX8_names (S : gS) (a1 : Int32) (a2 : Int32) (a3 : Int32) (Q : Int32 → gS → Prop) : Prop :=
  vp_in a1 60 ∧ (((ga S 44 a1.toNatClampNeg) = a2 → (((ga S 45 a1.toNatClampNeg) = a3 → (Q (1 : Int32) S)) ∧ (¬ (ga S 45 a1.toNatClampNeg) = a3 → (Q (0 : Int32) S)))) ∧ (¬ (ga S 44 a1.toNatClampNeg) = a2 → (Q (0 : Int32) S)))
abbrev rmX8_names : Room := { frames := 0, cells := 0, slots := 0, locals := 0 }
set_option maxHeartbeats 4000000 in
set_option maxRecDepth 100000 in
theorem kX8_names (l : Launch) (D : va_G) (Y : Nat → ClassId) (A : Nat → Nat) (hI : iC A) (sz : Nat) (S : gS) (a1 : Int32) (a2 : Int32) (a3 : Int32) (Q : Int32 → gS → Prop) (h : qX8_names S a1 a2 a3 Q) : Met l yX8_names wsX8_names rmX8_names (gPc [.ref (A 7), .int a1, .int a2, .int a3] sz D vwCl (tY Y) (wC Y A S)) (va_Qi Q (fun S' t => gH D vwCl (tY Y) (wC Y A S') t) (gF A 65 sz)) 0 0 (gF A 65 sz) := by
  refine gMet_z (cc := cX8_names) (maxL := 4) (by decide +kernel) rfl (Nat.le_of_ble_eq_true rfl) (fun p e s m args below meth c Z H locs hx hb hml hts hown hK hP hS hret ls hl => ?_)
  have hown : s.vm.findClass RX8 = some m.cls := hown
  have hl : lv_has ls 4 [(0, .ref (A 7)), (1, .int a1), (2, .int a2), (3, .int a3)] := hl
  have hD : ∀ S0 : gS, va_D (gF A 65 s.heap.size) (wC Y A S0) := fun S0 => dC hI S0 (fun k hk => gF_in hk)
  have k0 : ∀ w ∈ u_ws RX8 TX8 6, w ∈ wsX8_names := by decide +kernel
  have k1 := hts (.fieldLink RX8 19 "CoastWatch$Words" "night" "[I") (by decide +kernel)
  have k2 := hts (.fieldLink RX8 22 "CoastWatch$Words" "cove" "[I") (by decide +kernel)
  refine lv_aload_n hx hb dX8_names_0 rfl (lv_at hl 0 rfl) ?_
  refine va_get (ci := 8) (v := .ref (A 57)) (C := RX8) (T := TX8) (N := 6) hx hb hts k0 hown hK hP 7 (aC7 Y A S) rfl 2 (by decide) k1 (fun _ h9 => h9) rfl dX8_names_1 ?_
  refine lv_iload_n hx hb dX8_names_4 rfl (lv_at hl 1 rfl) ?_
  have v_1 := h.1
  have h := h.2
  refine va_iald hx hb hK hP 57 0 (aC57 Y A S) rfl v_1 dX8_names_5 ?_
  refine lv_iload_n hx hb dX8_names_6 rfl (lv_at hl 2 rfl) ?_
  refine lv_icmp_ne (tgt := 24) hx hb dX8_names_7 (by decide) (fun c2 => ?_) (fun c2 => ?_)
  · have h := h.2 c2
    refine lv_iconst (v := (0 : Int32)) hx hb dX8_names_24 (by decide) ?_
    exact hret _ _ _ _ _ _ dX8_names_25 rfl h hP hS
  · have h := h.1 c2
    refine lv_aload_n hx hb dX8_names_10 rfl (lv_at hl 0 rfl) ?_
    refine va_get (ci := 8) (v := .ref (A 58)) (C := RX8) (T := TX8) (N := 6) hx hb hts k0 hown hK hP 7 (aC7 Y A S) rfl 3 (by decide) k2 (fun _ h9 => h9) rfl dX8_names_11 ?_
    refine lv_iload_n hx hb dX8_names_14 rfl (lv_at hl 1 rfl) ?_
    refine va_iald hx hb hK hP 58 0 (aC58 Y A S) rfl v_1 dX8_names_15 ?_
    refine lv_iload_n hx hb dX8_names_16 rfl (lv_at hl 3 rfl) ?_
    refine lv_icmp_ne (tgt := 24) hx hb dX8_names_17 (by decide) (fun c3 => ?_) (fun c3 => ?_)
    · have h := h.2 c3
      refine lv_iconst (v := (0 : Int32)) hx hb dX8_names_24 (by decide) ?_
      exact hret _ _ _ _ _ _ dX8_names_25 rfl h hP hS
    · have h := h.1 c3
      refine lv_iconst (v := (1 : Int32)) hx hb dX8_names_20 (by decide) ?_
      refine lv_goto (tgt := 25) hx hb dX8_names_21 (by decide) ?_
      exact hret _ _ _ _ _ _ dX8_names_25 rfl h hP hS

def qX8_isToldBy_L3 (a1 : Int32) (a2 : Int32) (a3 : Int32) (Q : Int32 → gS → Prop) (K3 : Int32 × gS → Prop) : Int32 × gS → Prop := fun ⟨v4, S⟩ =>
  ((gi S 8) ≤ v4 → (Q (0 : Int32) S)) ∧ (¬ (gi S 8) ≤ v4 → (vp_in v4 60 ∧ (((ga S 43 v4.toNatClampNeg) = a1 → (qX8_names S v4 a2 a3 (fun r6 S5 => (r6 = 0 → (∀ x8 : Int32, x8 = v4 + (1 : Int32) → (K3 (x8, S5)))) ∧ (¬ r6 = 0 → (Q (1 : Int32) S5))))) ∧ (¬ (ga S 43 v4.toNatClampNeg) = a1 → (∀ x4 : Int32, x4 = v4 + (1 : Int32) → (K3 (x4, S)))))))
def qX8_isToldBy (S : gS) (a1 : Int32) (a2 : Int32) (a3 : Int32) (Q : Int32 → gS → Prop) : Prop :=
  lp (qX8_isToldBy_L3 a1 a2 a3 Q) ((0 : Int32), S)
abbrev rmX8_isToldBy : Room := { frames := 1, cells := 0, slots := 0, locals := 23 }
set_option maxHeartbeats 4000000 in
set_option maxRecDepth 100000 in
theorem kX8_isToldBy (l : Launch) (D : va_G) (Y : Nat → ClassId) (A : Nat → Nat) (hI : iC A) (sz : Nat) (S : gS) (a1 : Int32) (a2 : Int32) (a3 : Int32) (Q : Int32 → gS → Prop) (h : qX8_isToldBy S a1 a2 a3 Q) : Met l yX8_isToldBy wsX8_isToldBy rmX8_isToldBy (gPc [.ref (A 7), .int a1, .int a2, .int a3] sz D vwCl (tY Y) (wC Y A S)) (va_Qi Q (fun S' t => gH D vwCl (tY Y) (wC Y A S') t) (gF A 65 sz)) 0 0 (gF A 65 sz) := by
  refine gMet_z (cc := cX8_isToldBy) (maxL := 5) (by decide +kernel) rfl (Nat.le_of_ble_eq_true rfl) (fun p e s m args below meth c Z H locs hx hb hml hts hown hK hP hS hret ls hl => ?_)
  have hown : s.vm.findClass RX8 = some m.cls := hown
  have hl : lv_has ls 5 [(0, .ref (A 7)), (1, .int a1), (2, .int a2), (3, .int a3)] := hl
  have hD : ∀ S0 : gS, va_D (gF A 65 s.heap.size) (wC Y A S0) := fun S0 => dC hI S0 (fun k hk => gF_in hk)
  have k0 : ∀ w ∈ u_ws RX8 TX8 6, w ∈ wsX8_isToldBy := by decide +kernel
  have k1 := hts (.fieldLink RX8 9 "CoastWatch$Words" "size" "I") (by decide +kernel)
  have k2 := hts (.fieldLink RX8 15 "CoastWatch$Words" "informer" "[I") (by decide +kernel)
  have tL3 : ∀ (v4 : Int32) (S : gS), lp (qX8_isToldBy_L3 a1 a2 a3 Q) (v4, S) → ∀ (H : Heap) (locs : List Loc) (ls : Array Slot), va_P D vwCl (wC Y A S) H → va_S (gF A 65 s.heap.size) s.heap H locs → lv_has ls 5 [(0, .ref (A 7)), (1, .int a1), (2, .int a2), (3, .int a3), (4, .int v4)] → W p l e rmX8_isToldBy s m args below meth c H locs 0 0 Z (F0 m 3 ls []) := by
    intro  v4 S h
    refine lp_walk (G := fun a => match a with | (v4, S) => ∀ (H : Heap) (locs : List Loc) (ls : Array Slot), va_P D vwCl (wC Y A S) H → va_S (gF A 65 s.heap.size) s.heap H locs → lv_has ls 5 [(0, .ref (A 7)), (1, .int a1), (2, .int a2), (3, .int a3), (4, .int v4)] → W p l e rmX8_isToldBy s m args below meth c H locs 0 0 Z (F0 m 3 ls [])) (fun K3 a ih3 h => ?_) (v4, S) h
    obtain ⟨v4, S⟩ := a
    have ih3 : ∀ (v4 : Int32) (S : gS), K3 (v4, S) → ∀ (H : Heap) (locs : List Loc) (ls : Array Slot), va_P D vwCl (wC Y A S) H → va_S (gF A 65 s.heap.size) s.heap H locs → lv_has ls 5 [(0, .ref (A 7)), (1, .int a1), (2, .int a2), (3, .int a3), (4, .int v4)] → W p l e rmX8_isToldBy s m args below meth c H locs 0 0 Z (F0 m 3 ls []) := fun v4 S q => ih3 (v4, S) q
    intro H locs ls hP hS hl
    refine lv_iload hx hb dX8_isToldBy_3 (lv_at hl 4 rfl) ?_
    refine lv_aload_n hx hb dX8_isToldBy_5 rfl (lv_at hl 0 rfl) ?_
    refine va_get (ci := 8) (v := .int (gi S 8)) (C := RX8) (T := TX8) (N := 6) hx hb hts k0 hown hK hP 7 (aC7 Y A S) rfl 0 (by decide) k1 (fun _ h9 => h9) rfl dX8_isToldBy_6 ?_
    refine lv_icmp_ge (tgt := 42) hx hb dX8_isToldBy_9 (by decide) (fun c1 => ?_) (fun c1 => ?_)
    · have h := h.1 c1
      refine lv_iconst (v := (0 : Int32)) hx hb dX8_isToldBy_42 (by decide) ?_
      exact hret _ _ _ _ _ _ dX8_isToldBy_43 rfl h hP hS
    · have h := h.2 c1
      refine lv_aload_n hx hb dX8_isToldBy_12 rfl (lv_at hl 0 rfl) ?_
      refine va_get (ci := 8) (v := .ref (A 56)) (C := RX8) (T := TX8) (N := 6) hx hb hts k0 hown hK hP 7 (aC7 Y A S) rfl 1 (by decide) k2 (fun _ h9 => h9) rfl dX8_isToldBy_13 ?_
      refine lv_iload hx hb dX8_isToldBy_16 (lv_at hl 4 rfl) ?_
      have v_2 := h.1
      have h := h.2
      refine va_iald hx hb hK hP 56 0 (aC56 Y A S) rfl v_2 dX8_isToldBy_18 ?_
      refine lv_iload_n hx hb dX8_isToldBy_19 rfl (lv_at hl 1 rfl) ?_
      refine lv_icmp_ne (tgt := 36) hx hb dX8_isToldBy_20 (by decide) (fun c3 => ?_) (fun c3 => ?_)
      · have h := h.2 c3
        obtain ⟨x4, ex4⟩ : ∃ z : Int32, z = v4 + (1 : Int32) := ⟨_, rfl⟩
        have h := h x4 ex4
        refine lv_iinc (v := x4) (lv' := [(4, .int x4), (0, .ref (A 7)), (1, .int a1), (2, .int a2), (3, .int a3)]) hx hb dX8_isToldBy_36 hl (k := 4) rfl (by rw [ex4]; rfl) (by decide) rfl (fun ls hl => ?_)
        refine lv_goto (tgt := 3) hx hb dX8_isToldBy_39 (by decide) ?_
        exact ih3 x4 S h _ _ _ hP hS (lv_sub hl [1, 2, 3, 4, 0] rfl)
      · have h := h.1 c3
        refine lv_aload_n hx hb dX8_isToldBy_23 rfl (lv_at hl 0 rfl) ?_
        refine lv_iload hx hb dX8_isToldBy_24 (lv_at hl 4 rfl) ?_
        refine lv_iload_n hx hb dX8_isToldBy_26 rfl (lv_at hl 2 rfl) ?_
        refine lv_iload_n hx hb dX8_isToldBy_27 rfl (lv_at hl 3 rfl) ?_
        refine gVi (As := [.int v4, .int a2, .int a3]) (rest := []) ⟨hx, hb, hml, hown, hts⟩ (kX8_names l D Y A hI H.size S v4 a2 a3 _ h) (cwV 3 hts gX8_isToldBy_X8_names rfl rfl rfl (by decide +kernel) ⟨Nat.le_of_ble_eq_true rfl, Nat.le_of_ble_eq_true rfl⟩) hK hP hS (gF_le hS.1) (aC7 Y A S) (show vwCl[8]? = some (RX8, TX8, 6) from rfl) rfl rfl hl.1 (Nat.le_of_ble_eq_true rfl) dX8_isToldBy_28 ⟨Nat.zero_le _, Nat.zero_le _⟩ ?_
        intro r6 S5 H locs h hP hS
        refine lv_if_eq (tgt := 36) hx hb dX8_isToldBy_31 (by decide) (fun c7 => ?_) (fun c7 => ?_)
        · have h := h.1 c7
          obtain ⟨x8, ex8⟩ : ∃ z : Int32, z = v4 + (1 : Int32) := ⟨_, rfl⟩
          have h := h x8 ex8
          refine lv_iinc (v := x8) (lv' := [(4, .int x8), (0, .ref (A 7)), (1, .int a1), (2, .int a2), (3, .int a3)]) hx hb dX8_isToldBy_36 hl (k := 4) rfl (by rw [ex8]; rfl) (by decide) rfl (fun ls hl => ?_)
          refine lv_goto (tgt := 3) hx hb dX8_isToldBy_39 (by decide) ?_
          exact ih3 x8 S5 h _ _ _ hP hS (lv_sub hl [1, 2, 3, 4, 0] rfl)
        · have h := h.2 c7
          refine lv_iconst (v := (1 : Int32)) hx hb dX8_isToldBy_34 (by decide) ?_
          exact hret _ _ _ _ _ _ dX8_isToldBy_35 rfl h hP hS
  refine lv_iconst (v := (0 : Int32)) hx hb dX8_isToldBy_0 (by decide) ?_
  refine lv_istore (lv' := [(4, .int (0 : Int32)), (0, .ref (A 7)), (1, .int a1), (2, .int a2), (3, .int a3)]) hx hb dX8_isToldBy_1 hl (by decide) rfl (fun ls hl => ?_)
  exact tL3  (0 : Int32) S h _ _ _ hP hS (lv_sub hl [1, 2, 3, 4, 0] rfl)

def qX8_firstInformer_L2 (a1 : Int32) (a2 : Int32) (Q : Int32 → gS → Prop) (K2 : Int32 × gS → Prop) : Int32 × gS → Prop := fun ⟨v3, S⟩ =>
  ((gi S 8) ≤ v3 → (Q (-1 : Int32) S)) ∧ (¬ (gi S 8) ≤ v3 → (qX8_names S v3 a1 a2 (fun r3 S2 => (r3 = 0 → (∀ x5 : Int32, x5 = v3 + (1 : Int32) → (K2 (x5, S2)))) ∧ (¬ r3 = 0 → (vp_in v3 60 ∧ (Q (ga S2 43 v3.toNatClampNeg) S2))))))
def qX8_firstInformer (S : gS) (a1 : Int32) (a2 : Int32) (Q : Int32 → gS → Prop) : Prop :=
  lp (qX8_firstInformer_L2 a1 a2 Q) ((0 : Int32), S)
abbrev rmX8_firstInformer : Room := { frames := 1, cells := 0, slots := 0, locals := 23 }
set_option maxHeartbeats 4000000 in
set_option maxRecDepth 100000 in
theorem kX8_firstInformer (l : Launch) (D : va_G) (Y : Nat → ClassId) (A : Nat → Nat) (hI : iC A) (sz : Nat) (S : gS) (a1 : Int32) (a2 : Int32) (Q : Int32 → gS → Prop) (h : qX8_firstInformer S a1 a2 Q) : Met l yX8_firstInformer wsX8_firstInformer rmX8_firstInformer (gPc [.ref (A 7), .int a1, .int a2] sz D vwCl (tY Y) (wC Y A S)) (va_Qi Q (fun S' t => gH D vwCl (tY Y) (wC Y A S') t) (gF A 65 sz)) 0 0 (gF A 65 sz) := by
  refine gMet_i (cc := cX8_firstInformer) (maxL := 4) (by decide +kernel) rfl (Nat.le_of_ble_eq_true rfl) (fun p e s m args below meth c Z H locs hx hb hml hts hown hK hP hS hret ls hl => ?_)
  have hown : s.vm.findClass RX8 = some m.cls := hown
  have hl : lv_has ls 4 [(0, .ref (A 7)), (1, .int a1), (2, .int a2)] := hl
  have hD : ∀ S0 : gS, va_D (gF A 65 s.heap.size) (wC Y A S0) := fun S0 => dC hI S0 (fun k hk => gF_in hk)
  have k0 : ∀ w ∈ u_ws RX8 TX8 6, w ∈ wsX8_firstInformer := by decide +kernel
  have k1 := hts (.fieldLink RX8 9 "CoastWatch$Words" "size" "I") (by decide +kernel)
  have k2 := hts (.fieldLink RX8 15 "CoastWatch$Words" "informer" "[I") (by decide +kernel)
  have tL2 : ∀ (v3 : Int32) (S : gS), lp (qX8_firstInformer_L2 a1 a2 Q) (v3, S) → ∀ (H : Heap) (locs : List Loc) (ls : Array Slot), va_P D vwCl (wC Y A S) H → va_S (gF A 65 s.heap.size) s.heap H locs → lv_has ls 4 [(0, .ref (A 7)), (1, .int a1), (2, .int a2), (3, .int v3)] → W p l e rmX8_firstInformer s m args below meth c H locs 0 0 Z (F0 m 2 ls []) := by
    intro  v3 S h
    refine lp_walk (G := fun a => match a with | (v3, S) => ∀ (H : Heap) (locs : List Loc) (ls : Array Slot), va_P D vwCl (wC Y A S) H → va_S (gF A 65 s.heap.size) s.heap H locs → lv_has ls 4 [(0, .ref (A 7)), (1, .int a1), (2, .int a2), (3, .int v3)] → W p l e rmX8_firstInformer s m args below meth c H locs 0 0 Z (F0 m 2 ls [])) (fun K2 a ih2 h => ?_) (v3, S) h
    obtain ⟨v3, S⟩ := a
    have ih2 : ∀ (v3 : Int32) (S : gS), K2 (v3, S) → ∀ (H : Heap) (locs : List Loc) (ls : Array Slot), va_P D vwCl (wC Y A S) H → va_S (gF A 65 s.heap.size) s.heap H locs → lv_has ls 4 [(0, .ref (A 7)), (1, .int a1), (2, .int a2), (3, .int v3)] → W p l e rmX8_firstInformer s m args below meth c H locs 0 0 Z (F0 m 2 ls []) := fun v3 S q => ih2 (v3, S) q
    intro H locs ls hP hS hl
    refine lv_iload_n hx hb dX8_firstInformer_2 rfl (lv_at hl 3 rfl) ?_
    refine lv_aload_n hx hb dX8_firstInformer_3 rfl (lv_at hl 0 rfl) ?_
    refine va_get (ci := 8) (v := .int (gi S 8)) (C := RX8) (T := TX8) (N := 6) hx hb hts k0 hown hK hP 7 (aC7 Y A S) rfl 0 (by decide) k1 (fun _ h9 => h9) rfl dX8_firstInformer_4 ?_
    refine lv_icmp_ge (tgt := 33) hx hb dX8_firstInformer_7 (by decide) (fun c1 => ?_) (fun c1 => ?_)
    · have h := h.1 c1
      refine lv_iconst (v := (-1 : Int32)) hx hb dX8_firstInformer_33 (by decide) ?_
      exact hret _ _ _ _ _ _ dX8_firstInformer_34 h hP hS
    · have h := h.2 c1
      refine lv_aload_n hx hb dX8_firstInformer_10 rfl (lv_at hl 0 rfl) ?_
      refine lv_iload_n hx hb dX8_firstInformer_11 rfl (lv_at hl 3 rfl) ?_
      refine lv_iload_n hx hb dX8_firstInformer_12 rfl (lv_at hl 1 rfl) ?_
      refine lv_iload_n hx hb dX8_firstInformer_13 rfl (lv_at hl 2 rfl) ?_
      refine gVi (As := [.int v3, .int a1, .int a2]) (rest := []) ⟨hx, hb, hml, hown, hts⟩ (kX8_names l D Y A hI H.size S v3 a1 a2 _ h) (cwV 3 hts gX8_firstInformer_X8_names rfl rfl rfl (by decide +kernel) ⟨Nat.le_of_ble_eq_true rfl, Nat.le_of_ble_eq_true rfl⟩) hK hP hS (gF_le hS.1) (aC7 Y A S) (show vwCl[8]? = some (RX8, TX8, 6) from rfl) rfl rfl hl.1 (Nat.le_of_ble_eq_true rfl) dX8_firstInformer_14 ⟨Nat.zero_le _, Nat.zero_le _⟩ ?_
      intro r3 S2 H locs h hP hS
      refine lv_if_eq (tgt := 27) hx hb dX8_firstInformer_17 (by decide) (fun c4 => ?_) (fun c4 => ?_)
      · have h := h.1 c4
        obtain ⟨x5, ex5⟩ : ∃ z : Int32, z = v3 + (1 : Int32) := ⟨_, rfl⟩
        have h := h x5 ex5
        refine lv_iinc (v := x5) (lv' := [(3, .int x5), (0, .ref (A 7)), (1, .int a1), (2, .int a2)]) hx hb dX8_firstInformer_27 hl (k := 3) rfl (by rw [ex5]; rfl) (by decide) rfl (fun ls hl => ?_)
        refine lv_goto (tgt := 2) hx hb dX8_firstInformer_30 (by decide) ?_
        exact ih2 x5 S2 h _ _ _ hP hS (lv_sub hl [1, 2, 3, 0] rfl)
      · have h := h.2 c4
        refine lv_aload_n hx hb dX8_firstInformer_20 rfl (lv_at hl 0 rfl) ?_
        refine va_get (ci := 8) (v := .ref (A 56)) (C := RX8) (T := TX8) (N := 6) hx hb hts k0 hown hK hP 7 (aC7 Y A S2) rfl 1 (by decide) k2 (fun _ h9 => h9) rfl dX8_firstInformer_21 ?_
        refine lv_iload_n hx hb dX8_firstInformer_24 rfl (lv_at hl 3 rfl) ?_
        have v_6 := h.1
        have h := h.2
        refine va_iald hx hb hK hP 56 0 (aC56 Y A S2) rfl v_6 dX8_firstInformer_25 ?_
        exact hret _ _ _ _ _ _ dX8_firstInformer_26 h hP hS
  refine lv_iconst (v := (0 : Int32)) hx hb dX8_firstInformer_0 (by decide) ?_
  refine lv_istore_n (lv' := [(3, .int (0 : Int32)), (0, .ref (A 7)), (1, .int a1), (2, .int a2)]) hx hb dX8_firstInformer_1 rfl hl (by decide) rfl (fun ls hl => ?_)
  exact tL2  (0 : Int32) S h _ _ _ hP hS (lv_sub hl [1, 2, 3, 0] rfl)

def qX8_prove (S : gS) (a1 : Int32) (a2 : Int32) (Q : gS → Prop) : Prop :=
  (a2 = 0 → (vp_in a1 60 ∧ (vp_in (ga S 43 a1.toNatClampNeg) 6 ∧ (∀ S4 : gS, S4 = sA S 47 (upd (ga S 47) (ga S 43 a1.toNatClampNeg).toNatClampNeg ((ga S 47 (ga S 43 a1.toNatClampNeg).toNatClampNeg) + (1 : Int32))) → (Q S4))))) ∧ (¬ a2 = 0 → (vp_in a1 60 ∧ (vp_in (ga S 43 a1.toNatClampNeg) 6 ∧ (∀ S7 : gS, S7 = sA S 46 (upd (ga S 46) (ga S 43 a1.toNatClampNeg).toNatClampNeg ((ga S 46 (ga S 43 a1.toNatClampNeg).toNatClampNeg) + (1 : Int32))) → (Q S7)))))
abbrev rmX8_prove : Room := { frames := 0, cells := 0, slots := 0, locals := 0 }
set_option maxHeartbeats 4000000 in
set_option maxRecDepth 100000 in
theorem kX8_prove (l : Launch) (D : va_G) (Y : Nat → ClassId) (A : Nat → Nat) (hI : iC A) (sz : Nat) (S : gS) (a1 : Int32) (a2 : Int32) (Q : gS → Prop) (h : qX8_prove S a1 a2 Q) : Met l yX8_prove wsX8_prove rmX8_prove (gPc [.ref (A 7), .int a1, .int a2] sz D vwCl (tY Y) (wC Y A S)) (va_Qv Q (fun S' t => gH D vwCl (tY Y) (wC Y A S') t) (gF A 65 sz)) 0 0 (gF A 65 sz) := by
  refine gMet_v (cc := cX8_prove) (maxL := 3) (by decide +kernel) rfl (Nat.le_of_ble_eq_true rfl) (fun p e s m args below meth c Z H locs hx hb hml hts hown hK hP hS hret ls hl => ?_)
  have hown : s.vm.findClass RX8 = some m.cls := hown
  have hl : lv_has ls 3 [(0, .ref (A 7)), (1, .int a1), (2, .int a2)] := hl
  have hD : ∀ S0 : gS, va_D (gF A 65 s.heap.size) (wC Y A S0) := fun S0 => dC hI S0 (fun k hk => gF_in hk)
  have k0 : ∀ w ∈ u_ws RX8 TX8 6, w ∈ wsX8_prove := by decide +kernel
  have k1 := hts (.fieldLink RX8 28 "CoastWatch$Words" "wrong" "[I") (by decide +kernel)
  have k2 := hts (.fieldLink RX8 15 "CoastWatch$Words" "informer" "[I") (by decide +kernel)
  have k3 := hts (.fieldLink RX8 25 "CoastWatch$Words" "right" "[I") (by decide +kernel)
  refine lv_iload_n hx hb dX8_prove_0 rfl (lv_at hl 2 rfl) ?_
  refine lv_if_eq (tgt := 22) hx hb dX8_prove_1 (by decide) (fun c1 => ?_) (fun c1 => ?_)
  · have h := h.1 c1
    refine lv_aload_n hx hb dX8_prove_22 rfl (lv_at hl 0 rfl) ?_
    refine va_get (ci := 8) (v := .ref (A 60)) (C := RX8) (T := TX8) (N := 6) hx hb hts k0 hown hK hP 7 (aC7 Y A S) rfl 5 (by decide) k1 (fun _ h9 => h9) rfl dX8_prove_23 ?_
    refine lv_aload_n hx hb dX8_prove_26 rfl (lv_at hl 0 rfl) ?_
    refine va_get (ci := 8) (v := .ref (A 56)) (C := RX8) (T := TX8) (N := 6) hx hb hts k0 hown hK hP 7 (aC7 Y A S) rfl 1 (by decide) k2 (fun _ h9 => h9) rfl dX8_prove_27 ?_
    refine lv_iload_n hx hb dX8_prove_30 rfl (lv_at hl 1 rfl) ?_
    have v_2 := h.1
    have h := h.2
    refine va_iald hx hb hK hP 56 0 (aC56 Y A S) rfl v_2 dX8_prove_31 ?_
    refine lv_dup2_11 hx hb dX8_prove_32 rfl rfl ?_
    have v_3 := h.1
    have h := h.2
    refine va_iald hx hb hK hP 60 0 (aC60 Y A S) rfl v_3 dX8_prove_33 ?_
    refine lv_iconst (v := (1 : Int32)) hx hb dX8_prove_34 (by decide) ?_
    refine lv_iadd hx hb dX8_prove_35 ?_
    obtain ⟨S4, eS4⟩ : ∃ z : gS, z = sA S 47 (upd (ga S 47) (ga S 43 a1.toNatClampNeg).toNatClampNeg ((ga S 47 (ga S 43 a1.toNatClampNeg).toNatClampNeg) + (1 : Int32))) := ⟨_, rfl⟩
    refine va_iast hx hb hK hP (hD S) hS 60 0 (aC60 Y A S) rfl v_3 dX8_prove_36 (fun H locs hP _ hS => ?_)
    have hP := uC60 eS4 hP
    have h := h S4 eS4
    exact hret _ _ _ _ _ dX8_prove_37 h hP hS
  · have h := h.2 c1
    refine lv_aload_n hx hb dX8_prove_4 rfl (lv_at hl 0 rfl) ?_
    refine va_get (ci := 8) (v := .ref (A 59)) (C := RX8) (T := TX8) (N := 6) hx hb hts k0 hown hK hP 7 (aC7 Y A S) rfl 4 (by decide) k3 (fun _ h9 => h9) rfl dX8_prove_5 ?_
    refine lv_aload_n hx hb dX8_prove_8 rfl (lv_at hl 0 rfl) ?_
    refine va_get (ci := 8) (v := .ref (A 56)) (C := RX8) (T := TX8) (N := 6) hx hb hts k0 hown hK hP 7 (aC7 Y A S) rfl 1 (by decide) k2 (fun _ h9 => h9) rfl dX8_prove_9 ?_
    refine lv_iload_n hx hb dX8_prove_12 rfl (lv_at hl 1 rfl) ?_
    have v_5 := h.1
    have h := h.2
    refine va_iald hx hb hK hP 56 0 (aC56 Y A S) rfl v_5 dX8_prove_13 ?_
    refine lv_dup2_11 hx hb dX8_prove_14 rfl rfl ?_
    have v_6 := h.1
    have h := h.2
    refine va_iald hx hb hK hP 59 0 (aC59 Y A S) rfl v_6 dX8_prove_15 ?_
    refine lv_iconst (v := (1 : Int32)) hx hb dX8_prove_16 (by decide) ?_
    refine lv_iadd hx hb dX8_prove_17 ?_
    obtain ⟨S7, eS7⟩ : ∃ z : gS, z = sA S 46 (upd (ga S 46) (ga S 43 a1.toNatClampNeg).toNatClampNeg ((ga S 46 (ga S 43 a1.toNatClampNeg).toNatClampNeg) + (1 : Int32))) := ⟨_, rfl⟩
    refine va_iast hx hb hK hP (hD S) hS 59 0 (aC59 Y A S) rfl v_6 dX8_prove_18 (fun H locs hP _ hS => ?_)
    have hP := uC59 eS7 hP
    have h := h S7 eS7
    refine lv_goto (tgt := 37) hx hb dX8_prove_19 (by decide) ?_
    exact hret _ _ _ _ _ dX8_prove_37 h hP hS

def qX8_provedOf (S : gS) (a1 : Int32) (Q : Int32 → gS → Prop) : Prop :=
  vp_in a1 6 ∧ (Q ((ga S 46 a1.toNatClampNeg) + (ga S 47 a1.toNatClampNeg)) S)
abbrev rmX8_provedOf : Room := { frames := 0, cells := 0, slots := 0, locals := 0 }
set_option maxHeartbeats 4000000 in
set_option maxRecDepth 100000 in
theorem kX8_provedOf (l : Launch) (D : va_G) (Y : Nat → ClassId) (A : Nat → Nat) (hI : iC A) (sz : Nat) (S : gS) (a1 : Int32) (Q : Int32 → gS → Prop) (h : qX8_provedOf S a1 Q) : Met l yX8_provedOf wsX8_provedOf rmX8_provedOf (gPc [.ref (A 7), .int a1] sz D vwCl (tY Y) (wC Y A S)) (va_Qi Q (fun S' t => gH D vwCl (tY Y) (wC Y A S') t) (gF A 65 sz)) 0 0 (gF A 65 sz) := by
  refine gMet_i (cc := cX8_provedOf) (maxL := 2) (by decide +kernel) rfl (Nat.le_of_ble_eq_true rfl) (fun p e s m args below meth c Z H locs hx hb hml hts hown hK hP hS hret ls hl => ?_)
  have hown : s.vm.findClass RX8 = some m.cls := hown
  have hl : lv_has ls 2 [(0, .ref (A 7)), (1, .int a1)] := hl
  have hD : ∀ S0 : gS, va_D (gF A 65 s.heap.size) (wC Y A S0) := fun S0 => dC hI S0 (fun k hk => gF_in hk)
  have k0 : ∀ w ∈ u_ws RX8 TX8 6, w ∈ wsX8_provedOf := by decide +kernel
  have k1 := hts (.fieldLink RX8 25 "CoastWatch$Words" "right" "[I") (by decide +kernel)
  have k2 := hts (.fieldLink RX8 28 "CoastWatch$Words" "wrong" "[I") (by decide +kernel)
  refine lv_aload_n hx hb dX8_provedOf_0 rfl (lv_at hl 0 rfl) ?_
  refine va_get (ci := 8) (v := .ref (A 59)) (C := RX8) (T := TX8) (N := 6) hx hb hts k0 hown hK hP 7 (aC7 Y A S) rfl 4 (by decide) k1 (fun _ h9 => h9) rfl dX8_provedOf_1 ?_
  refine lv_iload_n hx hb dX8_provedOf_4 rfl (lv_at hl 1 rfl) ?_
  have v_1 := h.1
  have h := h.2
  refine va_iald hx hb hK hP 59 0 (aC59 Y A S) rfl v_1 dX8_provedOf_5 ?_
  refine lv_aload_n hx hb dX8_provedOf_6 rfl (lv_at hl 0 rfl) ?_
  refine va_get (ci := 8) (v := .ref (A 60)) (C := RX8) (T := TX8) (N := 6) hx hb hts k0 hown hK hP 7 (aC7 Y A S) rfl 5 (by decide) k2 (fun _ h9 => h9) rfl dX8_provedOf_7 ?_
  refine lv_iload_n hx hb dX8_provedOf_10 rfl (lv_at hl 1 rfl) ?_
  refine va_iald hx hb hK hP 60 0 (aC60 Y A S) rfl v_1 dX8_provedOf_11 ?_
  refine lv_iadd hx hb dX8_provedOf_12 ?_
  exact hret _ _ _ _ _ _ dX8_provedOf_13 h hP hS

def qX8_rightOnes_L4 (Q : Int32 → gS → Prop) (K4 : Int32 × Int32 × gS → Prop) : Int32 × Int32 × gS → Prop := fun ⟨v1, v2, S⟩ =>
  ((6 : Int32) ≤ v2 → (Q v1 S)) ∧ (¬ (6 : Int32) ≤ v2 → (vp_in v2 6 ∧ (∀ x3 : Int32, x3 = (v1 + (ga S 46 v2.toNatClampNeg)) → (∀ x4 : Int32, x4 = v2 + (1 : Int32) → (K4 (x3, x4, S))))))
def qX8_rightOnes (S : gS) (Q : Int32 → gS → Prop) : Prop :=
  lp (qX8_rightOnes_L4 Q) ((0 : Int32), (0 : Int32), S)
abbrev rmX8_rightOnes : Room := { frames := 0, cells := 0, slots := 0, locals := 0 }
set_option maxHeartbeats 4000000 in
set_option maxRecDepth 100000 in
theorem kX8_rightOnes (l : Launch) (D : va_G) (Y : Nat → ClassId) (A : Nat → Nat) (hI : iC A) (sz : Nat) (S : gS) (Q : Int32 → gS → Prop) (h : qX8_rightOnes S  Q) : Met l yX8_rightOnes wsX8_rightOnes rmX8_rightOnes (gPc [.ref (A 7)] sz D vwCl (tY Y) (wC Y A S)) (va_Qi Q (fun S' t => gH D vwCl (tY Y) (wC Y A S') t) (gF A 65 sz)) 0 0 (gF A 65 sz) := by
  refine gMet_i (cc := cX8_rightOnes) (maxL := 3) (by decide +kernel) rfl (Nat.le_of_ble_eq_true rfl) (fun p e s m args below meth c Z H locs hx hb hml hts hown hK hP hS hret ls hl => ?_)
  have hown : s.vm.findClass RX8 = some m.cls := hown
  have hl : lv_has ls 3 [(0, .ref (A 7))] := hl
  have hD : ∀ S0 : gS, va_D (gF A 65 s.heap.size) (wC Y A S0) := fun S0 => dC hI S0 (fun k hk => gF_in hk)
  have k0 : ∀ w ∈ u_ws RX8 TX8 6, w ∈ wsX8_rightOnes := by decide +kernel
  have k1 := hts (.fieldLink RX8 25 "CoastWatch$Words" "right" "[I") (by decide +kernel)
  have tL4 : ∀ (v1 : Int32) (v2 : Int32) (S : gS), lp (qX8_rightOnes_L4 Q) (v1, v2, S) → ∀ (H : Heap) (locs : List Loc) (ls : Array Slot), va_P D vwCl (wC Y A S) H → va_S (gF A 65 s.heap.size) s.heap H locs → lv_has ls 3 [(0, .ref (A 7)), (1, .int v1), (2, .int v2)] → W p l e rmX8_rightOnes s m args below meth c H locs 0 0 Z (F0 m 4 ls []) := by
    intro  v1 v2 S h
    refine lp_walk (G := fun a => match a with | (v1, v2, S) => ∀ (H : Heap) (locs : List Loc) (ls : Array Slot), va_P D vwCl (wC Y A S) H → va_S (gF A 65 s.heap.size) s.heap H locs → lv_has ls 3 [(0, .ref (A 7)), (1, .int v1), (2, .int v2)] → W p l e rmX8_rightOnes s m args below meth c H locs 0 0 Z (F0 m 4 ls [])) (fun K4 a ih4 h => ?_) (v1, v2, S) h
    obtain ⟨v1, v2, S⟩ := a
    have ih4 : ∀ (v1 : Int32) (v2 : Int32) (S : gS), K4 (v1, v2, S) → ∀ (H : Heap) (locs : List Loc) (ls : Array Slot), va_P D vwCl (wC Y A S) H → va_S (gF A 65 s.heap.size) s.heap H locs → lv_has ls 3 [(0, .ref (A 7)), (1, .int v1), (2, .int v2)] → W p l e rmX8_rightOnes s m args below meth c H locs 0 0 Z (F0 m 4 ls []) := fun v1 v2 S q => ih4 (v1, v2, S) q
    intro H locs ls hP hS hl
    refine lv_iload_n hx hb dX8_rightOnes_4 rfl (lv_at hl 2 rfl) ?_
    refine lv_bipush (v := (6 : Int32)) hx hb dX8_rightOnes_5 (by decide) ?_
    refine lv_icmp_ge (tgt := 25) hx hb dX8_rightOnes_7 (by decide) (fun c1 => ?_) (fun c1 => ?_)
    · have h := h.1 c1
      refine lv_iload_n hx hb dX8_rightOnes_25 rfl (lv_at hl 1 rfl) ?_
      exact hret _ _ _ _ _ _ dX8_rightOnes_26 h hP hS
    · have h := h.2 c1
      refine lv_iload_n hx hb dX8_rightOnes_10 rfl (lv_at hl 1 rfl) ?_
      refine lv_aload_n hx hb dX8_rightOnes_11 rfl (lv_at hl 0 rfl) ?_
      refine va_get (ci := 8) (v := .ref (A 59)) (C := RX8) (T := TX8) (N := 6) hx hb hts k0 hown hK hP 7 (aC7 Y A S) rfl 4 (by decide) k1 (fun _ h9 => h9) rfl dX8_rightOnes_12 ?_
      refine lv_iload_n hx hb dX8_rightOnes_15 rfl (lv_at hl 2 rfl) ?_
      have v_2 := h.1
      have h := h.2
      refine va_iald hx hb hK hP 59 0 (aC59 Y A S) rfl v_2 dX8_rightOnes_16 ?_
      refine lv_iadd hx hb dX8_rightOnes_17 ?_
      refine lv_topi (fun x3 ex3 => ?_)
      have h := h x3 ex3
      refine lv_istore_n (lv' := [(1, .int x3), (0, .ref (A 7)), (2, .int v2)]) hx hb dX8_rightOnes_18 rfl hl (by decide) rfl (fun ls hl => ?_)
      obtain ⟨x4, ex4⟩ : ∃ z : Int32, z = v2 + (1 : Int32) := ⟨_, rfl⟩
      have h := h x4 ex4
      refine lv_iinc (v := x4) (lv' := [(2, .int x4), (1, .int x3), (0, .ref (A 7))]) hx hb dX8_rightOnes_19 hl (k := 2) rfl (by rw [ex4]; rfl) (by decide) rfl (fun ls hl => ?_)
      refine lv_goto (tgt := 4) hx hb dX8_rightOnes_22 (by decide) ?_
      exact ih4 x3 x4 S h _ _ _ hP hS (lv_sub hl [2, 1, 0] rfl)
  refine lv_iconst (v := (0 : Int32)) hx hb dX8_rightOnes_0 (by decide) ?_
  refine lv_istore_n (lv' := [(1, .int (0 : Int32)), (0, .ref (A 7))]) hx hb dX8_rightOnes_1 rfl hl (by decide) rfl (fun ls hl => ?_)
  refine lv_iconst (v := (0 : Int32)) hx hb dX8_rightOnes_2 (by decide) ?_
  refine lv_istore_n (lv' := [(2, .int (0 : Int32)), (1, .int (0 : Int32)), (0, .ref (A 7))]) hx hb dX8_rightOnes_3 rfl hl (by decide) rfl (fun ls hl => ?_)
  exact tL4  (0 : Int32) (0 : Int32) S h _ _ _ hP hS (lv_sub hl [2, 1, 0] rfl)

def qX8_wrongOnes_L4 (Q : Int32 → gS → Prop) (K4 : Int32 × Int32 × gS → Prop) : Int32 × Int32 × gS → Prop := fun ⟨v1, v2, S⟩ =>
  ((6 : Int32) ≤ v2 → (Q v1 S)) ∧ (¬ (6 : Int32) ≤ v2 → (vp_in v2 6 ∧ (∀ x3 : Int32, x3 = (v1 + (ga S 47 v2.toNatClampNeg)) → (∀ x4 : Int32, x4 = v2 + (1 : Int32) → (K4 (x3, x4, S))))))
def qX8_wrongOnes (S : gS) (Q : Int32 → gS → Prop) : Prop :=
  lp (qX8_wrongOnes_L4 Q) ((0 : Int32), (0 : Int32), S)
abbrev rmX8_wrongOnes : Room := { frames := 0, cells := 0, slots := 0, locals := 0 }
set_option maxHeartbeats 4000000 in
set_option maxRecDepth 100000 in
theorem kX8_wrongOnes (l : Launch) (D : va_G) (Y : Nat → ClassId) (A : Nat → Nat) (hI : iC A) (sz : Nat) (S : gS) (Q : Int32 → gS → Prop) (h : qX8_wrongOnes S  Q) : Met l yX8_wrongOnes wsX8_wrongOnes rmX8_wrongOnes (gPc [.ref (A 7)] sz D vwCl (tY Y) (wC Y A S)) (va_Qi Q (fun S' t => gH D vwCl (tY Y) (wC Y A S') t) (gF A 65 sz)) 0 0 (gF A 65 sz) := by
  refine gMet_i (cc := cX8_wrongOnes) (maxL := 3) (by decide +kernel) rfl (Nat.le_of_ble_eq_true rfl) (fun p e s m args below meth c Z H locs hx hb hml hts hown hK hP hS hret ls hl => ?_)
  have hown : s.vm.findClass RX8 = some m.cls := hown
  have hl : lv_has ls 3 [(0, .ref (A 7))] := hl
  have hD : ∀ S0 : gS, va_D (gF A 65 s.heap.size) (wC Y A S0) := fun S0 => dC hI S0 (fun k hk => gF_in hk)
  have k0 : ∀ w ∈ u_ws RX8 TX8 6, w ∈ wsX8_wrongOnes := by decide +kernel
  have k1 := hts (.fieldLink RX8 28 "CoastWatch$Words" "wrong" "[I") (by decide +kernel)
  have tL4 : ∀ (v1 : Int32) (v2 : Int32) (S : gS), lp (qX8_wrongOnes_L4 Q) (v1, v2, S) → ∀ (H : Heap) (locs : List Loc) (ls : Array Slot), va_P D vwCl (wC Y A S) H → va_S (gF A 65 s.heap.size) s.heap H locs → lv_has ls 3 [(0, .ref (A 7)), (1, .int v1), (2, .int v2)] → W p l e rmX8_wrongOnes s m args below meth c H locs 0 0 Z (F0 m 4 ls []) := by
    intro  v1 v2 S h
    refine lp_walk (G := fun a => match a with | (v1, v2, S) => ∀ (H : Heap) (locs : List Loc) (ls : Array Slot), va_P D vwCl (wC Y A S) H → va_S (gF A 65 s.heap.size) s.heap H locs → lv_has ls 3 [(0, .ref (A 7)), (1, .int v1), (2, .int v2)] → W p l e rmX8_wrongOnes s m args below meth c H locs 0 0 Z (F0 m 4 ls [])) (fun K4 a ih4 h => ?_) (v1, v2, S) h
    obtain ⟨v1, v2, S⟩ := a
    have ih4 : ∀ (v1 : Int32) (v2 : Int32) (S : gS), K4 (v1, v2, S) → ∀ (H : Heap) (locs : List Loc) (ls : Array Slot), va_P D vwCl (wC Y A S) H → va_S (gF A 65 s.heap.size) s.heap H locs → lv_has ls 3 [(0, .ref (A 7)), (1, .int v1), (2, .int v2)] → W p l e rmX8_wrongOnes s m args below meth c H locs 0 0 Z (F0 m 4 ls []) := fun v1 v2 S q => ih4 (v1, v2, S) q
    intro H locs ls hP hS hl
    refine lv_iload_n hx hb dX8_wrongOnes_4 rfl (lv_at hl 2 rfl) ?_
    refine lv_bipush (v := (6 : Int32)) hx hb dX8_wrongOnes_5 (by decide) ?_
    refine lv_icmp_ge (tgt := 25) hx hb dX8_wrongOnes_7 (by decide) (fun c1 => ?_) (fun c1 => ?_)
    · have h := h.1 c1
      refine lv_iload_n hx hb dX8_wrongOnes_25 rfl (lv_at hl 1 rfl) ?_
      exact hret _ _ _ _ _ _ dX8_wrongOnes_26 h hP hS
    · have h := h.2 c1
      refine lv_iload_n hx hb dX8_wrongOnes_10 rfl (lv_at hl 1 rfl) ?_
      refine lv_aload_n hx hb dX8_wrongOnes_11 rfl (lv_at hl 0 rfl) ?_
      refine va_get (ci := 8) (v := .ref (A 60)) (C := RX8) (T := TX8) (N := 6) hx hb hts k0 hown hK hP 7 (aC7 Y A S) rfl 5 (by decide) k1 (fun _ h9 => h9) rfl dX8_wrongOnes_12 ?_
      refine lv_iload_n hx hb dX8_wrongOnes_15 rfl (lv_at hl 2 rfl) ?_
      have v_2 := h.1
      have h := h.2
      refine va_iald hx hb hK hP 60 0 (aC60 Y A S) rfl v_2 dX8_wrongOnes_16 ?_
      refine lv_iadd hx hb dX8_wrongOnes_17 ?_
      refine lv_topi (fun x3 ex3 => ?_)
      have h := h x3 ex3
      refine lv_istore_n (lv' := [(1, .int x3), (0, .ref (A 7)), (2, .int v2)]) hx hb dX8_wrongOnes_18 rfl hl (by decide) rfl (fun ls hl => ?_)
      obtain ⟨x4, ex4⟩ : ∃ z : Int32, z = v2 + (1 : Int32) := ⟨_, rfl⟩
      have h := h x4 ex4
      refine lv_iinc (v := x4) (lv' := [(2, .int x4), (1, .int x3), (0, .ref (A 7))]) hx hb dX8_wrongOnes_19 hl (k := 2) rfl (by rw [ex4]; rfl) (by decide) rfl (fun ls hl => ?_)
      refine lv_goto (tgt := 4) hx hb dX8_wrongOnes_22 (by decide) ?_
      exact ih4 x3 x4 S h _ _ _ hP hS (lv_sub hl [2, 1, 0] rfl)
  refine lv_iconst (v := (0 : Int32)) hx hb dX8_wrongOnes_0 (by decide) ?_
  refine lv_istore_n (lv' := [(1, .int (0 : Int32)), (0, .ref (A 7))]) hx hb dX8_wrongOnes_1 rfl hl (by decide) rfl (fun ls hl => ?_)
  refine lv_iconst (v := (0 : Int32)) hx hb dX8_wrongOnes_2 (by decide) ?_
  refine lv_istore_n (lv' := [(2, .int (0 : Int32)), (1, .int (0 : Int32)), (0, .ref (A 7))]) hx hb dX8_wrongOnes_3 rfl hl (by decide) rfl (fun ls hl => ?_)
  exact tL4  (0 : Int32) (0 : Int32) S h _ _ _ hP hS (lv_sub hl [2, 1, 0] rfl)

def qX8_doubtAbove_L5 (a1 : Int32) (a2 : Int32) (Q : Int64 → gS → Prop) (K5 : Int64 × Int32 × gS → Prop) : Int64 × Int32 × gS → Prop := fun ⟨v3, v5, S⟩ =>
  ((gi S 8) ≤ v5 → (Q v3 S)) ∧ (¬ (gi S 8) ≤ v5 → (qX8_names S v5 a1 a2 (fun r3 S2 => (r3 = 0 → (∀ x5 : Int32, x5 = v5 + (1 : Int32) → (K5 (v3, x5, S2)))) ∧ (¬ r3 = 0 → (vp_in v5 60 ∧ (vp_in (ga S2 43 v5.toNatClampNeg) 6 ∧ (∀ x8 : Int64, x8 = (v3 * ((ga S2 47 (ga S2 43 v5.toNatClampNeg).toNatClampNeg) + (1 : Int32)).toInt64) → (∀ x9 : Int32, x9 = v5 + (1 : Int32) → (K5 (x8, x9, S2))))))))))
def qX8_doubtAbove (S : gS) (a1 : Int32) (a2 : Int32) (Q : Int64 → gS → Prop) : Prop :=
  lp (qX8_doubtAbove_L5 a1 a2 Q) ((1 : Int64), (0 : Int32), S)
abbrev rmX8_doubtAbove : Room := { frames := 1, cells := 0, slots := 0, locals := 23 }
set_option maxHeartbeats 4000000 in
set_option maxRecDepth 100000 in
theorem kX8_doubtAbove (l : Launch) (D : va_G) (Y : Nat → ClassId) (A : Nat → Nat) (hI : iC A) (sz : Nat) (S : gS) (a1 : Int32) (a2 : Int32) (Q : Int64 → gS → Prop) (h : qX8_doubtAbove S a1 a2 Q) : Met l yX8_doubtAbove wsX8_doubtAbove rmX8_doubtAbove (gPc [.ref (A 7), .int a1, .int a2] sz D vwCl (tY Y) (wC Y A S)) (va_Ql Q (fun S' t => gH D vwCl (tY Y) (wC Y A S') t) (gF A 65 sz)) 0 0 (gF A 65 sz) := by
  refine gMet_l (cc := cX8_doubtAbove) (maxL := 6) (by decide +kernel) rfl (Nat.le_of_ble_eq_true rfl) (fun p e s m args below meth c Z H locs hx hb hml hts hown hK hP hS hret ls hl => ?_)
  have hown : s.vm.findClass RX8 = some m.cls := hown
  have hl : lv_has ls 6 [(0, .ref (A 7)), (1, .int a1), (2, .int a2)] := hl
  have hD : ∀ S0 : gS, va_D (gF A 65 s.heap.size) (wC Y A S0) := fun S0 => dC hI S0 (fun k hk => gF_in hk)
  have k0 : ∀ w ∈ u_ws RX8 TX8 6, w ∈ wsX8_doubtAbove := by decide +kernel
  have k1 := hts (.fieldLink RX8 9 "CoastWatch$Words" "size" "I") (by decide +kernel)
  have k2 := hts (.fieldLink RX8 28 "CoastWatch$Words" "wrong" "[I") (by decide +kernel)
  have k3 := hts (.fieldLink RX8 15 "CoastWatch$Words" "informer" "[I") (by decide +kernel)
  have tL5 : ∀ (v3 : Int64) (v5 : Int32) (S : gS), lp (qX8_doubtAbove_L5 a1 a2 Q) (v3, v5, S) → ∀ (H : Heap) (locs : List Loc) (ls : Array Slot), va_P D vwCl (wC Y A S) H → va_S (gF A 65 s.heap.size) s.heap H locs → lv_has ls 6 [(0, .ref (A 7)), (1, .int a1), (2, .int a2), (3, .long v3), (5, .int v5)] → W p l e rmX8_doubtAbove s m args below meth c H locs 0 0 Z (F0 m 5 ls []) := by
    intro  v3 v5 S h
    refine lp_walk (G := fun a => match a with | (v3, v5, S) => ∀ (H : Heap) (locs : List Loc) (ls : Array Slot), va_P D vwCl (wC Y A S) H → va_S (gF A 65 s.heap.size) s.heap H locs → lv_has ls 6 [(0, .ref (A 7)), (1, .int a1), (2, .int a2), (3, .long v3), (5, .int v5)] → W p l e rmX8_doubtAbove s m args below meth c H locs 0 0 Z (F0 m 5 ls [])) (fun K5 a ih5 h => ?_) (v3, v5, S) h
    obtain ⟨v3, v5, S⟩ := a
    have ih5 : ∀ (v3 : Int64) (v5 : Int32) (S : gS), K5 (v3, v5, S) → ∀ (H : Heap) (locs : List Loc) (ls : Array Slot), va_P D vwCl (wC Y A S) H → va_S (gF A 65 s.heap.size) s.heap H locs → lv_has ls 6 [(0, .ref (A 7)), (1, .int a1), (2, .int a2), (3, .long v3), (5, .int v5)] → W p l e rmX8_doubtAbove s m args below meth c H locs 0 0 Z (F0 m 5 ls []) := fun v3 v5 S q => ih5 (v3, v5, S) q
    intro H locs ls hP hS hl
    refine lv_iload hx hb dX8_doubtAbove_5 (lv_at hl 4 rfl) ?_
    refine lv_aload_n hx hb dX8_doubtAbove_7 rfl (lv_at hl 0 rfl) ?_
    refine va_get (ci := 8) (v := .int (gi S 8)) (C := RX8) (T := TX8) (N := 6) hx hb hts k0 hown hK hP 7 (aC7 Y A S) rfl 0 (by decide) k1 (fun _ h9 => h9) rfl dX8_doubtAbove_8 ?_
    refine lv_icmp_ge (tgt := 49) hx hb dX8_doubtAbove_11 (by decide) (fun c1 => ?_) (fun c1 => ?_)
    · have h := h.1 c1
      refine lv_lload_n hx hb dX8_doubtAbove_49 rfl (lv_at hl 3 rfl) ?_
      exact hret _ _ _ _ _ _ dX8_doubtAbove_50 h hP hS
    · have h := h.2 c1
      refine lv_aload_n hx hb dX8_doubtAbove_14 rfl (lv_at hl 0 rfl) ?_
      refine lv_iload hx hb dX8_doubtAbove_15 (lv_at hl 4 rfl) ?_
      refine lv_iload_n hx hb dX8_doubtAbove_17 rfl (lv_at hl 1 rfl) ?_
      refine lv_iload_n hx hb dX8_doubtAbove_18 rfl (lv_at hl 2 rfl) ?_
      refine gVi (As := [.int v5, .int a1, .int a2]) (rest := []) ⟨hx, hb, hml, hown, hts⟩ (kX8_names l D Y A hI H.size S v5 a1 a2 _ h) (cwV 3 hts gX8_doubtAbove_X8_names rfl rfl rfl (by decide +kernel) ⟨Nat.le_of_ble_eq_true rfl, Nat.le_of_ble_eq_true rfl⟩) hK hP hS (gF_le hS.1) (aC7 Y A S) (show vwCl[8]? = some (RX8, TX8, 6) from rfl) rfl rfl hl.1 (Nat.le_of_ble_eq_true rfl) dX8_doubtAbove_19 ⟨Nat.zero_le _, Nat.zero_le _⟩ ?_
      intro r3 S2 H locs h hP hS
      refine lv_if_eq (tgt := 43) hx hb dX8_doubtAbove_22 (by decide) (fun c4 => ?_) (fun c4 => ?_)
      · have h := h.1 c4
        obtain ⟨x5, ex5⟩ : ∃ z : Int32, z = v5 + (1 : Int32) := ⟨_, rfl⟩
        have h := h x5 ex5
        refine lv_iinc (v := x5) (lv' := [(5, .int x5), (0, .ref (A 7)), (1, .int a1), (2, .int a2), (3, .long v3)]) hx hb dX8_doubtAbove_43 hl (k := 4) rfl (by rw [ex5]; rfl) (by decide) rfl (fun ls hl => ?_)
        refine lv_goto (tgt := 5) hx hb dX8_doubtAbove_46 (by decide) ?_
        exact ih5 v3 x5 S2 h _ _ _ hP hS (lv_sub hl [1, 2, 3, 4, 0] rfl)
      · have h := h.2 c4
        refine lv_lload_n hx hb dX8_doubtAbove_25 rfl (lv_at hl 3 rfl) ?_
        refine lv_aload_n hx hb dX8_doubtAbove_26 rfl (lv_at hl 0 rfl) ?_
        refine va_get (ci := 8) (v := .ref (A 60)) (C := RX8) (T := TX8) (N := 6) hx hb hts k0 hown hK hP 7 (aC7 Y A S2) rfl 5 (by decide) k2 (fun _ h9 => h9) rfl dX8_doubtAbove_27 ?_
        refine lv_aload_n hx hb dX8_doubtAbove_30 rfl (lv_at hl 0 rfl) ?_
        refine va_get (ci := 8) (v := .ref (A 56)) (C := RX8) (T := TX8) (N := 6) hx hb hts k0 hown hK hP 7 (aC7 Y A S2) rfl 1 (by decide) k3 (fun _ h9 => h9) rfl dX8_doubtAbove_31 ?_
        refine lv_iload hx hb dX8_doubtAbove_34 (lv_at hl 4 rfl) ?_
        have v_6 := h.1
        have h := h.2
        refine va_iald hx hb hK hP 56 0 (aC56 Y A S2) rfl v_6 dX8_doubtAbove_36 ?_
        have v_7 := h.1
        have h := h.2
        refine va_iald hx hb hK hP 60 0 (aC60 Y A S2) rfl v_7 dX8_doubtAbove_37 ?_
        refine lv_iconst (v := (1 : Int32)) hx hb dX8_doubtAbove_38 (by decide) ?_
        refine lv_iadd hx hb dX8_doubtAbove_39 ?_
        refine lv_i2l hx hb dX8_doubtAbove_40 rfl ?_
        refine lv_lmul hx hb dX8_doubtAbove_41 ?_
        refine lv_topl (fun x8 ex8 => ?_)
        have h := h x8 ex8
        refine lv_lstore_n (lv' := [(3, .long x8), (0, .ref (A 7)), (1, .int a1), (2, .int a2), (5, .int v5)]) hx hb dX8_doubtAbove_42 rfl hl (by decide) rfl (fun ls hl => ?_)
        obtain ⟨x9, ex9⟩ : ∃ z : Int32, z = v5 + (1 : Int32) := ⟨_, rfl⟩
        have h := h x9 ex9
        refine lv_iinc (v := x9) (lv' := [(5, .int x9), (3, .long x8), (0, .ref (A 7)), (1, .int a1), (2, .int a2)]) hx hb dX8_doubtAbove_43 hl (k := 4) rfl (by rw [ex9]; rfl) (by decide) rfl (fun ls hl => ?_)
        refine lv_goto (tgt := 5) hx hb dX8_doubtAbove_46 (by decide) ?_
        exact ih5 x8 x9 S2 h _ _ _ hP hS (lv_sub hl [2, 3, 4, 1, 0] rfl)
  refine lv_lconst (v := (1 : Int64)) hx hb dX8_doubtAbove_0 (by decide) ?_
  refine lv_lstore_n (lv' := [(3, .long (1 : Int64)), (0, .ref (A 7)), (1, .int a1), (2, .int a2)]) hx hb dX8_doubtAbove_1 rfl hl (by decide) rfl (fun ls hl => ?_)
  refine lv_iconst (v := (0 : Int32)) hx hb dX8_doubtAbove_2 (by decide) ?_
  refine lv_istore (lv' := [(5, .int (0 : Int32)), (3, .long (1 : Int64)), (0, .ref (A 7)), (1, .int a1), (2, .int a2)]) hx hb dX8_doubtAbove_3 hl (by decide) rfl (fun ls hl => ?_)
  exact tL5  (1 : Int64) (0 : Int32) S h _ _ _ hP hS (lv_sub hl [2, 3, 4, 1, 0] rfl)

def qX8_doubtBelow_L5 (a1 : Int32) (a2 : Int32) (Q : Int64 → gS → Prop) (K5 : Int64 × Int32 × gS → Prop) : Int64 × Int32 × gS → Prop := fun ⟨v3, v5, S⟩ =>
  ((gi S 8) ≤ v5 → (Q v3 S)) ∧ (¬ (gi S 8) ≤ v5 → (qX8_names S v5 a1 a2 (fun r3 S2 => (r3 = 0 → (∀ x5 : Int32, x5 = v5 + (1 : Int32) → (K5 (v3, x5, S2)))) ∧ (¬ r3 = 0 → (vp_in v5 60 ∧ (qX8_provedOf S2 (ga S2 43 v5.toNatClampNeg) (fun r8 S7 => ∀ x9 : Int64, x9 = (v3 * (r8 + (2 : Int32)).toInt64) → (∀ x10 : Int32, x10 = v5 + (1 : Int32) → (K5 (x9, x10, S7))))))))))
def qX8_doubtBelow (S : gS) (a1 : Int32) (a2 : Int32) (Q : Int64 → gS → Prop) : Prop :=
  lp (qX8_doubtBelow_L5 a1 a2 Q) ((1 : Int64), (0 : Int32), S)
abbrev rmX8_doubtBelow : Room := { frames := 1, cells := 0, slots := 0, locals := 23 }
set_option maxHeartbeats 4000000 in
set_option maxRecDepth 100000 in
theorem kX8_doubtBelow (l : Launch) (D : va_G) (Y : Nat → ClassId) (A : Nat → Nat) (hI : iC A) (sz : Nat) (S : gS) (a1 : Int32) (a2 : Int32) (Q : Int64 → gS → Prop) (h : qX8_doubtBelow S a1 a2 Q) : Met l yX8_doubtBelow wsX8_doubtBelow rmX8_doubtBelow (gPc [.ref (A 7), .int a1, .int a2] sz D vwCl (tY Y) (wC Y A S)) (va_Ql Q (fun S' t => gH D vwCl (tY Y) (wC Y A S') t) (gF A 65 sz)) 0 0 (gF A 65 sz) := by
  refine gMet_l (cc := cX8_doubtBelow) (maxL := 6) (by decide +kernel) rfl (Nat.le_of_ble_eq_true rfl) (fun p e s m args below meth c Z H locs hx hb hml hts hown hK hP hS hret ls hl => ?_)
  have hown : s.vm.findClass RX8 = some m.cls := hown
  have hl : lv_has ls 6 [(0, .ref (A 7)), (1, .int a1), (2, .int a2)] := hl
  have hD : ∀ S0 : gS, va_D (gF A 65 s.heap.size) (wC Y A S0) := fun S0 => dC hI S0 (fun k hk => gF_in hk)
  have k0 : ∀ w ∈ u_ws RX8 TX8 6, w ∈ wsX8_doubtBelow := by decide +kernel
  have k1 := hts (.fieldLink RX8 9 "CoastWatch$Words" "size" "I") (by decide +kernel)
  have k2 := hts (.fieldLink RX8 15 "CoastWatch$Words" "informer" "[I") (by decide +kernel)
  have tL5 : ∀ (v3 : Int64) (v5 : Int32) (S : gS), lp (qX8_doubtBelow_L5 a1 a2 Q) (v3, v5, S) → ∀ (H : Heap) (locs : List Loc) (ls : Array Slot), va_P D vwCl (wC Y A S) H → va_S (gF A 65 s.heap.size) s.heap H locs → lv_has ls 6 [(0, .ref (A 7)), (1, .int a1), (2, .int a2), (3, .long v3), (5, .int v5)] → W p l e rmX8_doubtBelow s m args below meth c H locs 0 0 Z (F0 m 5 ls []) := by
    intro  v3 v5 S h
    refine lp_walk (G := fun a => match a with | (v3, v5, S) => ∀ (H : Heap) (locs : List Loc) (ls : Array Slot), va_P D vwCl (wC Y A S) H → va_S (gF A 65 s.heap.size) s.heap H locs → lv_has ls 6 [(0, .ref (A 7)), (1, .int a1), (2, .int a2), (3, .long v3), (5, .int v5)] → W p l e rmX8_doubtBelow s m args below meth c H locs 0 0 Z (F0 m 5 ls [])) (fun K5 a ih5 h => ?_) (v3, v5, S) h
    obtain ⟨v3, v5, S⟩ := a
    have ih5 : ∀ (v3 : Int64) (v5 : Int32) (S : gS), K5 (v3, v5, S) → ∀ (H : Heap) (locs : List Loc) (ls : Array Slot), va_P D vwCl (wC Y A S) H → va_S (gF A 65 s.heap.size) s.heap H locs → lv_has ls 6 [(0, .ref (A 7)), (1, .int a1), (2, .int a2), (3, .long v3), (5, .int v5)] → W p l e rmX8_doubtBelow s m args below meth c H locs 0 0 Z (F0 m 5 ls []) := fun v3 v5 S q => ih5 (v3, v5, S) q
    intro H locs ls hP hS hl
    refine lv_iload hx hb dX8_doubtBelow_5 (lv_at hl 4 rfl) ?_
    refine lv_aload_n hx hb dX8_doubtBelow_7 rfl (lv_at hl 0 rfl) ?_
    refine va_get (ci := 8) (v := .int (gi S 8)) (C := RX8) (T := TX8) (N := 6) hx hb hts k0 hown hK hP 7 (aC7 Y A S) rfl 0 (by decide) k1 (fun _ h9 => h9) rfl dX8_doubtBelow_8 ?_
    refine lv_icmp_ge (tgt := 48) hx hb dX8_doubtBelow_11 (by decide) (fun c1 => ?_) (fun c1 => ?_)
    · have h := h.1 c1
      refine lv_lload_n hx hb dX8_doubtBelow_48 rfl (lv_at hl 3 rfl) ?_
      exact hret _ _ _ _ _ _ dX8_doubtBelow_49 h hP hS
    · have h := h.2 c1
      refine lv_aload_n hx hb dX8_doubtBelow_14 rfl (lv_at hl 0 rfl) ?_
      refine lv_iload hx hb dX8_doubtBelow_15 (lv_at hl 4 rfl) ?_
      refine lv_iload_n hx hb dX8_doubtBelow_17 rfl (lv_at hl 1 rfl) ?_
      refine lv_iload_n hx hb dX8_doubtBelow_18 rfl (lv_at hl 2 rfl) ?_
      refine gVi (As := [.int v5, .int a1, .int a2]) (rest := []) ⟨hx, hb, hml, hown, hts⟩ (kX8_names l D Y A hI H.size S v5 a1 a2 _ h) (cwV 3 hts gX8_doubtBelow_X8_names rfl rfl rfl (by decide +kernel) ⟨Nat.le_of_ble_eq_true rfl, Nat.le_of_ble_eq_true rfl⟩) hK hP hS (gF_le hS.1) (aC7 Y A S) (show vwCl[8]? = some (RX8, TX8, 6) from rfl) rfl rfl hl.1 (Nat.le_of_ble_eq_true rfl) dX8_doubtBelow_19 ⟨Nat.zero_le _, Nat.zero_le _⟩ ?_
      intro r3 S2 H locs h hP hS
      refine lv_if_eq (tgt := 42) hx hb dX8_doubtBelow_22 (by decide) (fun c4 => ?_) (fun c4 => ?_)
      · have h := h.1 c4
        obtain ⟨x5, ex5⟩ : ∃ z : Int32, z = v5 + (1 : Int32) := ⟨_, rfl⟩
        have h := h x5 ex5
        refine lv_iinc (v := x5) (lv' := [(5, .int x5), (0, .ref (A 7)), (1, .int a1), (2, .int a2), (3, .long v3)]) hx hb dX8_doubtBelow_42 hl (k := 4) rfl (by rw [ex5]; rfl) (by decide) rfl (fun ls hl => ?_)
        refine lv_goto (tgt := 5) hx hb dX8_doubtBelow_45 (by decide) ?_
        exact ih5 v3 x5 S2 h _ _ _ hP hS (lv_sub hl [1, 2, 3, 4, 0] rfl)
      · have h := h.2 c4
        refine lv_lload_n hx hb dX8_doubtBelow_25 rfl (lv_at hl 3 rfl) ?_
        refine lv_aload_n hx hb dX8_doubtBelow_26 rfl (lv_at hl 0 rfl) ?_
        refine lv_aload_n hx hb dX8_doubtBelow_27 rfl (lv_at hl 0 rfl) ?_
        refine va_get (ci := 8) (v := .ref (A 56)) (C := RX8) (T := TX8) (N := 6) hx hb hts k0 hown hK hP 7 (aC7 Y A S2) rfl 1 (by decide) k2 (fun _ h9 => h9) rfl dX8_doubtBelow_28 ?_
        refine lv_iload hx hb dX8_doubtBelow_31 (lv_at hl 4 rfl) ?_
        have v_6 := h.1
        have h := h.2
        refine va_iald hx hb hK hP 56 0 (aC56 Y A S2) rfl v_6 dX8_doubtBelow_33 ?_
        refine gVi (As := [.int (ga S2 43 v5.toNatClampNeg)]) (rest := [.long v3]) ⟨hx, hb, hml, hown, hts⟩ (kX8_provedOf l D Y A hI H.size S2 (ga S2 43 v5.toNatClampNeg) _ h) (cwV 1 hts gX8_doubtBelow_X8_provedOf rfl rfl rfl (by decide +kernel) ⟨Nat.le_of_ble_eq_true rfl, Nat.le_of_ble_eq_true rfl⟩) hK hP hS (gF_le hS.1) (aC7 Y A S2) (show vwCl[8]? = some (RX8, TX8, 6) from rfl) rfl rfl hl.1 (Nat.le_of_ble_eq_true rfl) dX8_doubtBelow_34 ⟨Nat.zero_le _, Nat.zero_le _⟩ ?_
        intro r8 S7 H locs h hP hS
        refine lv_iconst (v := (2 : Int32)) hx hb dX8_doubtBelow_37 (by decide) ?_
        refine lv_iadd hx hb dX8_doubtBelow_38 ?_
        refine lv_i2l hx hb dX8_doubtBelow_39 rfl ?_
        refine lv_lmul hx hb dX8_doubtBelow_40 ?_
        refine lv_topl (fun x9 ex9 => ?_)
        have h := h x9 ex9
        refine lv_lstore_n (lv' := [(3, .long x9), (0, .ref (A 7)), (1, .int a1), (2, .int a2), (5, .int v5)]) hx hb dX8_doubtBelow_41 rfl hl (by decide) rfl (fun ls hl => ?_)
        obtain ⟨x10, ex10⟩ : ∃ z : Int32, z = v5 + (1 : Int32) := ⟨_, rfl⟩
        have h := h x10 ex10
        refine lv_iinc (v := x10) (lv' := [(5, .int x10), (3, .long x9), (0, .ref (A 7)), (1, .int a1), (2, .int a2)]) hx hb dX8_doubtBelow_42 hl (k := 4) rfl (by rw [ex10]; rfl) (by decide) rfl (fun ls hl => ?_)
        refine lv_goto (tgt := 5) hx hb dX8_doubtBelow_45 (by decide) ?_
        exact ih5 x9 x10 S7 h _ _ _ hP hS (lv_sub hl [2, 3, 4, 1, 0] rfl)
  refine lv_lconst (v := (1 : Int64)) hx hb dX8_doubtBelow_0 (by decide) ?_
  refine lv_lstore_n (lv' := [(3, .long (1 : Int64)), (0, .ref (A 7)), (1, .int a1), (2, .int a2)]) hx hb dX8_doubtBelow_1 rfl hl (by decide) rfl (fun ls hl => ?_)
  refine lv_iconst (v := (0 : Int32)) hx hb dX8_doubtBelow_2 (by decide) ?_
  refine lv_istore (lv' := [(5, .int (0 : Int32)), (3, .long (1 : Int64)), (0, .ref (A 7)), (1, .int a1), (2, .int a2)]) hx hb dX8_doubtBelow_3 hl (by decide) rfl (fun ls hl => ?_)
  exact tL5  (1 : Int64) (0 : Int32) S h _ _ _ hP hS (lv_sub hl [2, 3, 4, 1, 0] rfl)
end
