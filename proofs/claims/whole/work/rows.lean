section
-- ===== PART A: goes FIRST, ahead of the names: the tables' words, and 'selects' of the private methods out of them =====
/-- a private method of a class that the tables say can be made, by its rows of tables_1 -/
def lw_okq (q : MethodName × Nat) : Prop := (q.1.cls ≠ "java/lang/invoke/MethodHandle" ∧ q.1.cls ≠ "java/lang/invoke/VarHandle") ∧ Cond.instantiable q.1.cls q.2 ∈ tables_1 ∧ Cond.privateMethod q.1 ∈ tables_1 ∧ Cond.instanceMethod q.1 ∈ tables_1
theorem lw_p0 : lw_okq (⟨"WingLooks", "isPanel", "(I)Z"⟩, 8) := ⟨⟨by decide +kernel, by decide +kernel⟩, List.mem_of_getElem? (i := 14) (by decide +kernel), List.mem_of_getElem? (i := 266) (by decide +kernel), List.mem_of_getElem? (i := 267) (by decide +kernel)⟩
theorem lw_p1 : lw_okq (⟨"WingLooks$Wings", "isTouched", "(IIIII)Z"⟩, 7) := ⟨⟨by decide +kernel, by decide +kernel⟩, List.mem_of_getElem? (i := 22) (by decide +kernel), List.mem_of_getElem? (i := 275) (by decide +kernel), List.mem_of_getElem? (i := 276) (by decide +kernel)⟩
theorem lw_p2 : lw_okq (⟨"WingLooks", "isViewSet", "(I)Z"⟩, 8) := ⟨⟨by decide +kernel, by decide +kernel⟩, List.mem_of_getElem? (i := 14) (by decide +kernel), List.mem_of_getElem? (i := 335) (by decide +kernel), List.mem_of_getElem? (i := 336) (by decide +kernel)⟩
theorem lw_p3 : lw_okq (⟨"WingLooks", "forgetRoutes", "()V"⟩, 8) := ⟨⟨by decide +kernel, by decide +kernel⟩, List.mem_of_getElem? (i := 14) (by decide +kernel), List.mem_of_getElem? (i := 352) (by decide +kernel), List.mem_of_getElem? (i := 353) (by decide +kernel)⟩
theorem lw_p4 : lw_okq (⟨"WingLooks$Air", "goesInto", "(IIIII)Z"⟩, 7) := ⟨⟨by decide +kernel, by decide +kernel⟩, List.mem_of_getElem? (i := 95) (by decide +kernel), List.mem_of_getElem? (i := 384) (by decide +kernel), List.mem_of_getElem? (i := 385) (by decide +kernel)⟩
theorem lw_p5 : lw_okq (⟨"WingLooks", "routesFor", "(I)LWingLooks$Routes;"⟩, 8) := ⟨⟨by decide +kernel, by decide +kernel⟩, List.mem_of_getElem? (i := 14) (by decide +kernel), List.mem_of_getElem? (i := 402) (by decide +kernel), List.mem_of_getElem? (i := 403) (by decide +kernel)⟩
theorem lw_p6 : lw_okq (⟨"WingLooks$Routes", "measureLegs", "(I)V"⟩, 9) := ⟨⟨by decide +kernel, by decide +kernel⟩, List.mem_of_getElem? (i := 406) (by decide +kernel), List.mem_of_getElem? (i := 444) (by decide +kernel), List.mem_of_getElem? (i := 445) (by decide +kernel)⟩
theorem lw_p7 : lw_okq (⟨"WingLooks$Routes", "xOf", "(I)I"⟩, 9) := ⟨⟨by decide +kernel, by decide +kernel⟩, List.mem_of_getElem? (i := 406) (by decide +kernel), List.mem_of_getElem? (i := 451) (by decide +kernel), List.mem_of_getElem? (i := 452) (by decide +kernel)⟩
theorem lw_p8 : lw_okq (⟨"WingLooks$Routes", "yOf", "(I)I"⟩, 9) := ⟨⟨by decide +kernel, by decide +kernel⟩, List.mem_of_getElem? (i := 406) (by decide +kernel), List.mem_of_getElem? (i := 455) (by decide +kernel), List.mem_of_getElem? (i := 456) (by decide +kernel)⟩
theorem lw_p9 : lw_okq (⟨"WingLooks$Routes", "fillTails", "(I)V"⟩, 9) := ⟨⟨by decide +kernel, by decide +kernel⟩, List.mem_of_getElem? (i := 406) (by decide +kernel), List.mem_of_getElem? (i := 462) (by decide +kernel), List.mem_of_getElem? (i := 463) (by decide +kernel)⟩
theorem lw_p10 : lw_okq (⟨"WingLooks$Routes", "costFrom", "(II)I"⟩, 9) := ⟨⟨by decide +kernel, by decide +kernel⟩, List.mem_of_getElem? (i := 406) (by decide +kernel), List.mem_of_getElem? (i := 466) (by decide +kernel), List.mem_of_getElem? (i := 467) (by decide +kernel)⟩
theorem lw_p11 : lw_okq (⟨"WingLooks$Routes", "costBy", "(III)I"⟩, 9) := ⟨⟨by decide +kernel, by decide +kernel⟩, List.mem_of_getElem? (i := 406) (by decide +kernel), List.mem_of_getElem? (i := 470) (by decide +kernel), List.mem_of_getElem? (i := 471) (by decide +kernel)⟩
theorem lw_p12 : lw_okq (⟨"WingLooks$Routes", "hasRound", "(I)Z"⟩, 9) := ⟨⟨by decide +kernel, by decide +kernel⟩, List.mem_of_getElem? (i := 406) (by decide +kernel), List.mem_of_getElem? (i := 479) (by decide +kernel), List.mem_of_getElem? (i := 480) (by decide +kernel)⟩
theorem lw_p13 : lw_okq (⟨"WingLooks$Routes", "nextView", "(II)I"⟩, 9) := ⟨⟨by decide +kernel, by decide +kernel⟩, List.mem_of_getElem? (i := 406) (by decide +kernel), List.mem_of_getElem? (i := 492) (by decide +kernel), List.mem_of_getElem? (i := 493) (by decide +kernel)⟩
theorem lw_p14 : lw_okq (⟨"WingLooks$Routes", "splitUp", "(I)V"⟩, 9) := ⟨⟨by decide +kernel, by decide +kernel⟩, List.mem_of_getElem? (i := 406) (by decide +kernel), List.mem_of_getElem? (i := 505) (by decide +kernel), List.mem_of_getElem? (i := 506) (by decide +kernel)⟩
theorem lw_p15 : lw_okq (⟨"WingLooks$Routes", "bestSplit", "(I)I"⟩, 9) := ⟨⟨by decide +kernel, by decide +kernel⟩, List.mem_of_getElem? (i := 406) (by decide +kernel), List.mem_of_getElem? (i := 509) (by decide +kernel), List.mem_of_getElem? (i := 510) (by decide +kernel)⟩
def lw_privs_1 : List (MethodName × Nat) := [(⟨"WingLooks", "isPanel", "(I)Z"⟩, 8), (⟨"WingLooks$Wings", "isTouched", "(IIIII)Z"⟩, 7), (⟨"WingLooks", "isViewSet", "(I)Z"⟩, 8), (⟨"WingLooks", "forgetRoutes", "()V"⟩, 8), (⟨"WingLooks$Air", "goesInto", "(IIIII)Z"⟩, 7), (⟨"WingLooks", "routesFor", "(I)LWingLooks$Routes;"⟩, 8), (⟨"WingLooks$Routes", "measureLegs", "(I)V"⟩, 9), (⟨"WingLooks$Routes", "xOf", "(I)I"⟩, 9), (⟨"WingLooks$Routes", "yOf", "(I)I"⟩, 9), (⟨"WingLooks$Routes", "fillTails", "(I)V"⟩, 9), (⟨"WingLooks$Routes", "costFrom", "(II)I"⟩, 9), (⟨"WingLooks$Routes", "costBy", "(III)I"⟩, 9), (⟨"WingLooks$Routes", "hasRound", "(I)Z"⟩, 9), (⟨"WingLooks$Routes", "nextView", "(II)I"⟩, 9), (⟨"WingLooks$Routes", "splitUp", "(I)V"⟩, 9), (⟨"WingLooks$Routes", "bestSplit", "(I)I"⟩, 9)]
theorem lw_r1 : ∀ q ∈ lw_privs_1, lw_okq q := List.forall_mem_cons.mpr ⟨lw_p0, List.forall_mem_cons.mpr ⟨lw_p1, List.forall_mem_cons.mpr ⟨lw_p2, List.forall_mem_cons.mpr ⟨lw_p3, List.forall_mem_cons.mpr ⟨lw_p4, List.forall_mem_cons.mpr ⟨lw_p5, List.forall_mem_cons.mpr ⟨lw_p6, List.forall_mem_cons.mpr ⟨lw_p7, List.forall_mem_cons.mpr ⟨lw_p8, List.forall_mem_cons.mpr ⟨lw_p9, List.forall_mem_cons.mpr ⟨lw_p10, List.forall_mem_cons.mpr ⟨lw_p11, List.forall_mem_cons.mpr ⟨lw_p12, List.forall_mem_cons.mpr ⟨lw_p13, List.forall_mem_cons.mpr ⟨lw_p14, List.forall_mem_cons.mpr ⟨lw_p15, fun _ h => absurd h List.not_mem_nil⟩⟩⟩⟩⟩⟩⟩⟩⟩⟩⟩⟩⟩⟩⟩⟩
theorem lw_p16 : lw_okq (⟨"WingLooks$MarkBook", "isOf", "(III)Z"⟩, 11) := ⟨⟨by decide +kernel, by decide +kernel⟩, List.mem_of_getElem? (i := 166) (by decide +kernel), List.mem_of_getElem? (i := 576) (by decide +kernel), List.mem_of_getElem? (i := 577) (by decide +kernel)⟩
theorem lw_p17 : lw_okq (⟨"WingLooks$MarkBook", "sortPlaces", "(II[I)I"⟩, 11) := ⟨⟨by decide +kernel, by decide +kernel⟩, List.mem_of_getElem? (i := 166) (by decide +kernel), List.mem_of_getElem? (i := 588) (by decide +kernel), List.mem_of_getElem? (i := 589) (by decide +kernel)⟩
theorem lw_p18 : lw_okq (⟨"WingLooks$MarkBook", "addPlace", "(III)V"⟩, 11) := ⟨⟨by decide +kernel, by decide +kernel⟩, List.mem_of_getElem? (i := 166) (by decide +kernel), List.mem_of_getElem? (i := 592) (by decide +kernel), List.mem_of_getElem? (i := 593) (by decide +kernel)⟩
theorem lw_p19 : lw_okq (⟨"WingLooksModel", "noPanel", "(I)Z"⟩, 38) := ⟨⟨by decide +kernel, by decide +kernel⟩, List.mem_of_getElem? (i := 609) (by decide +kernel), List.mem_of_getElem? (i := 755) (by decide +kernel), List.mem_of_getElem? (i := 756) (by decide +kernel)⟩
theorem lw_p20 : lw_okq (⟨"WingLooksModel", "isSeen", "(III)Z"⟩, 38) := ⟨⟨by decide +kernel, by decide +kernel⟩, List.mem_of_getElem? (i := 609) (by decide +kernel), List.mem_of_getElem? (i := 759) (by decide +kernel), List.mem_of_getElem? (i := 760) (by decide +kernel)⟩
theorem lw_p21 : lw_okq (⟨"WingLooksModel", "seesOf", "(I)I"⟩, 38) := ⟨⟨by decide +kernel, by decide +kernel⟩, List.mem_of_getElem? (i := 609) (by decide +kernel), List.mem_of_getElem? (i := 780) (by decide +kernel), List.mem_of_getElem? (i := 781) (by decide +kernel)⟩
theorem lw_p22 : lw_okq (⟨"WingLooksModel", "look", "()V"⟩, 38) := ⟨⟨by decide +kernel, by decide +kernel⟩, List.mem_of_getElem? (i := 609) (by decide +kernel), List.mem_of_getElem? (i := 789) (by decide +kernel), List.mem_of_getElem? (i := 790) (by decide +kernel)⟩
theorem lw_p23 : lw_okq (⟨"WingLooksModel", "timesOf", "(I)I"⟩, 38) := ⟨⟨by decide +kernel, by decide +kernel⟩, List.mem_of_getElem? (i := 609) (by decide +kernel), List.mem_of_getElem? (i := 796) (by decide +kernel), List.mem_of_getElem? (i := 797) (by decide +kernel)⟩
theorem lw_p24 : lw_okq (⟨"WingLooksModel", "noSet", "(I)Z"⟩, 38) := ⟨⟨by decide +kernel, by decide +kernel⟩, List.mem_of_getElem? (i := 609) (by decide +kernel), List.mem_of_getElem? (i := 805) (by decide +kernel), List.mem_of_getElem? (i := 806) (by decide +kernel)⟩
theorem lw_p25 : lw_okq (⟨"WingLooksModel", "legOf", "(IIII)I"⟩, 38) := ⟨⟨by decide +kernel, by decide +kernel⟩, List.mem_of_getElem? (i := 609) (by decide +kernel), List.mem_of_getElem? (i := 841) (by decide +kernel), List.mem_of_getElem? (i := 842) (by decide +kernel)⟩
theorem lw_p26 : lw_okq (⟨"WingLooksModel", "isInside", "(IIIII)Z"⟩, 38) := ⟨⟨by decide +kernel, by decide +kernel⟩, List.mem_of_getElem? (i := 609) (by decide +kernel), List.mem_of_getElem? (i := 845) (by decide +kernel), List.mem_of_getElem? (i := 846) (by decide +kernel)⟩
theorem lw_p27 : lw_okq (⟨"WingLooksModel", "fly", "()V"⟩, 38) := ⟨⟨by decide +kernel, by decide +kernel⟩, List.mem_of_getElem? (i := 609) (by decide +kernel), List.mem_of_getElem? (i := 853) (by decide +kernel), List.mem_of_getElem? (i := 854) (by decide +kernel)⟩
theorem lw_p28 : lw_okq (⟨"WingLooksModel", "roundOf", "(I)I"⟩, 38) := ⟨⟨by decide +kernel, by decide +kernel⟩, List.mem_of_getElem? (i := 609) (by decide +kernel), List.mem_of_getElem? (i := 857) (by decide +kernel), List.mem_of_getElem? (i := 858) (by decide +kernel)⟩
theorem lw_p29 : lw_okq (⟨"WingLooksModel", "part", "()V"⟩, 38) := ⟨⟨by decide +kernel, by decide +kernel⟩, List.mem_of_getElem? (i := 609) (by decide +kernel), List.mem_of_getElem? (i := 869) (by decide +kernel), List.mem_of_getElem? (i := 870) (by decide +kernel)⟩
theorem lw_p30 : lw_okq (⟨"WingLooksModel", "isProved", "(II)Z"⟩, 38) := ⟨⟨by decide +kernel, by decide +kernel⟩, List.mem_of_getElem? (i := 609) (by decide +kernel), List.mem_of_getElem? (i := 886) (by decide +kernel), List.mem_of_getElem? (i := 887) (by decide +kernel)⟩
theorem lw_p31 : lw_okq (⟨"WingLooksModel", "provedOf", "(I)I"⟩, 38) := ⟨⟨by decide +kernel, by decide +kernel⟩, List.mem_of_getElem? (i := 609) (by decide +kernel), List.mem_of_getElem? (i := 894) (by decide +kernel), List.mem_of_getElem? (i := 895) (by decide +kernel)⟩
def lw_privs_2 : List (MethodName × Nat) := [(⟨"WingLooks$MarkBook", "isOf", "(III)Z"⟩, 11), (⟨"WingLooks$MarkBook", "sortPlaces", "(II[I)I"⟩, 11), (⟨"WingLooks$MarkBook", "addPlace", "(III)V"⟩, 11), (⟨"WingLooksModel", "noPanel", "(I)Z"⟩, 38), (⟨"WingLooksModel", "isSeen", "(III)Z"⟩, 38), (⟨"WingLooksModel", "seesOf", "(I)I"⟩, 38), (⟨"WingLooksModel", "look", "()V"⟩, 38), (⟨"WingLooksModel", "timesOf", "(I)I"⟩, 38), (⟨"WingLooksModel", "noSet", "(I)Z"⟩, 38), (⟨"WingLooksModel", "legOf", "(IIII)I"⟩, 38), (⟨"WingLooksModel", "isInside", "(IIIII)Z"⟩, 38), (⟨"WingLooksModel", "fly", "()V"⟩, 38), (⟨"WingLooksModel", "roundOf", "(I)I"⟩, 38), (⟨"WingLooksModel", "part", "()V"⟩, 38), (⟨"WingLooksModel", "isProved", "(II)Z"⟩, 38), (⟨"WingLooksModel", "provedOf", "(I)I"⟩, 38)]
theorem lw_r2 : ∀ q ∈ lw_privs_2, lw_okq q := List.forall_mem_cons.mpr ⟨lw_p16, List.forall_mem_cons.mpr ⟨lw_p17, List.forall_mem_cons.mpr ⟨lw_p18, List.forall_mem_cons.mpr ⟨lw_p19, List.forall_mem_cons.mpr ⟨lw_p20, List.forall_mem_cons.mpr ⟨lw_p21, List.forall_mem_cons.mpr ⟨lw_p22, List.forall_mem_cons.mpr ⟨lw_p23, List.forall_mem_cons.mpr ⟨lw_p24, List.forall_mem_cons.mpr ⟨lw_p25, List.forall_mem_cons.mpr ⟨lw_p26, List.forall_mem_cons.mpr ⟨lw_p27, List.forall_mem_cons.mpr ⟨lw_p28, List.forall_mem_cons.mpr ⟨lw_p29, List.forall_mem_cons.mpr ⟨lw_p30, List.forall_mem_cons.mpr ⟨lw_p31, fun _ h => absurd h List.not_mem_nil⟩⟩⟩⟩⟩⟩⟩⟩⟩⟩⟩⟩⟩⟩⟩⟩
theorem lw_p32 : lw_okq (⟨"WingLooksModel", "isOn", "(III)Z"⟩, 38) := ⟨⟨by decide +kernel, by decide +kernel⟩, List.mem_of_getElem? (i := 609) (by decide +kernel), List.mem_of_getElem? (i := 915) (by decide +kernel), List.mem_of_getElem? (i := 916) (by decide +kernel)⟩
theorem lw_p33 : lw_okq (⟨"WingLooksModel", "placed", "(II[I)I"⟩, 38) := ⟨⟨by decide +kernel, by decide +kernel⟩, List.mem_of_getElem? (i := 609) (by decide +kernel), List.mem_of_getElem? (i := 923) (by decide +kernel), List.mem_of_getElem? (i := 924) (by decide +kernel)⟩
theorem lw_p34 : lw_okq (⟨"WingLooksModel", "take", "(IIII)V"⟩, 38) := ⟨⟨by decide +kernel, by decide +kernel⟩, List.mem_of_getElem? (i := 609) (by decide +kernel), List.mem_of_getElem? (i := 927) (by decide +kernel), List.mem_of_getElem? (i := 928) (by decide +kernel)⟩
def lw_privs_3 : List (MethodName × Nat) := [(⟨"WingLooksModel", "isOn", "(III)Z"⟩, 38), (⟨"WingLooksModel", "placed", "(II[I)I"⟩, 38), (⟨"WingLooksModel", "take", "(IIII)V"⟩, 38)]
theorem lw_r3 : ∀ q ∈ lw_privs_3, lw_okq q := List.forall_mem_cons.mpr ⟨lw_p32, List.forall_mem_cons.mpr ⟨lw_p33, List.forall_mem_cons.mpr ⟨lw_p34, fun _ h => absurd h List.not_mem_nil⟩⟩⟩
def lw_privs : List (MethodName × Nat) := lw_privs_1 ++ (lw_privs_2 ++ (lw_privs_3))
def lw_tbl : List Cond := k2_sels lw_privs ++ tables_1
theorem lw_privs_ok : ∀ q ∈ lw_privs, lw_okq q := by
  show ∀ q ∈ lw_privs_1 ++ (lw_privs_2 ++ (lw_privs_3)), lw_okq q
  exact List.forall_mem_append.mpr ⟨lw_r1, List.forall_mem_append.mpr ⟨lw_r2, lw_r3⟩⟩
theorem goodIn_r {big : List Cond} (ws : List Cond) (ps : List Nat) (hp : ws = ps.filterMap (fun i => big[i]?)) (h : ws.all goodWord = true) : GoodIn big ws := by
  intro w hw
  have h1 := List.all_eq_true.mp h w hw
  rw [hp] at hw
  obtain ⟨i, -, hi⟩ := List.mem_filterMap.mp hw
  have hm : w ∈ big := by first | exact List.mem_of_getElem? hi | exact List.getElem?_mem hi
  exact ⟨hm, good_of_word h1⟩
theorem goodIn_app {big a b : List Cond} (ha : GoodIn big a) (hb : GoodIn big b) : GoodIn big (a ++ b) := fun w h => (List.mem_append.mp h).elim (ha w) (hb w)
theorem goodIn_ca {big a b : List Cond} {c : Cond} (ha : GoodIn big (c :: a)) (hb : GoodIn big b) : GoodIn big (c :: (a ++ b)) := fun w h => (List.mem_cons.mp h).elim (fun e => ha w (List.mem_cons.mpr (Or.inl e))) (fun h => (List.mem_append.mp h).elim (fun h => ha w (List.mem_cons.mpr (Or.inr h))) (hb w))
theorem goodIn_sub {big ws : List Cond} (hm : ∀ w ∈ ws, w ∈ big) (h : ws.all goodWord = true) : GoodIn big ws := fun w hw => ⟨hm w hw, good_of_word (List.all_eq_true.mp h w hw)⟩
def RX0 : String := "WingLooks$Air"
def TX0 : u_T := fun k => match k with
  | 0 => ("WingLooks$Air", "left", "[I", true)
  | 1 => ("WingLooks$Air", "bottom", "[I", true)
  | 2 => ("WingLooks$Air", "right", "[I", true)
  | 3 => ("WingLooks$Air", "top", "[I", true)
  | 4 => ("WingLooks$Air", "size", "I", false)
  | 5 => ("WingLooks$Air", "windX", "I", false)
  | _ => ("WingLooks$Air", "windY", "I", false)
def tyX0 : Nat → FieldType := fun k => match k with
  | 0 => .array .int
  | 1 => .array .int
  | 2 => .array .int
  | 3 => .array .int
  | 4 => .int
  | 5 => .int
  | _ => .int
abbrev wsX00 : List Cond := u_ws RX0 TX0 7
theorem nmX0 : ∀ a, a < 7 → ∀ b, b < 7 → a ≠ b → (TX0 a).2.1 ≠ (TX0 b).2.1 := by decide +kernel
theorem tyX0_ok : ∀ k, k < 7 → parseFieldDescriptor (TX0 k).2.2.1 = some (tyX0 k) := by decide +kernel
abbrev cX0_init : ByteArray := prog_2_method_1_code
def yX0_init : MethodName := ⟨RX0, "<init>", "()V"⟩
abbrev cX0_add : ByteArray := prog_2_method_2_code
def yX0_add : MethodName := ⟨RX0, "add", "(IIII)V"⟩
abbrev cX0_isShut : ByteArray := prog_2_method_3_code
def yX0_isShut : MethodName := ⟨RX0, "isShut", "(IIII)Z"⟩
abbrev cX0_goesInto : ByteArray := prog_2_method_4_code
def yX0_goesInto : MethodName := ⟨RX0, "goesInto", "(IIIII)Z"⟩
abbrev cX0_cost : ByteArray := prog_2_method_5_code
def yX0_cost : MethodName := ⟨RX0, "cost", "(II)I"⟩
abbrev cX0_rootUp : ByteArray := prog_2_method_6_code
def yX0_rootUp : MethodName := ⟨RX0, "rootUp", "(I)I"⟩
def RX1 : String := "WingLooks$Craft"
def TX1 : u_T := fun k => match k with
  | 0 => ("WingLooks$Craft", "baseX", "I", false)
  | 1 => ("WingLooks$Craft", "baseY", "I", false)
  | 2 => ("WingLooks$Craft", "battery", "I", false)
  | _ => ("WingLooks$Craft", "hover", "I", false)
def tyX1 : Nat → FieldType := fun k => match k with
  | 0 => .int
  | 1 => .int
  | 2 => .int
  | _ => .int
abbrev wsX10 : List Cond := u_ws RX1 TX1 4
theorem nmX1 : ∀ a, a < 4 → ∀ b, b < 4 → a ≠ b → (TX1 a).2.1 ≠ (TX1 b).2.1 := by decide +kernel
theorem tyX1_ok : ∀ k, k < 4 → parseFieldDescriptor (TX1 k).2.2.1 = some (tyX1 k) := by decide +kernel
abbrev cX1_init : ByteArray := prog_3_method_1_code
def yX1_init : MethodName := ⟨RX1, "<init>", "()V"⟩
def RX2 : String := "WingLooks$LogBook"
def TX2 : u_T := fun k => match k with
  | 0 => ("WingLooks$LogBook", "places", "LWingLooks$Places;", true)
  | _ => ("WingLooks$LogBook", "spread", "[I", true)
def tyX2 : Nat → FieldType := fun k => match k with
  | 0 => .object "WingLooks$Places"
  | _ => .array .int
abbrev wsX20 : List Cond := u_ws RX2 TX2 2
theorem nmX2 : ∀ a, a < 2 → ∀ b, b < 2 → a ≠ b → (TX2 a).2.1 ≠ (TX2 b).2.1 := by decide +kernel
theorem tyX2_ok : ∀ k, k < 2 → parseFieldDescriptor (TX2 k).2.2.1 = some (tyX2 k) := by decide +kernel
abbrev cX2_init : ByteArray := prog_4_method_1_code
def yX2_init : MethodName := ⟨RX2, "<init>", "()V"⟩
abbrev cX2_add : ByteArray := prog_4_method_2_code
def yX2_add : MethodName := ⟨RX2, "add", "(III)I"⟩
abbrev cX2_isProof : ByteArray := prog_4_method_3_code
def yX2_isProof : MethodName := ⟨RX2, "isProof", "(ILWingLooks$Wings;I)Z"⟩
abbrev cX2_proofs : ByteArray := prog_4_method_4_code
def yX2_proofs : MethodName := ⟨RX2, "proofs", "(LWingLooks$Wings;II)I"⟩
def RX3 : String := "WingLooks$Lookout"
def TX3 : u_T := fun k => match k with
  | 0 => ("WingLooks$Lookout", "watchers", "[I", true)
  | _ => ("WingLooks$Lookout", "panels", "I", false)
def tyX3 : Nat → FieldType := fun k => match k with
  | 0 => .array .int
  | _ => .int
abbrev wsX30 : List Cond := u_ws RX3 TX3 2
theorem nmX3 : ∀ a, a < 2 → ∀ b, b < 2 → a ≠ b → (TX3 a).2.1 ≠ (TX3 b).2.1 := by decide +kernel
theorem tyX3_ok : ∀ k, k < 2 → parseFieldDescriptor (TX3 k).2.2.1 = some (tyX3 k) := by decide +kernel
abbrev cX3_init : ByteArray := prog_5_method_1_code
def yX3_init : MethodName := ⟨RX3, "<init>", "()V"⟩
abbrev cX3_watch : ByteArray := prog_5_method_2_code
def yX3_watch : MethodName := ⟨RX3, "watch", "(LWingLooks$Wings;LWingLooks$Places;)V"⟩
abbrev cX3_leastTimes : ByteArray := prog_5_method_3_code
def yX3_leastTimes : MethodName := ⟨RX3, "leastTimes", "(I)I"⟩
abbrev cX3_smallestCover : ByteArray := prog_5_method_4_code
def yX3_smallestCover : MethodName := ⟨RX3, "smallestCover", "(II)I"⟩
def RX4 : String := "WingLooks$MarkBook"
def TX4 : u_T := fun k => match k with
  | 0 => ("WingLooks$MarkBook", "panelOf", "[I", true)
  | 1 => ("WingLooks$MarkBook", "atOf", "[I", true)
  | 2 => ("WingLooks$MarkBook", "lengthOf", "[I", true)
  | 3 => ("WingLooks$MarkBook", "yearOf", "[I", true)
  | 4 => ("WingLooks$MarkBook", "wiped", "[Z", true)
  | 5 => ("WingLooks$MarkBook", "size", "I", false)
  | 6 => ("WingLooks$MarkBook", "placesOne", "[I", true)
  | 7 => ("WingLooks$MarkBook", "placesTwo", "[I", true)
  | 8 => ("WingLooks$MarkBook", "worth", "[I", true)
  | 9 => ("WingLooks$MarkBook", "pairs", "I", false)
  | _ => ("WingLooks$MarkBook", "pairedDrift", "I", false)
def tyX4 : Nat → FieldType := fun k => match k with
  | 0 => .array .int
  | 1 => .array .int
  | 2 => .array .int
  | 3 => .array .int
  | 4 => .array .boolean
  | 5 => .int
  | 6 => .array .int
  | 7 => .array .int
  | 8 => .array .int
  | 9 => .int
  | _ => .int
abbrev wsX40 : List Cond := u_ws RX4 TX4 11
theorem nmX4 : ∀ a, a < 11 → ∀ b, b < 11 → a ≠ b → (TX4 a).2.1 ≠ (TX4 b).2.1 := by decide +kernel
theorem tyX4_ok : ∀ k, k < 11 → parseFieldDescriptor (TX4 k).2.2.1 = some (tyX4 k) := by decide +kernel
abbrev cX4_init : ByteArray := prog_6_method_1_code
def yX4_init : MethodName := ⟨RX4, "<init>", "()V"⟩
abbrev cX4_add : ByteArray := prog_6_method_2_code
def yX4_add : MethodName := ⟨RX4, "add", "(IIII)I"⟩
abbrev cX4_present : ByteArray := prog_6_method_3_code
def yX4_present : MethodName := ⟨RX4, "present", "()I"⟩
abbrev cX4_isOf : ByteArray := prog_6_method_4_code
def yX4_isOf : MethodName := ⟨RX4, "isOf", "(III)Z"⟩
abbrev cX4_sum : ByteArray := prog_6_method_5_code
def yX4_sum : MethodName := ⟨RX4, "sum", "(IIZ)I"⟩
abbrev cX4_pairUp : ByteArray := prog_6_method_6_code
def yX4_pairUp : MethodName := ⟨RX4, "pairUp", "(IIII)V"⟩
abbrev cX4_sortPlaces : ByteArray := prog_6_method_7_code
def yX4_sortPlaces : MethodName := ⟨RX4, "sortPlaces", "(II[I)I"⟩
abbrev cX4_addPlace : ByteArray := prog_6_method_8_code
def yX4_addPlace : MethodName := ⟨RX4, "addPlace", "(III)V"⟩
def RX5 : String := "WingLooks$Places"
def TX5 : u_T := fun k => match k with
  | 0 => ("WingLooks$Places", "x", "[I", true)
  | 1 => ("WingLooks$Places", "y", "[I", true)
  | _ => ("WingLooks$Places", "size", "I", false)
def tyX5 : Nat → FieldType := fun k => match k with
  | 0 => .array .int
  | 1 => .array .int
  | _ => .int
abbrev wsX50 : List Cond := u_ws RX5 TX5 3
theorem nmX5 : ∀ a, a < 3 → ∀ b, b < 3 → a ≠ b → (TX5 a).2.1 ≠ (TX5 b).2.1 := by decide +kernel
theorem tyX5_ok : ∀ k, k < 3 → parseFieldDescriptor (TX5 k).2.2.1 = some (tyX5 k) := by decide +kernel
abbrev cX5_init : ByteArray := prog_7_method_1_code
def yX5_init : MethodName := ⟨RX5, "<init>", "(I)V"⟩
abbrev cX5_add : ByteArray := prog_7_method_2_code
def yX5_add : MethodName := ⟨RX5, "add", "(II)I"⟩
def RX6 : String := "WingLooks$Routes"
def TX6 : u_T := fun k => match k with
  | 0 => ("WingLooks$Routes", "views", "LWingLooks$Places;", true)
  | 1 => ("WingLooks$Routes", "air", "LWingLooks$Air;", true)
  | 2 => ("WingLooks$Routes", "craft", "LWingLooks$Craft;", true)
  | 3 => ("WingLooks$Routes", "legCosts", "[I", true)
  | 4 => ("WingLooks$Routes", "tails", "[I", true)
  | 5 => ("WingLooks$Routes", "rounds", "[I", true)
  | 6 => ("WingLooks$Routes", "splits", "[I", true)
  | 7 => ("WingLooks$Routes", "routedSet", "I", false)
  | _ => ("WingLooks$Routes", "splitSet", "I", false)
def tyX6 : Nat → FieldType := fun k => match k with
  | 0 => .object "WingLooks$Places"
  | 1 => .object "WingLooks$Air"
  | 2 => .object "WingLooks$Craft"
  | 3 => .array .int
  | 4 => .array .int
  | 5 => .array .int
  | 6 => .array .int
  | 7 => .int
  | _ => .int
abbrev wsX60 : List Cond := u_ws RX6 TX6 9
theorem nmX6 : ∀ a, a < 9 → ∀ b, b < 9 → a ≠ b → (TX6 a).2.1 ≠ (TX6 b).2.1 := by decide +kernel
theorem tyX6_ok : ∀ k, k < 9 → parseFieldDescriptor (TX6 k).2.2.1 = some (tyX6 k) := by decide +kernel
abbrev cX6_init : ByteArray := prog_8_method_1_code
def yX6_init : MethodName := ⟨RX6, "<init>", "(LWingLooks$Places;LWingLooks$Air;LWingLooks$Craft;)V"⟩
abbrev cX6_forget : ByteArray := prog_8_method_2_code
def yX6_forget : MethodName := ⟨RX6, "forget", "()V"⟩
abbrev cX6_learn : ByteArray := prog_8_method_3_code
def yX6_learn : MethodName := ⟨RX6, "learn", "(I)V"⟩
abbrev cX6_measureLegs : ByteArray := prog_8_method_4_code
def yX6_measureLegs : MethodName := ⟨RX6, "measureLegs", "(I)V"⟩
abbrev cX6_xOf : ByteArray := prog_8_method_5_code
def yX6_xOf : MethodName := ⟨RX6, "xOf", "(I)I"⟩
abbrev cX6_yOf : ByteArray := prog_8_method_6_code
def yX6_yOf : MethodName := ⟨RX6, "yOf", "(I)I"⟩
abbrev cX6_fillTails : ByteArray := prog_8_method_7_code
def yX6_fillTails : MethodName := ⟨RX6, "fillTails", "(I)V"⟩
abbrev cX6_costFrom : ByteArray := prog_8_method_8_code
def yX6_costFrom : MethodName := ⟨RX6, "costFrom", "(II)I"⟩
abbrev cX6_costBy : ByteArray := prog_8_method_9_code
def yX6_costBy : MethodName := ⟨RX6, "costBy", "(III)I"⟩
abbrev cX6_roundCost : ByteArray := prog_8_method_10_code
def yX6_roundCost : MethodName := ⟨RX6, "roundCost", "(I)I"⟩
abbrev cX6_hasRound : ByteArray := prog_8_method_11_code
def yX6_hasRound : MethodName := ⟨RX6, "hasRound", "(I)Z"⟩
abbrev cX6_viewAt : ByteArray := prog_8_method_12_code
def yX6_viewAt : MethodName := ⟨RX6, "viewAt", "(II)I"⟩
abbrev cX6_nextView : ByteArray := prog_8_method_13_code
def yX6_nextView : MethodName := ⟨RX6, "nextView", "(II)I"⟩
abbrev cX6_fewestTrips : ByteArray := prog_8_method_14_code
def yX6_fewestTrips : MethodName := ⟨RX6, "fewestTrips", "(I)I"⟩
abbrev cX6_cheapestTrips : ByteArray := prog_8_method_15_code
def yX6_cheapestTrips : MethodName := ⟨RX6, "cheapestTrips", "(I)I"⟩
abbrev cX6_splitUp : ByteArray := prog_8_method_16_code
def yX6_splitUp : MethodName := ⟨RX6, "splitUp", "(I)V"⟩
abbrev cX6_bestSplit : ByteArray := prog_8_method_17_code
def yX6_bestSplit : MethodName := ⟨RX6, "bestSplit", "(I)I"⟩
def RX7 : String := "WingLooks$Wings"
def TX7 : u_T := fun k => match k with
  | 0 => ("WingLooks$Wings", "startX", "[I", true)
  | 1 => ("WingLooks$Wings", "startY", "[I", true)
  | 2 => ("WingLooks$Wings", "endX", "[I", true)
  | 3 => ("WingLooks$Wings", "endY", "[I", true)
  | 4 => ("WingLooks$Wings", "size", "I", false)
  | 5 => ("WingLooks$Wings", "range", "I", false)
  | _ => ("WingLooks$Wings", "slant", "I", false)
def tyX7 : Nat → FieldType := fun k => match k with
  | 0 => .array .int
  | 1 => .array .int
  | 2 => .array .int
  | 3 => .array .int
  | 4 => .int
  | 5 => .int
  | _ => .int
abbrev wsX70 : List Cond := u_ws RX7 TX7 7
theorem nmX7 : ∀ a, a < 7 → ∀ b, b < 7 → a ≠ b → (TX7 a).2.1 ≠ (TX7 b).2.1 := by decide +kernel
theorem tyX7_ok : ∀ k, k < 7 → parseFieldDescriptor (TX7 k).2.2.1 = some (tyX7 k) := by decide +kernel
abbrev cX7_init : ByteArray := prog_9_method_1_code
def yX7_init : MethodName := ⟨RX7, "<init>", "()V"⟩
abbrev cX7_add : ByteArray := prog_9_method_2_code
def yX7_add : MethodName := ⟨RX7, "add", "(IIII)I"⟩
abbrev cX7_visibleFrom : ByteArray := prog_9_method_3_code
def yX7_visibleFrom : MethodName := ⟨RX7, "visibleFrom", "(II)I"⟩
abbrev cX7_isVisible : ByteArray := prog_9_method_4_code
def yX7_isVisible : MethodName := ⟨RX7, "isVisible", "(III)Z"⟩
abbrev cX7_isTouched : ByteArray := prog_9_method_5_code
def yX7_isTouched : MethodName := ⟨RX7, "isTouched", "(IIIII)Z"⟩
abbrev cX7_doOverlap : ByteArray := prog_9_method_6_code
def yX7_doOverlap : MethodName := ⟨RX7, "doOverlap", "(IIII)Z"⟩
abbrev cX7_areApart : ByteArray := prog_9_method_7_code
def yX7_areApart : MethodName := ⟨RX7, "areApart", "(II)Z"⟩
def RX8 : String := "WingLooks"
def TX8 : u_T := fun k => match k with
  | 0 => ("WingLooks", "wings", "LWingLooks$Wings;", true)
  | 1 => ("WingLooks", "views", "LWingLooks$Places;", true)
  | 2 => ("WingLooks", "lookout", "LWingLooks$Lookout;", true)
  | 3 => ("WingLooks", "air", "LWingLooks$Air;", true)
  | 4 => ("WingLooks", "craft", "LWingLooks$Craft;", true)
  | 5 => ("WingLooks", "logBook", "LWingLooks$LogBook;", true)
  | 6 => ("WingLooks", "markBook", "LWingLooks$MarkBook;", true)
  | _ => ("WingLooks", "routes", "LWingLooks$Routes;", false)
def tyX8 : Nat → FieldType := fun k => match k with
  | 0 => .object "WingLooks$Wings"
  | 1 => .object "WingLooks$Places"
  | 2 => .object "WingLooks$Lookout"
  | 3 => .object "WingLooks$Air"
  | 4 => .object "WingLooks$Craft"
  | 5 => .object "WingLooks$LogBook"
  | 6 => .object "WingLooks$MarkBook"
  | _ => .object "WingLooks$Routes"
abbrev wsX80 : List Cond := u_ws RX8 TX8 8
theorem nmX8 : ∀ a, a < 8 → ∀ b, b < 8 → a ≠ b → (TX8 a).2.1 ≠ (TX8 b).2.1 := by decide +kernel
theorem tyX8_ok : ∀ k, k < 8 → parseFieldDescriptor (TX8 k).2.2.1 = some (tyX8 k) := by decide +kernel
abbrev cX8_init : ByteArray := prog_1_method_1_code
def yX8_init : MethodName := ⟨RX8, "<init>", "()V"⟩
abbrev cX8_panel : ByteArray := prog_1_method_2_code
def yX8_panel : MethodName := ⟨RX8, "panel", "(IIII)I"⟩
abbrev cX8_eye : ByteArray := prog_1_method_3_code
def yX8_eye : MethodName := ⟨RX8, "eye", "(II)I"⟩
abbrev cX8_view : ByteArray := prog_1_method_4_code
def yX8_view : MethodName := ⟨RX8, "view", "(II)I"⟩
abbrev cX8_seen : ByteArray := prog_1_method_5_code
def yX8_seen : MethodName := ⟨RX8, "seen", "(III)I"⟩
abbrev cX8_sees : ByteArray := prog_1_method_6_code
def yX8_sees : MethodName := ⟨RX8, "sees", "(I)I"⟩
abbrev cX8_cover : ByteArray := prog_1_method_7_code
def yX8_cover : MethodName := ⟨RX8, "cover", "(I)I"⟩
abbrev cX8_covers : ByteArray := prog_1_method_8_code
def yX8_covers : MethodName := ⟨RX8, "covers", "(II)I"⟩
abbrev cX8_times : ByteArray := prog_1_method_9_code
def yX8_times : MethodName := ⟨RX8, "times", "(I)I"⟩
abbrev cX8_close : ByteArray := prog_1_method_10_code
def yX8_close : MethodName := ⟨RX8, "close", "(IIII)I"⟩
abbrev cX8_open : ByteArray := prog_1_method_11_code
def yX8_open : MethodName := ⟨RX8, "open", "()I"⟩
abbrev cX8_wind : ByteArray := prog_1_method_12_code
def yX8_wind : MethodName := ⟨RX8, "wind", "(II)I"⟩
abbrev cX8_base : ByteArray := prog_1_method_13_code
def yX8_base : MethodName := ⟨RX8, "base", "(II)I"⟩
abbrev cX8_store : ByteArray := prog_1_method_14_code
def yX8_store : MethodName := ⟨RX8, "store", "(II)I"⟩
abbrev cX8_leg : ByteArray := prog_1_method_15_code
def yX8_leg : MethodName := ⟨RX8, "leg", "(IIII)I"⟩
abbrev cX8_round : ByteArray := prog_1_method_16_code
def yX8_round : MethodName := ⟨RX8, "round", "(I)I"⟩
abbrev cX8_stop : ByteArray := prog_1_method_17_code
def yX8_stop : MethodName := ⟨RX8, "stop", "(II)I"⟩
abbrev cX8_flights : ByteArray := prog_1_method_18_code
def yX8_flights : MethodName := ⟨RX8, "flights", "(I)I"⟩
abbrev cX8_energy : ByteArray := prog_1_method_19_code
def yX8_energy : MethodName := ⟨RX8, "energy", "(I)I"⟩
abbrev cX8_log : ByteArray := prog_1_method_20_code
def yX8_log : MethodName := ⟨RX8, "log", "(III)I"⟩
abbrev cX8_proves : ByteArray := prog_1_method_21_code
def yX8_proves : MethodName := ⟨RX8, "proves", "(II)I"⟩
abbrev cX8_proved : ByteArray := prog_1_method_22_code
def yX8_proved : MethodName := ⟨RX8, "proved", "(I)I"⟩
abbrev cX8_missing : ByteArray := prog_1_method_23_code
def yX8_missing : MethodName := ⟨RX8, "missing", "(II)I"⟩
abbrev cX8_mark : ByteArray := prog_1_method_24_code
def yX8_mark : MethodName := ⟨RX8, "mark", "(IIII)I"⟩
abbrev cX8_wipe : ByteArray := prog_1_method_25_code
def yX8_wipe : MethodName := ⟨RX8, "wipe", "(I)I"⟩
abbrev cX8_marks : ByteArray := prog_1_method_26_code
def yX8_marks : MethodName := ⟨RX8, "marks", "(IIZ)I"⟩
abbrev cX8_match : ByteArray := prog_1_method_27_code
def yX8_match : MethodName := ⟨RX8, "match", "(IIIIZ)I"⟩
abbrev cX8_count : ByteArray := prog_1_method_28_code
def yX8_count : MethodName := ⟨RX8, "count", "(I)I"⟩
abbrev cX8_isWithin : ByteArray := prog_1_method_29_code
def yX8_isWithin : MethodName := ⟨RX8, "isWithin", "(III)Z"⟩
abbrev cX8_isPoint : ByteArray := prog_1_method_30_code
def yX8_isPoint : MethodName := ⟨RX8, "isPoint", "(II)Z"⟩
abbrev cX8_isYear : ByteArray := prog_1_method_31_code
def yX8_isYear : MethodName := ⟨RX8, "isYear", "(I)Z"⟩
abbrev cX8_asNumber : ByteArray := prog_1_method_32_code
def yX8_asNumber : MethodName := ⟨RX8, "asNumber", "(Z)I"⟩
abbrev cX8_has : ByteArray := prog_1_method_33_code
def yX8_has : MethodName := ⟨RX8, "has", "(II)Z"⟩
abbrev cX8_turn : ByteArray := prog_1_method_34_code
def yX8_turn : MethodName := ⟨RX8, "turn", "(IIIIII)I"⟩
abbrev cX8_isPanel : ByteArray := prog_1_method_35_code
def yX8_isPanel : MethodName := ⟨RX8, "isPanel", "(I)Z"⟩
abbrev cX8_isViewSet : ByteArray := prog_1_method_36_code
def yX8_isViewSet : MethodName := ⟨RX8, "isViewSet", "(I)Z"⟩
abbrev cX8_routesFor : ByteArray := prog_1_method_37_code
def yX8_routesFor : MethodName := ⟨RX8, "routesFor", "(I)LWingLooks$Routes;"⟩
abbrev cX8_forgetRoutes : ByteArray := prog_1_method_38_code
def yX8_forgetRoutes : MethodName := ⟨RX8, "forgetRoutes", "()V"⟩
def RX9 : String := "WingLooksModel"
def TX9 : u_T := fun k => match k with
  | 0 => ("WingLooksModel", "thrown", "I", false)
  | 1 => ("WingLooksModel", "panels", "I", false)
  | 2 => ("WingLooksModel", "px", "[I", true)
  | 3 => ("WingLooksModel", "py", "[I", true)
  | 4 => ("WingLooksModel", "qx", "[I", true)
  | 5 => ("WingLooksModel", "qy", "[I", true)
  | 6 => ("WingLooksModel", "range", "I", false)
  | 7 => ("WingLooksModel", "slant", "I", false)
  | 8 => ("WingLooksModel", "views", "I", false)
  | 9 => ("WingLooksModel", "vx", "[I", true)
  | 10 => ("WingLooksModel", "vy", "[I", true)
  | 11 => ("WingLooksModel", "closed", "I", false)
  | 12 => ("WingLooksModel", "lowX", "[I", true)
  | 13 => ("WingLooksModel", "lowY", "[I", true)
  | 14 => ("WingLooksModel", "highX", "[I", true)
  | 15 => ("WingLooksModel", "highY", "[I", true)
  | 16 => ("WingLooksModel", "windX", "I", false)
  | 17 => ("WingLooksModel", "windY", "I", false)
  | 18 => ("WingLooksModel", "battery", "I", false)
  | 19 => ("WingLooksModel", "hover", "I", false)
  | 20 => ("WingLooksModel", "logs", "I", false)
  | 21 => ("WingLooksModel", "lx", "[I", true)
  | 22 => ("WingLooksModel", "ly", "[I", true)
  | 23 => ("WingLooksModel", "le", "[I", true)
  | 24 => ("WingLooksModel", "marks", "I", false)
  | 25 => ("WingLooksModel", "markPanel", "[I", true)
  | 26 => ("WingLooksModel", "markAt", "[I", true)
  | 27 => ("WingLooksModel", "markLength", "[I", true)
  | 28 => ("WingLooksModel", "markYear", "[I", true)
  | 29 => ("WingLooksModel", "isWiped", "[Z", true)
  | 30 => ("WingLooksModel", "legs", "[I", true)
  | 31 => ("WingLooksModel", "rest", "[I", true)
  | 32 => ("WingLooksModel", "fewest", "[I", true)
  | 33 => ("WingLooksModel", "least", "[I", true)
  | 34 => ("WingLooksModel", "one", "[I", true)
  | 35 => ("WingLooksModel", "two", "[I", true)
  | 36 => ("WingLooksModel", "pairs", "[I", true)
  | _ => ("WingLooksModel", "drift", "[I", true)
def tyX9 : Nat → FieldType := fun k => match k with
  | 0 => .int
  | 1 => .int
  | 2 => .array .int
  | 3 => .array .int
  | 4 => .array .int
  | 5 => .array .int
  | 6 => .int
  | 7 => .int
  | 8 => .int
  | 9 => .array .int
  | 10 => .array .int
  | 11 => .int
  | 12 => .array .int
  | 13 => .array .int
  | 14 => .array .int
  | 15 => .array .int
  | 16 => .int
  | 17 => .int
  | 18 => .int
  | 19 => .int
  | 20 => .int
  | 21 => .array .int
  | 22 => .array .int
  | 23 => .array .int
  | 24 => .int
  | 25 => .array .int
  | 26 => .array .int
  | 27 => .array .int
  | 28 => .array .int
  | 29 => .array .boolean
  | 30 => .array .int
  | 31 => .array .int
  | 32 => .array .int
  | 33 => .array .int
  | 34 => .array .int
  | 35 => .array .int
  | 36 => .array .int
  | _ => .array .int
abbrev wsX90 : List Cond := u_ws RX9 TX9 38
theorem nmX9 : ∀ a, a < 38 → ∀ b, b < 38 → a ≠ b → (TX9 a).2.1 ≠ (TX9 b).2.1 := by decide +kernel
theorem tyX9_ok : ∀ k, k < 38 → parseFieldDescriptor (TX9 k).2.2.1 = some (tyX9 k) := by decide +kernel
abbrev cX9_init : ByteArray := prog_11_method_1_code
def yX9_init : MethodName := ⟨RX9, "<init>", "()V"⟩
abbrev cX9_in : ByteArray := prog_11_method_3_code
def yX9_in : MethodName := ⟨RX9, "in", "(JJJ)Z"⟩
abbrev cX9_noPoint : ByteArray := prog_11_method_4_code
def yX9_noPoint : MethodName := ⟨RX9, "noPoint", "(II)Z"⟩
abbrev cX9_noPanel : ByteArray := prog_11_method_5_code
def yX9_noPanel : MethodName := ⟨RX9, "noPanel", "(I)Z"⟩
abbrev cX9_noSet : ByteArray := prog_11_method_6_code
def yX9_noSet : MethodName := ⟨RX9, "noSet", "(I)Z"⟩
abbrev cX9_cross : ByteArray := prog_11_method_7_code
def yX9_cross : MethodName := ⟨RX9, "cross", "(IIII)I"⟩
abbrev cX9_sign : ByteArray := prog_11_method_8_code
def yX9_sign : MethodName := ⟨RX9, "sign", "(I)I"⟩
abbrev cX9_isBetween : ByteArray := prog_11_method_9_code
def yX9_isBetween : MethodName := ⟨RX9, "isBetween", "(IIIIII)Z"⟩
abbrev cX9_meet : ByteArray := prog_11_method_10_code
def yX9_meet : MethodName := ⟨RX9, "meet", "(IIIIIIII)Z"⟩
abbrev cX9_isSeen : ByteArray := prog_11_method_11_code
def yX9_isSeen : MethodName := ⟨RX9, "isSeen", "(III)Z"⟩
abbrev cX9_panel : ByteArray := prog_11_method_12_code
def yX9_panel : MethodName := ⟨RX9, "panel", "(IIII)I"⟩
abbrev cX9_eye : ByteArray := prog_11_method_13_code
def yX9_eye : MethodName := ⟨RX9, "eye", "(II)I"⟩
abbrev cX9_view : ByteArray := prog_11_method_14_code
def yX9_view : MethodName := ⟨RX9, "view", "(II)I"⟩
abbrev cX9_seen : ByteArray := prog_11_method_15_code
def yX9_seen : MethodName := ⟨RX9, "seen", "(III)I"⟩
abbrev cX9_seesOf : ByteArray := prog_11_method_16_code
def yX9_seesOf : MethodName := ⟨RX9, "seesOf", "(I)I"⟩
abbrev cX9_sees : ByteArray := prog_11_method_17_code
def yX9_sees : MethodName := ⟨RX9, "sees", "(I)I"⟩
abbrev cX9_look : ByteArray := prog_11_method_18_code
def yX9_look : MethodName := ⟨RX9, "look", "()V"⟩
abbrev cX9_timesOf : ByteArray := prog_11_method_19_code
def yX9_timesOf : MethodName := ⟨RX9, "timesOf", "(I)I"⟩
abbrev cX9_bits : ByteArray := prog_11_method_20_code
def yX9_bits : MethodName := ⟨RX9, "bits", "(I)I"⟩
abbrev cX9_cover : ByteArray := prog_11_method_21_code
def yX9_cover : MethodName := ⟨RX9, "cover", "(I)I"⟩
abbrev cX9_covers : ByteArray := prog_11_method_22_code
def yX9_covers : MethodName := ⟨RX9, "covers", "(II)I"⟩
abbrev cX9_times : ByteArray := prog_11_method_23_code
def yX9_times : MethodName := ⟨RX9, "times", "(I)I"⟩
abbrev cX9_isInside : ByteArray := prog_11_method_24_code
def yX9_isInside : MethodName := ⟨RX9, "isInside", "(IIIII)Z"⟩
abbrev cX9_legOf : ByteArray := prog_11_method_25_code
def yX9_legOf : MethodName := ⟨RX9, "legOf", "(IIII)I"⟩
abbrev cX9_close : ByteArray := prog_11_method_26_code
def yX9_close : MethodName := ⟨RX9, "close", "(IIII)I"⟩
abbrev cX9_open : ByteArray := prog_11_method_27_code
def yX9_open : MethodName := ⟨RX9, "open", "()I"⟩
abbrev cX9_wind : ByteArray := prog_11_method_28_code
def yX9_wind : MethodName := ⟨RX9, "wind", "(II)I"⟩
abbrev cX9_base : ByteArray := prog_11_method_29_code
def yX9_base : MethodName := ⟨RX9, "base", "(II)I"⟩
abbrev cX9_store : ByteArray := prog_11_method_30_code
def yX9_store : MethodName := ⟨RX9, "store", "(II)I"⟩
abbrev cX9_leg : ByteArray := prog_11_method_31_code
def yX9_leg : MethodName := ⟨RX9, "leg", "(IIII)I"⟩
abbrev cX9_fly : ByteArray := prog_11_method_32_code
def yX9_fly : MethodName := ⟨RX9, "fly", "()V"⟩
abbrev cX9_roundOf : ByteArray := prog_11_method_33_code
def yX9_roundOf : MethodName := ⟨RX9, "roundOf", "(I)I"⟩
abbrev cX9_round : ByteArray := prog_11_method_34_code
def yX9_round : MethodName := ⟨RX9, "round", "(I)I"⟩
abbrev cX9_stop : ByteArray := prog_11_method_35_code
def yX9_stop : MethodName := ⟨RX9, "stop", "(II)I"⟩
abbrev cX9_part : ByteArray := prog_11_method_36_code
def yX9_part : MethodName := ⟨RX9, "part", "()V"⟩
abbrev cX9_flights : ByteArray := prog_11_method_37_code
def yX9_flights : MethodName := ⟨RX9, "flights", "(I)I"⟩
abbrev cX9_energy : ByteArray := prog_11_method_38_code
def yX9_energy : MethodName := ⟨RX9, "energy", "(I)I"⟩
abbrev cX9_log : ByteArray := prog_11_method_39_code
def yX9_log : MethodName := ⟨RX9, "log", "(III)I"⟩
abbrev cX9_isProved : ByteArray := prog_11_method_40_code
def yX9_isProved : MethodName := ⟨RX9, "isProved", "(II)Z"⟩
abbrev cX9_proves : ByteArray := prog_11_method_41_code
def yX9_proves : MethodName := ⟨RX9, "proves", "(II)I"⟩
abbrev cX9_provedOf : ByteArray := prog_11_method_42_code
def yX9_provedOf : MethodName := ⟨RX9, "provedOf", "(I)I"⟩
abbrev cX9_proved : ByteArray := prog_11_method_43_code
def yX9_proved : MethodName := ⟨RX9, "proved", "(I)I"⟩
abbrev cX9_missing : ByteArray := prog_11_method_44_code
def yX9_missing : MethodName := ⟨RX9, "missing", "(II)I"⟩
abbrev cX9_mark : ByteArray := prog_11_method_45_code
def yX9_mark : MethodName := ⟨RX9, "mark", "(IIII)I"⟩
abbrev cX9_wipe : ByteArray := prog_11_method_46_code
def yX9_wipe : MethodName := ⟨RX9, "wipe", "(I)I"⟩
abbrev cX9_isOn : ByteArray := prog_11_method_47_code
def yX9_isOn : MethodName := ⟨RX9, "isOn", "(III)Z"⟩
abbrev cX9_marks : ByteArray := prog_11_method_48_code
def yX9_marks : MethodName := ⟨RX9, "marks", "(IIZ)I"⟩
abbrev cX9_placed : ByteArray := prog_11_method_49_code
def yX9_placed : MethodName := ⟨RX9, "placed", "(II[I)I"⟩
abbrev cX9_match : ByteArray := prog_11_method_50_code
def yX9_match : MethodName := ⟨RX9, "match", "(IIIIZ)I"⟩
abbrev cX9_take : ByteArray := prog_11_method_51_code
def yX9_take : MethodName := ⟨RX9, "take", "(IIII)V"⟩
abbrev cX9_count : ByteArray := prog_11_method_52_code
def yX9_count : MethodName := ⟨RX9, "count", "(I)I"⟩
def RJ6 : String := "java/lang/Integer"
def TJ6 : u_T := fun k => match k with
  | _ => ("", "", "", false)
def tyJ6 : Nat → FieldType := fun k => match k with
  | _ => .int
abbrev wsJ60 : List Cond := u_ws RJ6 TJ6 0
theorem nmJ6 : ∀ a, a < 0 → ∀ b, b < 0 → a ≠ b → (TJ6 a).2.1 ≠ (TJ6 b).2.1 := by decide +kernel
theorem tyJ6_ok : ∀ k, k < 0 → parseFieldDescriptor (TJ6 k).2.2.1 = some (tyJ6 k) := by decide +kernel
abbrev cJ6_bitCount_0f7a4 : ByteArray := prog_12_method_49_code
def yJ6_bitCount_0f7a4 : MethodName := ⟨RJ6, "bitCount", "(I)I"⟩
def RJ9 : String := "java/lang/Math"
def TJ9 : u_T := fun k => match k with
  | _ => ("", "", "", false)
def tyJ9 : Nat → FieldType := fun k => match k with
  | _ => .int
abbrev wsJ90 : List Cond := u_ws RJ9 TJ9 0
theorem nmJ9 : ∀ a, a < 0 → ∀ b, b < 0 → a ≠ b → (TJ9 a).2.1 ≠ (TJ9 b).2.1 := by decide +kernel
theorem tyJ9_ok : ∀ k, k < 0 → parseFieldDescriptor (TJ9 k).2.2.1 = some (tyJ9 k) := by decide +kernel
abbrev cJ9_abs_0f7a4 : ByteArray := prog_13_method_59_code
def yJ9_abs_0f7a4 : MethodName := ⟨RJ9, "abs", "(I)I"⟩
abbrev cJ9_max_7cf53 : ByteArray := prog_13_method_65_code
def yJ9_max_7cf53 : MethodName := ⟨RJ9, "max", "(II)I"⟩
abbrev cJ9_min_7cf53 : ByteArray := prog_13_method_69_code
def yJ9_min_7cf53 : MethodName := ⟨RJ9, "min", "(II)I"⟩
def RL : String := "WingLooksLaw"
abbrev cL_law : ByteArray := code
def yL_law : MethodName := ⟨RL, "law", "([I)Z"⟩
end
section
def wsL_law_r1 : List Cond := [Cond.classLink RL 7 RX8, Cond.instantiable RX8 8, Cond.initialized RX8, Cond.classLink RL 10 RX9, Cond.instantiable RX9 38, Cond.initialized RX9, Cond.methodLink RL 9 yX8_init, Cond.instanceMethod yX8_init, Cond.code yX8_init cX8_init 1 none, Cond.methodLink RX8 1 objectInit, Cond.instanceMethod objectInit, Cond.code objectInit ⟨#[0xb1]⟩ 1 none, Cond.classLink RX8 7 RX7, Cond.instantiable RX7 7, Cond.initialized RX7, Cond.fieldLink RX8 10 "WingLooks" "wings" "LWingLooks$Wings;", Cond.classLink RX8 16 RX5, Cond.instantiable RX5 3, Cond.initialized RX5, Cond.fieldLink RX8 21 "WingLooks" "views" "LWingLooks$Places;", Cond.classLink RX8 25 RX3, Cond.instantiable RX3 2, Cond.initialized RX3, Cond.fieldLink RX8 28 "WingLooks" "lookout" "LWingLooks$Lookout;"]
def wsL_law_r2 : List Cond := [Cond.classLink RX8 32 RX0, Cond.instantiable RX0 7, Cond.initialized RX0, Cond.fieldLink RX8 35 "WingLooks" "air" "LWingLooks$Air;", Cond.classLink RX8 39 RX1, Cond.instantiable RX1 4, Cond.initialized RX1, Cond.fieldLink RX8 42 "WingLooks" "craft" "LWingLooks$Craft;", Cond.classLink RX8 46 RX2, Cond.instantiable RX2 2, Cond.initialized RX2, Cond.fieldLink RX8 49 "WingLooks" "logBook" "LWingLooks$LogBook;", Cond.classLink RX8 53 RX4, Cond.instantiable RX4 11, Cond.initialized RX4, Cond.fieldLink RX8 56 "WingLooks" "markBook" "LWingLooks$MarkBook;", Cond.instanceMethod yX7_init, Cond.code yX7_init cX7_init 1 none, Cond.methodLink RX7 3 objectInit, Cond.arrayClass .int, Cond.fieldLink RX7 9 "WingLooks$Wings" "startX" "[I", Cond.fieldLink RX7 15 "WingLooks$Wings" "startY" "[I", Cond.fieldLink RX7 18 "WingLooks$Wings" "endX" "[I", Cond.fieldLink RX7 21 "WingLooks$Wings" "endY" "[I"]
def wsL_law_r3 : List Cond := [Cond.fieldLink RX7 24 "WingLooks$Wings" "range" "I", Cond.fieldLink RX7 28 "WingLooks$Wings" "slant" "I", Cond.methodLink RX8 18 yX5_init, Cond.instanceMethod yX5_init, Cond.code yX5_init cX5_init 2 none, Cond.methodLink RX5 1 objectInit, Cond.fieldLink RX5 7 "WingLooks$Places" "x" "[I", Cond.fieldLink RX5 13 "WingLooks$Places" "y" "[I", Cond.instanceMethod yX3_init, Cond.code yX3_init cX3_init 1 none, Cond.methodLink RX3 3 objectInit, Cond.fieldLink RX3 9 "WingLooks$Lookout" "watchers" "[I", Cond.instanceMethod yX0_init, Cond.code yX0_init cX0_init 1 none, Cond.methodLink RX0 3 objectInit, Cond.fieldLink RX0 9 "WingLooks$Air" "left" "[I", Cond.fieldLink RX0 15 "WingLooks$Air" "bottom" "[I", Cond.fieldLink RX0 18 "WingLooks$Air" "right" "[I", Cond.fieldLink RX0 21 "WingLooks$Air" "top" "[I", Cond.instanceMethod yX1_init, Cond.code yX1_init cX1_init 1 none, Cond.methodLink RX1 1 objectInit, Cond.fieldLink RX1 7 "WingLooks$Craft" "battery" "I", Cond.instanceMethod yX2_init]
def wsL_law_r4 : List Cond := [Cond.code yX2_init cX2_init 1 none, Cond.methodLink RX2 3 objectInit, Cond.classLink RX2 9 RX5, Cond.fieldLink RX2 14 "WingLooks$LogBook" "places" "LWingLooks$Places;", Cond.fieldLink RX2 20 "WingLooks$LogBook" "spread" "[I", Cond.methodLink RX2 11 yX5_init, Cond.instanceMethod yX4_init, Cond.code yX4_init cX4_init 1 none, Cond.methodLink RX4 3 objectInit, Cond.fieldLink RX4 9 "WingLooks$MarkBook" "panelOf" "[I", Cond.fieldLink RX4 15 "WingLooks$MarkBook" "atOf" "[I", Cond.fieldLink RX4 18 "WingLooks$MarkBook" "lengthOf" "[I", Cond.fieldLink RX4 21 "WingLooks$MarkBook" "yearOf" "[I", Cond.arrayClass .boolean, Cond.fieldLink RX4 24 "WingLooks$MarkBook" "wiped" "[Z", Cond.fieldLink RX4 28 "WingLooks$MarkBook" "placesOne" "[I", Cond.fieldLink RX4 31 "WingLooks$MarkBook" "placesTwo" "[I", Cond.fieldLink RX4 34 "WingLooks$MarkBook" "worth" "[I", Cond.methodLink RL 12 yX9_init, Cond.instanceMethod yX9_init, Cond.code yX9_init cX9_init 1 none, Cond.methodLink RX9 1 objectInit, Cond.fieldLink RX9 7 "WingLooksModel" "px" "[I", Cond.fieldLink RX9 13 "WingLooksModel" "py" "[I"]
def wsL_law_r5 : List Cond := [Cond.fieldLink RX9 16 "WingLooksModel" "qx" "[I", Cond.fieldLink RX9 19 "WingLooksModel" "qy" "[I", Cond.fieldLink RX9 22 "WingLooksModel" "range" "I", Cond.fieldLink RX9 26 "WingLooksModel" "slant" "I", Cond.fieldLink RX9 29 "WingLooksModel" "vx" "[I", Cond.fieldLink RX9 32 "WingLooksModel" "vy" "[I", Cond.fieldLink RX9 35 "WingLooksModel" "lowX" "[I", Cond.fieldLink RX9 38 "WingLooksModel" "lowY" "[I", Cond.fieldLink RX9 41 "WingLooksModel" "highX" "[I", Cond.fieldLink RX9 44 "WingLooksModel" "highY" "[I", Cond.fieldLink RX9 47 "WingLooksModel" "battery" "I", Cond.fieldLink RX9 50 "WingLooksModel" "lx" "[I", Cond.fieldLink RX9 53 "WingLooksModel" "ly" "[I", Cond.fieldLink RX9 56 "WingLooksModel" "le" "[I", Cond.fieldLink RX9 59 "WingLooksModel" "markPanel" "[I", Cond.fieldLink RX9 62 "WingLooksModel" "markAt" "[I", Cond.fieldLink RX9 65 "WingLooksModel" "markLength" "[I", Cond.fieldLink RX9 68 "WingLooksModel" "markYear" "[I", Cond.fieldLink RX9 71 "WingLooksModel" "isWiped" "[Z", Cond.fieldLink RX9 75 "WingLooksModel" "legs" "[I", Cond.fieldLink RX9 78 "WingLooksModel" "rest" "[I", Cond.fieldLink RX9 81 "WingLooksModel" "fewest" "[I", Cond.fieldLink RX9 84 "WingLooksModel" "least" "[I", Cond.fieldLink RX9 87 "WingLooksModel" "one" "[I"]
def wsL_law_r6 : List Cond := [Cond.fieldLink RX9 90 "WingLooksModel" "two" "[I", Cond.fieldLink RX9 93 "WingLooksModel" "pairs" "[I", Cond.fieldLink RX9 96 "WingLooksModel" "drift" "[I", Cond.methodLink RL 13 yX8_panel, Cond.instanceMethod yX8_panel, Cond.selects RX8 yX8_panel yX8_panel, Cond.code yX8_panel cX8_panel 5 (some .int), Cond.fieldLink RX8 64 "WingLooks$Wings" "size" "I", Cond.methodLink RX8 60 yX8_isPoint, Cond.static yX8_isPoint, Cond.code yX8_isPoint cX8_isPoint 2 (some .boolean), Cond.methodLink RX8 72 yX8_isWithin, Cond.static yX8_isWithin, Cond.code yX8_isWithin cX8_isWithin 3 (some .boolean), Cond.methodLink RX8 68 yX7_add, Cond.instanceMethod yX7_add, Cond.selects RX7 yX7_add yX7_add, Cond.code yX7_add cX7_add 5 (some .int), Cond.fieldLink RX7 31 "WingLooks$Wings" "size" "I", Cond.methodLink RL 17 yX9_panel, Cond.instanceMethod yX9_panel, Cond.selects RX9 yX9_panel yX9_panel, Cond.code yX9_panel cX9_panel 5 (some .int), Cond.fieldLink RX9 99 "WingLooksModel" "thrown" "I"]
def wsL_law_r7 : List Cond := [Cond.fieldLink RX9 108 "WingLooksModel" "panels" "I", Cond.methodLink RX9 134 yX9_noPoint, Cond.static yX9_noPoint, Cond.code yX9_noPoint cX9_noPoint 2 (some .boolean), Cond.constantLong RX9 102 (60), Cond.methodLink RX9 104 yX9_in, Cond.static yX9_in, Cond.code yX9_in cX9_in 6 (some .boolean), Cond.methodLink RL 18 yX8_eye, Cond.instanceMethod yX8_eye, Cond.selects RX8 yX8_eye yX8_eye, Cond.code yX8_eye cX8_eye 4 (some .int), Cond.fieldLink RX8 76 "WingLooks$Wings" "range" "I", Cond.fieldLink RX8 79 "WingLooks$Wings" "slant" "I", Cond.methodLink RL 22 yX9_eye, Cond.instanceMethod yX9_eye, Cond.selects RX9 yX9_eye yX9_eye, Cond.code yX9_eye cX9_eye 4 (some .int), Cond.constantLong RX9 138 (90), Cond.constantLong RX9 128 (100), Cond.methodLink RL 23 yX8_view, Cond.instanceMethod yX8_view, Cond.selects RX8 yX8_view yX8_view, Cond.code yX8_view cX8_view 3 (some .int)]
def wsL_law_r8 : List Cond := [Cond.fieldLink RX8 82 "WingLooks$Places" "size" "I", Cond.methodLink RX8 83 yX5_add, Cond.instanceMethod yX5_add, Cond.selects RX5 yX5_add yX5_add, Cond.code yX5_add cX5_add 3 (some .int), Cond.fieldLink RX5 16 "WingLooks$Places" "size" "I", Cond.methodLink RL 26 yX9_view, Cond.instanceMethod yX9_view, Cond.selects RX9 yX9_view yX9_view, Cond.code yX9_view cX9_view 3 (some .int), Cond.fieldLink RX9 111 "WingLooksModel" "views" "I", Cond.methodLink RL 27 yX8_seen, Cond.instanceMethod yX8_seen, Cond.selects RX8 yX8_seen yX8_seen, Cond.code yX8_seen cX8_seen 4 (some .int), Cond.methodLink RX8 86 yX8_isPanel, Cond.instanceMethod yX8_isPanel, Cond.selects RX8 yX8_isPanel yX8_isPanel, Cond.code yX8_isPanel cX8_isPanel 2 (some .boolean), Cond.methodLink RX8 90 yX7_isVisible, Cond.instanceMethod yX7_isVisible, Cond.selects RX7 yX7_isVisible yX7_isVisible, Cond.code yX7_isVisible cX7_isVisible 15 (some .boolean), Cond.constantLong RX7 38 (100)]
def wsL_law_r9 : List Cond := [Cond.methodLink RX7 40 yX7_isTouched, Cond.instanceMethod yX7_isTouched, Cond.selects RX7 yX7_isTouched yX7_isTouched, Cond.code yX7_isTouched cX7_isTouched 10 (some .boolean), Cond.methodLink RX7 44 yX7_doOverlap, Cond.static yX7_doOverlap, Cond.code yX7_doOverlap cX7_doOverlap 4 (some .boolean), Cond.methodLink RX7 56 Lib.Math.max.name, Cond.static Lib.Math.max.name, Cond.initialized "java/lang/Math", Cond.code Lib.Math.max.name Lib.Math.max.code 2 (some .int), Cond.methodLink RX7 62 Lib.Math.min.name, Cond.static Lib.Math.min.name, Cond.code Lib.Math.min.name Lib.Math.min.code 2 (some .int), Cond.static yX8_turn, Cond.code yX8_turn cX8_turn 6 (some .int), Cond.methodLink RX7 52 yX7_areApart, Cond.static yX7_areApart, Cond.code yX7_areApart cX7_areApart 2 (some .boolean), Cond.methodLink RX8 93 yX8_asNumber, Cond.static yX8_asNumber, Cond.code yX8_asNumber cX8_asNumber 1 (some .int), Cond.methodLink RL 31 yX9_seen, Cond.instanceMethod yX9_seen]
def wsL_law_r10 : List Cond := [Cond.selects RX9 yX9_seen yX9_seen, Cond.code yX9_seen cX9_seen 4 (some .int), Cond.methodLink RX9 140 yX9_noPanel, Cond.instanceMethod yX9_noPanel, Cond.selects RX9 yX9_noPanel yX9_noPanel, Cond.code yX9_noPanel cX9_noPanel 2 (some .boolean), Cond.methodLink RX9 144 yX9_isSeen, Cond.instanceMethod yX9_isSeen, Cond.selects RX9 yX9_isSeen yX9_isSeen, Cond.code yX9_isSeen cX9_isSeen 18 (some .boolean), Cond.constantLong RX9 126 (4), Cond.methodLink RX9 114 yX9_cross, Cond.static yX9_cross, Cond.code yX9_cross cX9_cross 4 (some .int), Cond.methodLink RX9 130 yX9_meet, Cond.static yX9_meet, Cond.code yX9_meet cX9_meet 12 (some .boolean), Cond.methodLink RX9 118 yX9_sign, Cond.static yX9_sign, Cond.code yX9_sign cX9_sign 1 (some .int), Cond.methodLink RX9 122 yX9_isBetween, Cond.static yX9_isBetween, Cond.code yX9_isBetween cX9_isBetween 8 (some .boolean), Cond.methodLink RL 32 yX8_sees]
def wsL_law_r11 : List Cond := [Cond.instanceMethod yX8_sees, Cond.selects RX8 yX8_sees yX8_sees, Cond.code yX8_sees cX8_sees 2 (some .int), Cond.fieldLink RX8 97 "WingLooks$Places" "x" "[I", Cond.fieldLink RX8 101 "WingLooks$Places" "y" "[I", Cond.methodLink RX8 104 yX7_visibleFrom, Cond.instanceMethod yX7_visibleFrom, Cond.selects RX7 yX7_visibleFrom yX7_visibleFrom, Cond.code yX7_visibleFrom cX7_visibleFrom 5 (some .int), Cond.methodLink RX7 34 yX7_isVisible, Cond.methodLink RL 36 yX9_sees, Cond.instanceMethod yX9_sees, Cond.selects RX9 yX9_sees yX9_sees, Cond.code yX9_sees cX9_sees 2 (some .int), Cond.methodLink RX9 148 yX9_seesOf, Cond.instanceMethod yX9_seesOf, Cond.selects RX9 yX9_seesOf yX9_seesOf, Cond.code yX9_seesOf cX9_seesOf 4 (some .int), Cond.methodLink RL 37 yX8_cover, Cond.instanceMethod yX8_cover, Cond.selects RX8 yX8_cover yX8_cover, Cond.code yX8_cover cX8_cover 2 (some .int), Cond.methodLink RX8 107 yX3_watch, Cond.instanceMethod yX3_watch]
def wsL_law_r12 : List Cond := [Cond.selects RX3 yX3_watch yX3_watch, Cond.code yX3_watch cX3_watch 6 none, Cond.fieldLink RX3 15 "WingLooks$Wings" "size" "I", Cond.fieldLink RX3 21 "WingLooks$Lookout" "panels" "I", Cond.fieldLink RX3 24 "WingLooks$Places" "size" "I", Cond.fieldLink RX3 27 "WingLooks$Places" "x" "[I", Cond.fieldLink RX3 30 "WingLooks$Places" "y" "[I", Cond.methodLink RX3 33 yX7_isVisible, Cond.methodLink RX8 111 yX3_smallestCover, Cond.instanceMethod yX3_smallestCover, Cond.selects RX3 yX3_smallestCover yX3_smallestCover, Cond.code yX3_smallestCover cX3_smallestCover 7 (some .int), Cond.methodLink RX3 40 yJ6_bitCount_0f7a4, Cond.static yJ6_bitCount_0f7a4, Cond.initialized RJ6, Cond.code yJ6_bitCount_0f7a4 cJ6_bitCount_0f7a4 1 (some .int), Cond.constant RJ6 265 (1431655765), Cond.constant RJ6 266 (858993459), Cond.constant RJ6 267 (252645135), Cond.methodLink RX3 50 yX3_leastTimes, Cond.instanceMethod yX3_leastTimes, Cond.selects RX3 yX3_leastTimes yX3_leastTimes, Cond.code yX3_leastTimes cX3_leastTimes 4 (some .int), Cond.constant RX3 39 (2147483647)]
def wsL_law_r13 : List Cond := [Cond.methodLink RX3 44 Lib.Math.min.name, Cond.methodLink RL 40 yX9_cover, Cond.instanceMethod yX9_cover, Cond.selects RX9 yX9_cover yX9_cover, Cond.code yX9_cover cX9_cover 4 (some .int), Cond.constantLong RX9 152 (3), Cond.methodLink RX9 154 yX9_look, Cond.instanceMethod yX9_look, Cond.selects RX9 yX9_look yX9_look, Cond.code yX9_look cX9_look 2 none, Cond.methodLink RX9 157 yX9_bits, Cond.static yX9_bits, Cond.code yX9_bits cX9_bits 3 (some .int), Cond.methodLink RX9 160 yX9_timesOf, Cond.instanceMethod yX9_timesOf, Cond.selects RX9 yX9_timesOf yX9_timesOf, Cond.code yX9_timesOf cX9_timesOf 6 (some .int), Cond.constant RX9 151 (1000000), Cond.methodLink RL 41 yX8_covers, Cond.instanceMethod yX8_covers, Cond.selects RX8 yX8_covers yX8_covers, Cond.code yX8_covers cX8_covers 3 (some .int), Cond.methodLink RX8 114 yX8_isViewSet, Cond.instanceMethod yX8_isViewSet]
def wsL_law_r14 : List Cond := [Cond.selects RX8 yX8_isViewSet yX8_isViewSet, Cond.code yX8_isViewSet cX8_isViewSet 2 (some .boolean), Cond.methodLink RX8 117 yX3_leastTimes, Cond.methodLink RL 44 yX9_covers, Cond.instanceMethod yX9_covers, Cond.selects RX9 yX9_covers yX9_covers, Cond.code yX9_covers cX9_covers 3 (some .int), Cond.methodLink RX9 163 yX9_noSet, Cond.instanceMethod yX9_noSet, Cond.selects RX9 yX9_noSet yX9_noSet, Cond.code yX9_noSet cX9_noSet 2 (some .boolean), Cond.methodLink RL 45 yX8_times, Cond.instanceMethod yX8_times, Cond.selects RX8 yX8_times yX8_times, Cond.code yX8_times cX8_times 2 (some .int), Cond.methodLink RL 48 yX9_times, Cond.instanceMethod yX9_times, Cond.selects RX9 yX9_times yX9_times, Cond.code yX9_times cX9_times 2 (some .int), Cond.methodLink RL 49 yX8_close, Cond.instanceMethod yX8_close, Cond.selects RX8 yX8_close yX8_close, Cond.code yX8_close cX8_close 5 (some .int), Cond.fieldLink RX8 121 "WingLooks$Air" "size" "I"]
def wsL_law_r15 : List Cond := [Cond.methodLink RX8 122 yX0_add, Cond.instanceMethod yX0_add, Cond.selects RX0 yX0_add yX0_add, Cond.code yX0_add cX0_add 5 none, Cond.fieldLink RX0 24 "WingLooks$Air" "size" "I", Cond.methodLink RX8 125 yX8_forgetRoutes, Cond.instanceMethod yX8_forgetRoutes, Cond.selects RX8 yX8_forgetRoutes yX8_forgetRoutes, Cond.code yX8_forgetRoutes cX8_forgetRoutes 1 none, Cond.fieldLink RX8 211 "WingLooks" "routes" "LWingLooks$Routes;", Cond.methodLink RX8 221 yX6_forget, Cond.instanceMethod yX6_forget, Cond.selects RX6 yX6_forget yX6_forget, Cond.initialized RX6, Cond.code yX6_forget cX6_forget 1 none, Cond.fieldLink RX6 36 "WingLooks$Routes" "routedSet" "I", Cond.fieldLink RX6 40 "WingLooks$Routes" "splitSet" "I", Cond.methodLink RL 52 yX9_close, Cond.instanceMethod yX9_close, Cond.selects RX9 yX9_close yX9_close, Cond.code yX9_close cX9_close 5 (some .int), Cond.fieldLink RX9 166 "WingLooksModel" "closed" "I", Cond.methodLink RL 53 yX8_open, Cond.instanceMethod yX8_open]
def wsL_law_r16 : List Cond := [Cond.selects RX8 yX8_open yX8_open, Cond.code yX8_open cX8_open 1 (some .int), Cond.methodLink RL 57 yX9_open, Cond.instanceMethod yX9_open, Cond.selects RX9 yX9_open yX9_open, Cond.code yX9_open cX9_open 1 (some .int), Cond.methodLink RL 58 yX8_wind, Cond.instanceMethod yX8_wind, Cond.selects RX8 yX8_wind yX8_wind, Cond.code yX8_wind cX8_wind 4 (some .int), Cond.fieldLink RX8 128 "WingLooks$Air" "windX" "I", Cond.fieldLink RX8 131 "WingLooks$Air" "windY" "I", Cond.methodLink RL 61 yX9_wind, Cond.instanceMethod yX9_wind, Cond.selects RX9 yX9_wind yX9_wind, Cond.code yX9_wind cX9_wind 4 (some .int), Cond.constantLong RX9 179 (-9), Cond.constantLong RX9 181 (9), Cond.fieldLink RX9 173 "WingLooksModel" "windX" "I", Cond.fieldLink RX9 176 "WingLooksModel" "windY" "I", Cond.methodLink RL 62 yX8_base, Cond.instanceMethod yX8_base, Cond.selects RX8 yX8_base yX8_base, Cond.code yX8_base cX8_base 4 (some .int)]
def wsL_law_r17 : List Cond := [Cond.fieldLink RX8 134 "WingLooks$Craft" "baseX" "I", Cond.fieldLink RX8 137 "WingLooks$Craft" "baseY" "I", Cond.methodLink RL 65 yX9_base, Cond.instanceMethod yX9_base, Cond.selects RX9 yX9_base yX9_base, Cond.code yX9_base cX9_base 4 (some .int), Cond.methodLink RL 66 yX8_store, Cond.instanceMethod yX8_store, Cond.selects RX8 yX8_store yX8_store, Cond.code yX8_store cX8_store 4 (some .int), Cond.fieldLink RX8 140 "WingLooks$Craft" "battery" "I", Cond.fieldLink RX8 143 "WingLooks$Craft" "hover" "I", Cond.methodLink RL 69 yX9_store, Cond.instanceMethod yX9_store, Cond.selects RX9 yX9_store yX9_store, Cond.code yX9_store cX9_store 4 (some .int), Cond.constantLong RX9 183 (30000), Cond.constantLong RX9 185 (500), Cond.fieldLink RX9 187 "WingLooksModel" "hover" "I", Cond.methodLink RL 70 yX8_leg, Cond.instanceMethod yX8_leg, Cond.selects RX8 yX8_leg yX8_leg, Cond.code yX8_leg cX8_leg 5 (some .int), Cond.methodLink RX8 146 yX0_isShut]
def wsL_law_r18 : List Cond := [Cond.instanceMethod yX0_isShut, Cond.selects RX0 yX0_isShut yX0_isShut, Cond.code yX0_isShut cX0_isShut 6 (some .boolean), Cond.methodLink RX0 28 yX0_goesInto, Cond.instanceMethod yX0_goesInto, Cond.selects RX0 yX0_goesInto yX0_goesInto, Cond.code yX0_goesInto cX0_goesInto 10 (some .boolean), Cond.methodLink RX0 32 Lib.Math.max.name, Cond.methodLink RX0 38 Lib.Math.min.name, Cond.methodLink RX8 150 yX0_cost, Cond.instanceMethod yX0_cost, Cond.selects RX0 yX0_cost yX0_cost, Cond.code yX0_cost cX0_cost 5 (some .int), Cond.fieldLink RX0 49 "WingLooks$Air" "windX" "I", Cond.fieldLink RX0 52 "WingLooks$Air" "windY" "I", Cond.methodLink RX0 45 yX0_rootUp, Cond.static yX0_rootUp, Cond.code yX0_rootUp cX0_rootUp 4 (some .int), Cond.methodLink RL 73 yX9_leg, Cond.instanceMethod yX9_leg, Cond.selects RX9 yX9_leg yX9_leg, Cond.code yX9_leg cX9_leg 6 (some .int), Cond.methodLink RX9 190 yX9_legOf, Cond.instanceMethod yX9_legOf]
def wsL_law_r19 : List Cond := [Cond.selects RX9 yX9_legOf yX9_legOf, Cond.code yX9_legOf cX9_legOf 10 (some .int), Cond.methodLink RX9 169 yX9_isInside, Cond.instanceMethod yX9_isInside, Cond.selects RX9 yX9_isInside yX9_isInside, Cond.code yX9_isInside cX9_isInside 25 (some .boolean), Cond.methodLink RL 74 yX8_round, Cond.instanceMethod yX8_round, Cond.selects RX8 yX8_round yX8_round, Cond.code yX8_round cX8_round 2 (some .int), Cond.methodLink RX8 153 yX8_routesFor, Cond.instanceMethod yX8_routesFor, Cond.selects RX8 yX8_routesFor yX8_routesFor, Cond.code yX8_routesFor cX8_routesFor 2 (some (.object "WingLooks$Routes")), Cond.classLink RX8 158 RX6, Cond.instantiable RX6 9, Cond.methodLink RX8 215 yX6_init, Cond.instanceMethod yX6_init, Cond.code yX6_init cX6_init 4 none, Cond.methodLink RX6 5 objectInit, Cond.fieldLink RX6 11 "WingLooks$Routes" "legCosts" "[I", Cond.fieldLink RX6 15 "WingLooks$Routes" "tails" "[I", Cond.fieldLink RX6 18 "WingLooks$Routes" "rounds" "[I", Cond.fieldLink RX6 21 "WingLooks$Routes" "splits" "[I"]
def wsL_law_r20 : List Cond := [Cond.fieldLink RX6 24 "WingLooks$Routes" "views" "LWingLooks$Places;", Cond.fieldLink RX6 28 "WingLooks$Routes" "air" "LWingLooks$Air;", Cond.fieldLink RX6 32 "WingLooks$Routes" "craft" "LWingLooks$Craft;", Cond.methodLink RX8 218 yX6_learn, Cond.instanceMethod yX6_learn, Cond.selects RX6 yX6_learn yX6_learn, Cond.code yX6_learn cX6_learn 3 none, Cond.methodLink RX6 43 yX6_measureLegs, Cond.instanceMethod yX6_measureLegs, Cond.selects RX6 yX6_measureLegs yX6_measureLegs, Cond.code yX6_measureLegs cX6_measureLegs 7 none, Cond.constant RX6 71 (1000000), Cond.static yX8_has, Cond.code yX8_has cX8_has 2 (some .boolean), Cond.methodLink RX6 58 yX6_xOf, Cond.instanceMethod yX6_xOf, Cond.selects RX6 yX6_xOf yX6_xOf, Cond.code yX6_xOf cX6_xOf 2 (some .int), Cond.fieldLink RX6 75 "WingLooks$Craft" "baseX" "I", Cond.fieldLink RX6 80 "WingLooks$Places" "x" "[I", Cond.methodLink RX6 62 yX6_yOf, Cond.instanceMethod yX6_yOf, Cond.selects RX6 yX6_yOf yX6_yOf, Cond.code yX6_yOf cX6_yOf 2 (some .int)]
def wsL_law_r21 : List Cond := [Cond.fieldLink RX6 85 "WingLooks$Craft" "baseY" "I", Cond.fieldLink RX6 88 "WingLooks$Places" "y" "[I", Cond.methodLink RX6 65 yX0_isShut, Cond.methodLink RX6 72 yX0_cost, Cond.methodLink RX6 47 yX6_fillTails, Cond.instanceMethod yX6_fillTails, Cond.selects RX6 yX6_fillTails yX6_fillTails, Cond.code yX6_fillTails cX6_fillTails 3 none, Cond.fieldLink RX6 91 "WingLooks$Craft" "hover" "I", Cond.methodLink RX6 50 yX6_costFrom, Cond.instanceMethod yX6_costFrom, Cond.selects RX6 yX6_costFrom yX6_costFrom, Cond.code yX6_costFrom cX6_costFrom 5 (some .int), Cond.methodLink RX6 98 Lib.Math.min.name, Cond.methodLink RX6 94 yX6_costBy, Cond.instanceMethod yX6_costBy, Cond.selects RX6 yX6_costBy yX6_costBy, Cond.code yX6_costBy cX6_costBy 4 (some .int), Cond.methodLink RX8 157 yX6_roundCost, Cond.instanceMethod yX6_roundCost, Cond.selects RX6 yX6_roundCost yX6_roundCost, Cond.code yX6_roundCost cX6_roundCost 2 (some .int), Cond.methodLink RX6 103 yX6_hasRound, Cond.instanceMethod yX6_hasRound]
def wsL_law_r22 : List Cond := [Cond.selects RX6 yX6_hasRound yX6_hasRound, Cond.code yX6_hasRound cX6_hasRound 2 (some .boolean), Cond.methodLink RL 77 yX9_round, Cond.instanceMethod yX9_round, Cond.selects RX9 yX9_round yX9_round, Cond.code yX9_round cX9_round 2 (some .int), Cond.methodLink RX9 193 yX9_fly, Cond.instanceMethod yX9_fly, Cond.selects RX9 yX9_fly yX9_fly, Cond.code yX9_fly cX9_fly 6 none, Cond.methodLink RX9 196 yX9_roundOf, Cond.instanceMethod yX9_roundOf, Cond.selects RX9 yX9_roundOf yX9_roundOf, Cond.code yX9_roundOf cX9_roundOf 2 (some .int), Cond.methodLink RL 78 yX8_stop, Cond.instanceMethod yX8_stop, Cond.selects RX8 yX8_stop yX8_stop, Cond.code yX8_stop cX8_stop 3 (some .int), Cond.methodLink RX8 162 yX6_viewAt, Cond.instanceMethod yX6_viewAt, Cond.selects RX6 yX6_viewAt yX6_viewAt, Cond.code yX6_viewAt cX6_viewAt 6 (some .int), Cond.methodLink RX6 107 yJ6_bitCount_0f7a4, Cond.methodLink RX6 112 yX6_nextView]
def wsL_law_r23 : List Cond := [Cond.instanceMethod yX6_nextView, Cond.selects RX6 yX6_nextView yX6_nextView, Cond.code yX6_nextView cX6_nextView 6 (some .int), Cond.constant RX6 115 (2147483647), Cond.methodLink RL 81 yX9_stop, Cond.instanceMethod yX9_stop, Cond.selects RX9 yX9_stop yX9_stop, Cond.code yX9_stop cX9_stop 9 (some .int), Cond.methodLink RL 82 yX8_flights, Cond.instanceMethod yX8_flights, Cond.selects RX8 yX8_flights yX8_flights, Cond.code yX8_flights cX8_flights 2 (some .int), Cond.methodLink RX8 165 yX6_fewestTrips, Cond.instanceMethod yX6_fewestTrips, Cond.selects RX6 yX6_fewestTrips yX6_fewestTrips, Cond.code yX6_fewestTrips cX6_fewestTrips 2 (some .int), Cond.constant RX6 119 (100000000), Cond.methodLink RX6 116 yX6_splitUp, Cond.instanceMethod yX6_splitUp, Cond.selects RX6 yX6_splitUp yX6_splitUp, Cond.code yX6_splitUp cX6_splitUp 3 none, Cond.methodLink RX6 120 yX6_bestSplit, Cond.instanceMethod yX6_bestSplit, Cond.selects RX6 yX6_bestSplit yX6_bestSplit]
def wsL_law_r24 : List Cond := [Cond.code yX6_bestSplit cX6_bestSplit 9 (some .int), Cond.fieldLink RX6 123 "WingLooks$Craft" "battery" "I", Cond.methodLink RL 85 yX9_flights, Cond.instanceMethod yX9_flights, Cond.selects RX9 yX9_flights yX9_flights, Cond.code yX9_flights cX9_flights 2 (some .int), Cond.methodLink RX9 199 yX9_part, Cond.instanceMethod yX9_part, Cond.selects RX9 yX9_part yX9_part, Cond.code yX9_part cX9_part 7 none, Cond.methodLink RL 86 yX8_energy, Cond.instanceMethod yX8_energy, Cond.selects RX8 yX8_energy yX8_energy, Cond.code yX8_energy cX8_energy 2 (some .int), Cond.methodLink RX8 168 yX6_cheapestTrips, Cond.instanceMethod yX6_cheapestTrips, Cond.selects RX6 yX6_cheapestTrips yX6_cheapestTrips, Cond.code yX6_cheapestTrips cX6_cheapestTrips 2 (some .int), Cond.methodLink RL 89 yX9_energy, Cond.instanceMethod yX9_energy, Cond.selects RX9 yX9_energy yX9_energy, Cond.code yX9_energy cX9_energy 2 (some .int), Cond.methodLink RL 90 yX8_log, Cond.instanceMethod yX8_log]
def wsL_law_r25 : List Cond := [Cond.selects RX8 yX8_log yX8_log, Cond.code yX8_log cX8_log 4 (some .int), Cond.fieldLink RX8 171 "WingLooks$LogBook" "places" "LWingLooks$Places;", Cond.methodLink RX8 174 yX2_add, Cond.instanceMethod yX2_add, Cond.selects RX2 yX2_add yX2_add, Cond.code yX2_add cX2_add 4 (some .int), Cond.fieldLink RX2 24 "WingLooks$Places" "size" "I", Cond.methodLink RX2 28 yX5_add, Cond.methodLink RL 93 yX9_log, Cond.instanceMethod yX9_log, Cond.selects RX9 yX9_log yX9_log, Cond.code yX9_log cX9_log 4 (some .int), Cond.constantLong RX9 202 (5), Cond.fieldLink RX9 204 "WingLooksModel" "logs" "I", Cond.methodLink RL 94 yX8_proves, Cond.instanceMethod yX8_proves, Cond.selects RX8 yX8_proves yX8_proves, Cond.code yX8_proves cX8_proves 3 (some .int), Cond.methodLink RX8 177 yX2_isProof, Cond.instanceMethod yX2_isProof, Cond.selects RX2 yX2_isProof yX2_isProof, Cond.code yX2_isProof cX2_isProof 7 (some .boolean), Cond.fieldLink RX2 32 "WingLooks$Places" "x" "[I"]
def wsL_law_r26 : List Cond := [Cond.fieldLink RX2 35 "WingLooks$Places" "y" "[I", Cond.methodLink RX2 38 yX7_isVisible, Cond.methodLink RL 97 yX9_proves, Cond.instanceMethod yX9_proves, Cond.selects RX9 yX9_proves yX9_proves, Cond.code yX9_proves cX9_proves 3 (some .int), Cond.methodLink RX9 207 yX9_isProved, Cond.instanceMethod yX9_isProved, Cond.selects RX9 yX9_isProved yX9_isProved, Cond.code yX9_isProved cX9_isProved 5 (some .boolean), Cond.methodLink RL 98 yX8_proved, Cond.instanceMethod yX8_proved, Cond.selects RX8 yX8_proved yX8_proved, Cond.code yX8_proved cX8_proved 2 (some .int), Cond.methodLink RX8 181 yX2_proofs, Cond.instanceMethod yX2_proofs, Cond.selects RX2 yX2_proofs yX2_proofs, Cond.code yX2_proofs cX2_proofs 6 (some .int), Cond.methodLink RX2 44 yX2_isProof, Cond.methodLink RL 101 yX9_proved, Cond.instanceMethod yX9_proved, Cond.selects RX9 yX9_proved yX9_proved, Cond.code yX9_proved cX9_proved 2 (some .int), Cond.methodLink RX9 210 yX9_provedOf]
def wsL_law_r27 : List Cond := [Cond.instanceMethod yX9_provedOf, Cond.selects RX9 yX9_provedOf yX9_provedOf, Cond.code yX9_provedOf cX9_provedOf 4 (some .int), Cond.methodLink RL 102 yX8_missing, Cond.instanceMethod yX8_missing, Cond.selects RX8 yX8_missing yX8_missing, Cond.code yX8_missing cX8_missing 5 (some .int), Cond.methodLink RL 105 yX9_missing, Cond.instanceMethod yX9_missing, Cond.selects RX9 yX9_missing yX9_missing, Cond.code yX9_missing cX9_missing 5 (some .int), Cond.methodLink RL 106 yX8_mark, Cond.instanceMethod yX8_mark, Cond.selects RX8 yX8_mark yX8_mark, Cond.code yX8_mark cX8_mark 5 (some .int), Cond.fieldLink RX8 188 "WingLooks$MarkBook" "size" "I", Cond.methodLink RX8 185 yX8_isYear, Cond.static yX8_isYear, Cond.code yX8_isYear cX8_isYear 1 (some .boolean), Cond.methodLink RX8 189 yX4_add, Cond.instanceMethod yX4_add, Cond.selects RX4 yX4_add yX4_add, Cond.code yX4_add cX4_add 5 (some .int), Cond.fieldLink RX4 37 "WingLooks$MarkBook" "size" "I"]
def wsL_law_r28 : List Cond := [Cond.methodLink RL 109 yX9_mark, Cond.instanceMethod yX9_mark, Cond.selects RX9 yX9_mark yX9_mark, Cond.code yX9_mark cX9_mark 5 (some .int), Cond.constantLong RX9 213 (1000), Cond.fieldLink RX9 215 "WingLooksModel" "marks" "I", Cond.methodLink RL 110 yX8_wipe, Cond.instanceMethod yX8_wipe, Cond.selects RX8 yX8_wipe yX8_wipe, Cond.code yX8_wipe cX8_wipe 2 (some .int), Cond.fieldLink RX8 190 "WingLooks$MarkBook" "wiped" "[Z", Cond.methodLink RL 113 yX9_wipe, Cond.instanceMethod yX9_wipe, Cond.selects RX9 yX9_wipe yX9_wipe, Cond.code yX9_wipe cX9_wipe 2 (some .int), Cond.methodLink RL 114 yX8_marks, Cond.instanceMethod yX8_marks, Cond.selects RX8 yX8_marks yX8_marks, Cond.code yX8_marks cX8_marks 4 (some .int), Cond.methodLink RX8 194 yX4_sum, Cond.instanceMethod yX4_sum, Cond.selects RX4 yX4_sum yX4_sum, Cond.code yX4_sum cX4_sum 6 (some .int), Cond.methodLink RX4 41 yX4_isOf]
def wsL_law_r29 : List Cond := [Cond.instanceMethod yX4_isOf, Cond.selects RX4 yX4_isOf yX4_isOf, Cond.code yX4_isOf cX4_isOf 4 (some .boolean), Cond.methodLink RL 118 yX9_marks, Cond.instanceMethod yX9_marks, Cond.selects RX9 yX9_marks yX9_marks, Cond.code yX9_marks cX9_marks 6 (some .int), Cond.methodLink RX9 218 yX9_isOn, Cond.instanceMethod yX9_isOn, Cond.selects RX9 yX9_isOn yX9_isOn, Cond.code yX9_isOn cX9_isOn 4 (some .boolean), Cond.methodLink RL 119 yX8_match, Cond.instanceMethod yX8_match, Cond.selects RX8 yX8_match yX8_match, Cond.code yX8_match cX8_match 6 (some .int), Cond.fieldLink RX8 201 "WingLooks$MarkBook" "pairedDrift" "I", Cond.fieldLink RX8 204 "WingLooks$MarkBook" "pairs" "I", Cond.methodLink RX8 198 yX4_pairUp, Cond.instanceMethod yX4_pairUp, Cond.selects RX4 yX4_pairUp yX4_pairUp, Cond.code yX4_pairUp cX4_pairUp 8 none, Cond.constant RX4 53 (100000), Cond.fieldLink RX4 54 "WingLooks$MarkBook" "pairs" "I", Cond.fieldLink RX4 57 "WingLooks$MarkBook" "pairedDrift" "I"]
def wsL_law_r30 : List Cond := [Cond.methodLink RX4 45 yX4_sortPlaces, Cond.instanceMethod yX4_sortPlaces, Cond.selects RX4 yX4_sortPlaces yX4_sortPlaces, Cond.code yX4_sortPlaces cX4_sortPlaces 7 (some .int), Cond.methodLink RX4 49 yX4_addPlace, Cond.instanceMethod yX4_addPlace, Cond.selects RX4 yX4_addPlace yX4_addPlace, Cond.code yX4_addPlace cX4_addPlace 8 none, Cond.methodLink RX4 60 Lib.Math.abs.name, Cond.static Lib.Math.abs.name, Cond.code Lib.Math.abs.name Lib.Math.abs.code 1 (some .int), Cond.methodLink RX4 66 Lib.Math.max.name, Cond.methodLink RL 123 yX9_match, Cond.instanceMethod yX9_match, Cond.selects RX9 yX9_match yX9_match, Cond.code yX9_match cX9_match 12 (some .int), Cond.methodLink RX9 221 yX9_placed, Cond.instanceMethod yX9_placed, Cond.selects RX9 yX9_placed yX9_placed, Cond.code yX9_placed cX9_placed 7 (some .int), Cond.methodLink RX9 225 yX9_take, Cond.instanceMethod yX9_take, Cond.selects RX9 yX9_take yX9_take, Cond.code yX9_take cX9_take 7 none]
def wsL_law_r31 : List Cond := [Cond.methodLink RL 124 yX8_count, Cond.instanceMethod yX8_count, Cond.selects RX8 yX8_count yX8_count, Cond.code yX8_count cX8_count 2 (some .int), Cond.methodLink RX8 207 yX4_present, Cond.instanceMethod yX4_present, Cond.selects RX4 yX4_present yX4_present, Cond.code yX4_present cX4_present 3 (some .int), Cond.methodLink RL 127 yX9_count, Cond.instanceMethod yX9_count, Cond.selects RX9 yX9_count yX9_count, Cond.code yX9_count cX9_count 4 (some .int)]
def wsL_law : List Cond := (wsL_law_r1 ++ (wsL_law_r2 ++ (wsL_law_r3 ++ (wsL_law_r4 ++ (wsL_law_r5 ++ (wsL_law_r6 ++ (wsL_law_r7 ++ (wsL_law_r8 ++ (wsL_law_r9 ++ (wsL_law_r10 ++ (wsL_law_r11 ++ (wsL_law_r12 ++ (wsL_law_r13 ++ (wsL_law_r14 ++ (wsL_law_r15 ++ (wsL_law_r16 ++ (wsL_law_r17 ++ (wsL_law_r18 ++ (wsL_law_r19 ++ (wsL_law_r20 ++ (wsL_law_r21 ++ (wsL_law_r22 ++ (wsL_law_r23 ++ (wsL_law_r24 ++ (wsL_law_r25 ++ (wsL_law_r26 ++ (wsL_law_r27 ++ (wsL_law_r28 ++ (wsL_law_r29 ++ (wsL_law_r30 ++ wsL_law_r31)))))))))))))))))))))))))))))) ++ wsX80 ++ wsX90 ++ wsX70 ++ wsX50 ++ wsX30 ++ wsX00 ++ wsX10 ++ wsX20 ++ wsX40 ++ wsX60 ++ ([] : List Cond)
set_option maxRecDepth 20000 in
theorem wg_wsL_law_r1 : GoodIn lw_tbl wsL_law_r1 := goodIn_r _ [48, 49, 36, 643, 644, 44, 50, 51, 52, 53, 54, 55, 56, 57, 37, 245, 89, 90, 38, 246, 116, 117, 39, 247] (by decide +kernel) (by decide +kernel)
set_option maxRecDepth 20000 in
theorem wg_wsL_law_r2 : GoodIn lw_tbl wsL_law_r2 := goodIn_r _ [129, 130, 40, 248, 160, 161, 41, 249, 184, 185, 42, 250, 200, 201, 43, 251, 59, 60, 61, 88, 62, 63, 64, 65] (by decide +kernel) (by decide +kernel)
set_option maxRecDepth 20000 in
theorem wg_wsL_law_r3 : GoodIn lw_tbl wsL_law_r3 := goodIn_r _ [69, 71, 91, 92, 93, 94, 95, 100, 119, 120, 121, 122, 132, 133, 134, 135, 136, 137, 138, 163, 164, 165, 170, 187] (by decide +kernel) (by decide +kernel)
set_option maxRecDepth 20000 in
theorem wg_wsL_law_r4 : GoodIn lw_tbl wsL_law_r4 := goodIn_r _ [188, 189, 190, 192, 194, 191, 203, 204, 205, 206, 207, 208, 209, 244, 210, 214, 215, 216, 645, 646, 647, 648, 651, 652] (by decide +kernel) (by decide +kernel)
set_option maxRecDepth 20000 in
theorem wg_wsL_law_r5 : GoodIn lw_tbl wsL_law_r5 := goodIn_r _ [653, 654, 655, 656, 658, 659, 661, 662, 663, 664, 667, 670, 671, 672, 674, 675, 676, 677, 678, 679, 680, 681, 682, 683] (by decide +kernel) (by decide +kernel)
set_option maxRecDepth 20000 in
theorem wg_wsL_law_r6 : GoodIn lw_tbl wsL_law_r6 := goodIn_r _ [684, 685, 686, 270, 271, 272, 273, 68, 274, 275, 276, 277, 278, 279, 280, 281, 282, 283, 67, 764, 765, 766, 767, 649] (by decide +kernel) (by decide +kernel)
set_option maxRecDepth 20000 in
theorem wg_wsL_law_r7 : GoodIn lw_tbl wsL_law_r7 := goodIn_r _ [650, 768, 769, 770, 771, 772, 773, 774, 284, 285, 286, 287, 70, 72, 775, 776, 777, 778, 779, 780, 288, 289, 290, 291] (by decide +kernel) (by decide +kernel)
set_option maxRecDepth 20000 in
theorem wg_wsL_law_r8 : GoodIn lw_tbl wsL_law_r8 := goodIn_r _ [108, 292, 293, 294, 295, 105, 781, 782, 783, 784, 657, 296, 297, 298, 299, 300, 302, 0, 303, 304, 305, 306, 307, 308] (by decide +kernel) (by decide +kernel)
set_option maxRecDepth 20000 in
theorem wg_wsL_law_r9 : GoodIn lw_tbl wsL_law_r9 := goodIn_r _ [309, 311, 1, 312, 313, 314, 315, 316, 317, 45, 318, 319, 320, 321, 323, 324, 325, 326, 327, 328, 329, 330, 785, 786] (by decide +kernel) (by decide +kernel)
set_option maxRecDepth 20000 in
theorem wg_wsL_law_r10 : GoodIn lw_tbl wsL_law_r10 := goodIn_r _ [787, 788, 789, 791, 19, 792, 793, 795, 20, 796, 800, 797, 798, 799, 801, 802, 803, 804, 805, 806, 807, 808, 809, 331] (by decide +kernel) (by decide +kernel)
set_option maxRecDepth 20000 in
theorem wg_wsL_law_r11 : GoodIn lw_tbl wsL_law_r11 := goodIn_r _ [332, 333, 334, 99, 104, 335, 336, 337, 338, 339, 810, 811, 812, 813, 814, 816, 21, 817, 340, 341, 342, 343, 344, 345] (by decide +kernel) (by decide +kernel)
set_option maxRecDepth 20000 in
theorem wg_wsL_law_r12 : GoodIn lw_tbl wsL_law_r12 := goodIn_r _ [346, 347, 66, 123, 107, 96, 101, 348, 349, 350, 351, 352, 353, 354, 46, 355, 356, 357, 358, 359, 360, 361, 362, 363] (by decide +kernel) (by decide +kernel)
set_option maxRecDepth 20000 in
theorem wg_wsL_law_r13 : GoodIn lw_tbl wsL_law_r13 := goodIn_r _ [364, 818, 819, 820, 821, 822, 823, 825, 22, 826, 827, 828, 829, 830, 832, 23, 833, 834, 365, 366, 367, 368, 369, 371] (by decide +kernel) (by decide +kernel)
set_option maxRecDepth 20000 in
theorem wg_wsL_law_r14 : GoodIn lw_tbl wsL_law_r14 := goodIn_r _ [2, 372, 373, 835, 836, 837, 838, 839, 841, 24, 842, 374, 375, 376, 377, 843, 844, 845, 846, 378, 379, 380, 381, 140] (by decide +kernel) (by decide +kernel)
set_option maxRecDepth 20000 in
theorem wg_wsL_law_r15 : GoodIn lw_tbl wsL_law_r15 := goodIn_r _ [382, 383, 384, 385, 139, 386, 388, 3, 389, 252, 390, 391, 392, 47, 393, 453, 454, 847, 848, 849, 850, 660, 394, 395] (by decide +kernel) (by decide +kernel)
set_option maxRecDepth 20000 in
theorem wg_wsL_law_r16 : GoodIn lw_tbl wsL_law_r16 := goodIn_r _ [396, 397, 851, 852, 853, 854, 398, 399, 400, 401, 142, 144, 855, 856, 857, 858, 859, 860, 665, 666, 402, 403, 404, 405] (by decide +kernel) (by decide +kernel)
set_option maxRecDepth 20000 in
theorem wg_wsL_law_r17 : GoodIn lw_tbl wsL_law_r17 := goodIn_r _ [167, 169, 861, 862, 863, 864, 406, 407, 408, 409, 171, 174, 865, 866, 867, 868, 869, 870, 668, 410, 411, 412, 413, 414] (by decide +kernel) (by decide +kernel)
set_option maxRecDepth 20000 in
theorem wg_wsL_law_r18 : GoodIn lw_tbl wsL_law_r18 := goodIn_r _ [415, 416, 417, 418, 420, 4, 421, 422, 423, 425, 426, 427, 428, 141, 143, 429, 430, 431, 871, 872, 873, 874, 875, 877] (by decide +kernel) (by decide +kernel)
set_option maxRecDepth 20000 in
theorem wg_wsL_law_r19 : GoodIn lw_tbl wsL_law_r19 := goodIn_r _ [25, 878, 879, 881, 26, 882, 432, 433, 434, 435, 436, 438, 5, 439, 440, 441, 442, 443, 444, 445, 449, 450, 451, 452] (by decide +kernel) (by decide +kernel)
set_option maxRecDepth 20000 in
theorem wg_wsL_law_r20 : GoodIn lw_tbl wsL_law_r20 := goodIn_r _ [446, 447, 448, 474, 475, 476, 477, 478, 480, 6, 481, 494, 483, 484, 485, 487, 7, 488, 166, 98, 489, 491, 8, 492] (by decide +kernel) (by decide +kernel)
set_option maxRecDepth 20000 in
theorem wg_wsL_law_r21 : GoodIn lw_tbl wsL_law_r21 := goodIn_r _ [168, 103, 493, 495, 496, 498, 9, 499, 173, 500, 502, 10, 503, 508, 504, 506, 11, 507, 509, 510, 511, 512, 513, 515] (by decide +kernel) (by decide +kernel)
set_option maxRecDepth 20000 in
theorem wg_wsL_law_r22 : GoodIn lw_tbl wsL_law_r22 := goodIn_r _ [12, 516, 883, 884, 885, 886, 887, 889, 27, 890, 891, 893, 28, 894, 517, 518, 519, 520, 521, 522, 523, 524, 525, 526] (by decide +kernel) (by decide +kernel)
set_option maxRecDepth 20000 in
theorem wg_wsL_law_r23 : GoodIn lw_tbl wsL_law_r23 := goodIn_r _ [528, 13, 529, 530, 895, 896, 897, 898, 531, 532, 533, 534, 535, 536, 537, 538, 547, 539, 541, 14, 542, 543, 545, 15] (by decide +kernel) (by decide +kernel)
set_option maxRecDepth 20000 in
theorem wg_wsL_law_r24 : GoodIn lw_tbl wsL_law_r24 := goodIn_r _ [546, 172, 899, 900, 901, 902, 903, 905, 29, 906, 548, 549, 550, 551, 552, 553, 554, 555, 907, 908, 909, 910, 556, 557] (by decide +kernel) (by decide +kernel)
set_option maxRecDepth 20000 in
theorem wg_wsL_law_r25 : GoodIn lw_tbl wsL_law_r25 := goodIn_r _ [558, 559, 193, 560, 561, 562, 563, 106, 564, 911, 912, 913, 914, 915, 669, 565, 566, 567, 568, 569, 570, 571, 572, 97] (by decide +kernel) (by decide +kernel)
set_option maxRecDepth 20000 in
theorem wg_wsL_law_r26 : GoodIn lw_tbl wsL_law_r26 := goodIn_r _ [102, 573, 916, 917, 918, 919, 920, 922, 30, 923, 574, 575, 576, 577, 578, 579, 580, 581, 582, 924, 925, 926, 927, 928] (by decide +kernel) (by decide +kernel)
set_option maxRecDepth 20000 in
theorem wg_wsL_law_r27 : GoodIn lw_tbl wsL_law_r27 := goodIn_r _ [930, 31, 931, 583, 584, 585, 586, 932, 933, 934, 935, 587, 588, 589, 590, 213, 591, 592, 593, 594, 595, 596, 597, 212] (by decide +kernel) (by decide +kernel)
set_option maxRecDepth 20000 in
theorem wg_wsL_law_r28 : GoodIn lw_tbl wsL_law_r28 := goodIn_r _ [936, 937, 938, 939, 940, 673, 598, 599, 600, 601, 211, 941, 942, 943, 944, 602, 603, 604, 605, 606, 607, 608, 609, 610] (by decide +kernel) (by decide +kernel)
set_option maxRecDepth 20000 in
theorem wg_wsL_law_r29 : GoodIn lw_tbl wsL_law_r29 := goodIn_r _ [612, 16, 613, 945, 946, 947, 948, 949, 951, 32, 952, 614, 615, 616, 617, 220, 218, 618, 619, 620, 621, 634, 217, 219] (by decide +kernel) (by decide +kernel)
set_option maxRecDepth 20000 in
theorem wg_wsL_law_r30 : GoodIn lw_tbl wsL_law_r30 := goodIn_r _ [622, 624, 17, 625, 626, 628, 18, 629, 630, 631, 632, 633, 953, 954, 955, 956, 957, 959, 33, 960, 961, 963, 34, 964] (by decide +kernel) (by decide +kernel)
set_option maxRecDepth 20000 in
theorem wg_wsL_law_r31 : GoodIn lw_tbl wsL_law_r31 := goodIn_r _ [635, 636, 637, 638, 639, 640, 641, 642, 965, 966, 967, 968] (by decide +kernel) (by decide +kernel)
set_option maxRecDepth 20000 in
theorem wg_wsX80 : GoodIn lw_tbl wsX80 := goodIn_r _ [253, 255, 257, 259, 261, 263, 265, 267] (by decide +kernel) (by decide +kernel)
set_option maxRecDepth 20000 in
theorem wg_wsX90 : GoodIn lw_tbl wsX90 := goodIn_r _ [687, 689, 691, 693, 695, 697, 699, 701, 703, 705, 707, 709, 711, 713, 715, 717, 719, 721, 723, 725, 727, 729, 731, 733, 735, 737, 739, 741, 743, 745, 747, 749, 751, 753, 755, 757, 759, 761] (by decide +kernel) (by decide +kernel)
set_option maxRecDepth 20000 in
theorem wg_wsX70 : GoodIn lw_tbl wsX70 := goodIn_r _ [73, 75, 77, 79, 81, 83, 85] (by decide +kernel) (by decide +kernel)
set_option maxRecDepth 20000 in
theorem wg_wsX50 : GoodIn lw_tbl wsX50 := goodIn_r _ [109, 111, 113] (by decide +kernel) (by decide +kernel)
set_option maxRecDepth 20000 in
theorem wg_wsX30 : GoodIn lw_tbl wsX30 := goodIn_r _ [124, 126] (by decide +kernel) (by decide +kernel)
set_option maxRecDepth 20000 in
theorem wg_wsX00 : GoodIn lw_tbl wsX00 := goodIn_r _ [145, 147, 149, 151, 153, 155, 157] (by decide +kernel) (by decide +kernel)
set_option maxRecDepth 20000 in
theorem wg_wsX10 : GoodIn lw_tbl wsX10 := goodIn_r _ [175, 177, 179, 181] (by decide +kernel) (by decide +kernel)
set_option maxRecDepth 20000 in
theorem wg_wsX20 : GoodIn lw_tbl wsX20 := goodIn_r _ [195, 197] (by decide +kernel) (by decide +kernel)
set_option maxRecDepth 20000 in
theorem wg_wsX40 : GoodIn lw_tbl wsX40 := goodIn_r _ [221, 223, 225, 227, 229, 231, 233, 235, 237, 239, 241] (by decide +kernel) (by decide +kernel)
set_option maxRecDepth 20000 in
theorem wg_wsX60 : GoodIn lw_tbl wsX60 := goodIn_r _ [455, 457, 459, 461, 463, 465, 467, 469, 471] (by decide +kernel) (by decide +kernel)
theorem wg_all : GoodIn lw_tbl wsL_law := goodIn_app (goodIn_app (goodIn_app (goodIn_app (goodIn_app (goodIn_app (goodIn_app (goodIn_app (goodIn_app (goodIn_app (goodIn_app (goodIn_app wg_wsL_law_r1 (goodIn_app wg_wsL_law_r2 (goodIn_app wg_wsL_law_r3 (goodIn_app wg_wsL_law_r4 (goodIn_app wg_wsL_law_r5 (goodIn_app wg_wsL_law_r6 (goodIn_app wg_wsL_law_r7 (goodIn_app wg_wsL_law_r8 (goodIn_app wg_wsL_law_r9 (goodIn_app wg_wsL_law_r10 (goodIn_app wg_wsL_law_r11 (goodIn_app wg_wsL_law_r12 (goodIn_app wg_wsL_law_r13 (goodIn_app wg_wsL_law_r14 (goodIn_app wg_wsL_law_r15 (goodIn_app wg_wsL_law_r16 (goodIn_app wg_wsL_law_r17 (goodIn_app wg_wsL_law_r18 (goodIn_app wg_wsL_law_r19 (goodIn_app wg_wsL_law_r20 (goodIn_app wg_wsL_law_r21 (goodIn_app wg_wsL_law_r22 (goodIn_app wg_wsL_law_r23 (goodIn_app wg_wsL_law_r24 (goodIn_app wg_wsL_law_r25 (goodIn_app wg_wsL_law_r26 (goodIn_app wg_wsL_law_r27 (goodIn_app wg_wsL_law_r28 (goodIn_app wg_wsL_law_r29 (goodIn_app wg_wsL_law_r30 (wg_wsL_law_r31))))))))))))))))))))))))))))))) wg_wsX80) wg_wsX90) wg_wsX70) wg_wsX50) wg_wsX30) wg_wsX00) wg_wsX10) wg_wsX20) wg_wsX40) wg_wsX60) (fun _ h => absurd h List.not_mem_nil)
theorem wsL_law_in : ∀ w ∈ wsL_law, w ∈ lw_tbl := fun w h => (wg_all w h).1
theorem inlX0 : ∀ w ∈ wsX00, w ∈ wsL_law := fun _ h => List.mem_append_left _ (List.mem_append_left _ (List.mem_append_left _ (List.mem_append_left _ (List.mem_append_left _ (List.mem_append_right _ h)))))
theorem inX0 : ∀ w ∈ wsX00, w ∈ lw_tbl := fun w h => wsL_law_in w (inlX0 w h)
theorem inlX1 : ∀ w ∈ wsX10, w ∈ wsL_law := fun _ h => List.mem_append_left _ (List.mem_append_left _ (List.mem_append_left _ (List.mem_append_left _ (List.mem_append_right _ h))))
theorem inX1 : ∀ w ∈ wsX10, w ∈ lw_tbl := fun w h => wsL_law_in w (inlX1 w h)
theorem inlX2 : ∀ w ∈ wsX20, w ∈ wsL_law := fun _ h => List.mem_append_left _ (List.mem_append_left _ (List.mem_append_left _ (List.mem_append_right _ h)))
theorem inX2 : ∀ w ∈ wsX20, w ∈ lw_tbl := fun w h => wsL_law_in w (inlX2 w h)
theorem inlX3 : ∀ w ∈ wsX30, w ∈ wsL_law := fun _ h => List.mem_append_left _ (List.mem_append_left _ (List.mem_append_left _ (List.mem_append_left _ (List.mem_append_left _ (List.mem_append_left _ (List.mem_append_right _ h))))))
theorem inX3 : ∀ w ∈ wsX30, w ∈ lw_tbl := fun w h => wsL_law_in w (inlX3 w h)
theorem inlX4 : ∀ w ∈ wsX40, w ∈ wsL_law := fun _ h => List.mem_append_left _ (List.mem_append_left _ (List.mem_append_right _ h))
theorem inX4 : ∀ w ∈ wsX40, w ∈ lw_tbl := fun w h => wsL_law_in w (inlX4 w h)
theorem inlX5 : ∀ w ∈ wsX50, w ∈ wsL_law := fun _ h => List.mem_append_left _ (List.mem_append_left _ (List.mem_append_left _ (List.mem_append_left _ (List.mem_append_left _ (List.mem_append_left _ (List.mem_append_left _ (List.mem_append_right _ h)))))))
theorem inX5 : ∀ w ∈ wsX50, w ∈ lw_tbl := fun w h => wsL_law_in w (inlX5 w h)
theorem inlX6 : ∀ w ∈ wsX60, w ∈ wsL_law := fun _ h => List.mem_append_left _ (List.mem_append_right _ h)
theorem inX6 : ∀ w ∈ wsX60, w ∈ lw_tbl := fun w h => wsL_law_in w (inlX6 w h)
theorem inlX7 : ∀ w ∈ wsX70, w ∈ wsL_law := fun _ h => List.mem_append_left _ (List.mem_append_left _ (List.mem_append_left _ (List.mem_append_left _ (List.mem_append_left _ (List.mem_append_left _ (List.mem_append_left _ (List.mem_append_left _ (List.mem_append_right _ h))))))))
theorem inX7 : ∀ w ∈ wsX70, w ∈ lw_tbl := fun w h => wsL_law_in w (inlX7 w h)
theorem inlX8 : ∀ w ∈ wsX80, w ∈ wsL_law := fun _ h => List.mem_append_left _ (List.mem_append_left _ (List.mem_append_left _ (List.mem_append_left _ (List.mem_append_left _ (List.mem_append_left _ (List.mem_append_left _ (List.mem_append_left _ (List.mem_append_left _ (List.mem_append_left _ (List.mem_append_right _ h))))))))))
theorem inX8 : ∀ w ∈ wsX80, w ∈ lw_tbl := fun w h => wsL_law_in w (inlX8 w h)
theorem inlX9 : ∀ w ∈ wsX90, w ∈ wsL_law := fun _ h => List.mem_append_left _ (List.mem_append_left _ (List.mem_append_left _ (List.mem_append_left _ (List.mem_append_left _ (List.mem_append_left _ (List.mem_append_left _ (List.mem_append_left _ (List.mem_append_left _ (List.mem_append_right _ h)))))))))
theorem inX9 : ∀ w ∈ wsX90, w ∈ lw_tbl := fun w h => wsL_law_in w (inlX9 w h)
theorem inJ6 : ∀ w ∈ wsJ60, w ∈ lw_tbl := by decide +kernel
theorem inJ9 : ∀ w ∈ wsJ90, w ∈ lw_tbl := by decide +kernel
abbrev vwCl : List vw_C := [(RX0, TX0, 7), (RX1, TX1, 4), (RX2, TX2, 2), (RX3, TX3, 2), (RX4, TX4, 11), (RX5, TX5, 3), (RX6, TX6, 9), (RX7, TX7, 7), (RX8, TX8, 8), (RX9, TX9, 38)]
end
section
theorem dX9_init_0 : decode cX9_init 0 = .ok (.aload_n 0, 1) := by decide +kernel
theorem dX9_init_1 : decode cX9_init 1 = .ok (.invokespecial 1, 3) := by decide +kernel
theorem dX9_init_4 : decode cX9_init 4 = .ok (.aload_n 0, 1) := by decide +kernel
theorem dX9_init_5 : decode cX9_init 5 = .ok (.bipush 12, 2) := by decide +kernel
theorem dX9_init_7 : decode cX9_init 7 = .ok (.newarray .int, 2) := by decide +kernel
theorem dX9_init_9 : decode cX9_init 9 = .ok (.putfield 7, 3) := by decide +kernel
theorem dX9_init_12 : decode cX9_init 12 = .ok (.aload_n 0, 1) := by decide +kernel
theorem dX9_init_13 : decode cX9_init 13 = .ok (.bipush 12, 2) := by decide +kernel
theorem dX9_init_15 : decode cX9_init 15 = .ok (.newarray .int, 2) := by decide +kernel
theorem dX9_init_17 : decode cX9_init 17 = .ok (.putfield 13, 3) := by decide +kernel
theorem dX9_init_20 : decode cX9_init 20 = .ok (.aload_n 0, 1) := by decide +kernel
theorem dX9_init_21 : decode cX9_init 21 = .ok (.bipush 12, 2) := by decide +kernel
theorem dX9_init_23 : decode cX9_init 23 = .ok (.newarray .int, 2) := by decide +kernel
theorem dX9_init_25 : decode cX9_init 25 = .ok (.putfield 16, 3) := by decide +kernel
theorem dX9_init_28 : decode cX9_init 28 = .ok (.aload_n 0, 1) := by decide +kernel
theorem dX9_init_29 : decode cX9_init 29 = .ok (.bipush 12, 2) := by decide +kernel
theorem dX9_init_31 : decode cX9_init 31 = .ok (.newarray .int, 2) := by decide +kernel
theorem dX9_init_33 : decode cX9_init 33 = .ok (.putfield 19, 3) := by decide +kernel
theorem dX9_init_36 : decode cX9_init 36 = .ok (.aload_n 0, 1) := by decide +kernel
theorem dX9_init_37 : decode cX9_init 37 = .ok (.bipush 30, 2) := by decide +kernel
theorem dX9_init_39 : decode cX9_init 39 = .ok (.putfield 22, 3) := by decide +kernel
theorem dX9_init_42 : decode cX9_init 42 = .ok (.aload_n 0, 1) := by decide +kernel
theorem dX9_init_43 : decode cX9_init 43 = .ok (.bipush 25, 2) := by decide +kernel
theorem dX9_init_45 : decode cX9_init 45 = .ok (.putfield 26, 3) := by decide +kernel
theorem dX9_init_48 : decode cX9_init 48 = .ok (.aload_n 0, 1) := by decide +kernel
theorem dX9_init_49 : decode cX9_init 49 = .ok (.bipush 11, 2) := by decide +kernel
theorem dX9_init_51 : decode cX9_init 51 = .ok (.newarray .int, 2) := by decide +kernel
theorem dX9_init_53 : decode cX9_init 53 = .ok (.putfield 29, 3) := by decide +kernel
theorem dX9_init_56 : decode cX9_init 56 = .ok (.aload_n 0, 1) := by decide +kernel
theorem dX9_init_57 : decode cX9_init 57 = .ok (.bipush 11, 2) := by decide +kernel
theorem dX9_init_59 : decode cX9_init 59 = .ok (.newarray .int, 2) := by decide +kernel
theorem dX9_init_61 : decode cX9_init 61 = .ok (.putfield 32, 3) := by decide +kernel
theorem dX9_init_64 : decode cX9_init 64 = .ok (.aload_n 0, 1) := by decide +kernel
theorem dX9_init_65 : decode cX9_init 65 = .ok (.iconst 4, 1) := by decide +kernel
theorem dX9_init_66 : decode cX9_init 66 = .ok (.newarray .int, 2) := by decide +kernel
theorem dX9_init_68 : decode cX9_init 68 = .ok (.putfield 35, 3) := by decide +kernel
theorem dX9_init_71 : decode cX9_init 71 = .ok (.aload_n 0, 1) := by decide +kernel
theorem dX9_init_72 : decode cX9_init 72 = .ok (.iconst 4, 1) := by decide +kernel
theorem dX9_init_73 : decode cX9_init 73 = .ok (.newarray .int, 2) := by decide +kernel
theorem dX9_init_75 : decode cX9_init 75 = .ok (.putfield 38, 3) := by decide +kernel
theorem dX9_init_78 : decode cX9_init 78 = .ok (.aload_n 0, 1) := by decide +kernel
theorem dX9_init_79 : decode cX9_init 79 = .ok (.iconst 4, 1) := by decide +kernel
theorem dX9_init_80 : decode cX9_init 80 = .ok (.newarray .int, 2) := by decide +kernel
theorem dX9_init_82 : decode cX9_init 82 = .ok (.putfield 41, 3) := by decide +kernel
theorem dX9_init_85 : decode cX9_init 85 = .ok (.aload_n 0, 1) := by decide +kernel
theorem dX9_init_86 : decode cX9_init 86 = .ok (.iconst 4, 1) := by decide +kernel
theorem dX9_init_87 : decode cX9_init 87 = .ok (.newarray .int, 2) := by decide +kernel
theorem dX9_init_89 : decode cX9_init 89 = .ok (.putfield 44, 3) := by decide +kernel
theorem dX9_init_92 : decode cX9_init 92 = .ok (.aload_n 0, 1) := by decide +kernel
theorem dX9_init_93 : decode cX9_init 93 = .ok (.sipush 1000, 3) := by decide +kernel
theorem dX9_init_96 : decode cX9_init 96 = .ok (.putfield 47, 3) := by decide +kernel
theorem dX9_init_99 : decode cX9_init 99 = .ok (.aload_n 0, 1) := by decide +kernel
theorem dX9_init_100 : decode cX9_init 100 = .ok (.bipush 20, 2) := by decide +kernel
theorem dX9_init_102 : decode cX9_init 102 = .ok (.newarray .int, 2) := by decide +kernel
theorem dX9_init_104 : decode cX9_init 104 = .ok (.putfield 50, 3) := by decide +kernel
theorem dX9_init_107 : decode cX9_init 107 = .ok (.aload_n 0, 1) := by decide +kernel
theorem dX9_init_108 : decode cX9_init 108 = .ok (.bipush 20, 2) := by decide +kernel
theorem dX9_init_110 : decode cX9_init 110 = .ok (.newarray .int, 2) := by decide +kernel
theorem dX9_init_112 : decode cX9_init 112 = .ok (.putfield 53, 3) := by decide +kernel
theorem dX9_init_115 : decode cX9_init 115 = .ok (.aload_n 0, 1) := by decide +kernel
theorem dX9_init_116 : decode cX9_init 116 = .ok (.bipush 20, 2) := by decide +kernel
theorem dX9_init_118 : decode cX9_init 118 = .ok (.newarray .int, 2) := by decide +kernel
theorem dX9_init_120 : decode cX9_init 120 = .ok (.putfield 56, 3) := by decide +kernel
theorem dX9_init_123 : decode cX9_init 123 = .ok (.aload_n 0, 1) := by decide +kernel
theorem dX9_init_124 : decode cX9_init 124 = .ok (.bipush 40, 2) := by decide +kernel
theorem dX9_init_126 : decode cX9_init 126 = .ok (.newarray .int, 2) := by decide +kernel
theorem dX9_init_128 : decode cX9_init 128 = .ok (.putfield 59, 3) := by decide +kernel
theorem dX9_init_131 : decode cX9_init 131 = .ok (.aload_n 0, 1) := by decide +kernel
theorem dX9_init_132 : decode cX9_init 132 = .ok (.bipush 40, 2) := by decide +kernel
theorem dX9_init_134 : decode cX9_init 134 = .ok (.newarray .int, 2) := by decide +kernel
theorem dX9_init_136 : decode cX9_init 136 = .ok (.putfield 62, 3) := by decide +kernel
theorem dX9_init_139 : decode cX9_init 139 = .ok (.aload_n 0, 1) := by decide +kernel
theorem dX9_init_140 : decode cX9_init 140 = .ok (.bipush 40, 2) := by decide +kernel
theorem dX9_init_142 : decode cX9_init 142 = .ok (.newarray .int, 2) := by decide +kernel
theorem dX9_init_144 : decode cX9_init 144 = .ok (.putfield 65, 3) := by decide +kernel
theorem dX9_init_147 : decode cX9_init 147 = .ok (.aload_n 0, 1) := by decide +kernel
theorem dX9_init_148 : decode cX9_init 148 = .ok (.bipush 40, 2) := by decide +kernel
theorem dX9_init_150 : decode cX9_init 150 = .ok (.newarray .int, 2) := by decide +kernel
theorem dX9_init_152 : decode cX9_init 152 = .ok (.putfield 68, 3) := by decide +kernel
theorem dX9_init_155 : decode cX9_init 155 = .ok (.aload_n 0, 1) := by decide +kernel
theorem dX9_init_156 : decode cX9_init 156 = .ok (.bipush 40, 2) := by decide +kernel
theorem dX9_init_158 : decode cX9_init 158 = .ok (.newarray .boolean, 2) := by decide +kernel
theorem dX9_init_160 : decode cX9_init 160 = .ok (.putfield 71, 3) := by decide +kernel
theorem dX9_init_163 : decode cX9_init 163 = .ok (.aload_n 0, 1) := by decide +kernel
theorem dX9_init_164 : decode cX9_init 164 = .ok (.bipush 121, 2) := by decide +kernel
theorem dX9_init_166 : decode cX9_init 166 = .ok (.newarray .int, 2) := by decide +kernel
theorem dX9_init_168 : decode cX9_init 168 = .ok (.putfield 75, 3) := by decide +kernel
theorem dX9_init_171 : decode cX9_init 171 = .ok (.aload_n 0, 1) := by decide +kernel
theorem dX9_init_172 : decode cX9_init 172 = .ok (.sipush 11264, 3) := by decide +kernel
theorem dX9_init_175 : decode cX9_init 175 = .ok (.newarray .int, 2) := by decide +kernel
theorem dX9_init_177 : decode cX9_init 177 = .ok (.putfield 78, 3) := by decide +kernel
theorem dX9_init_180 : decode cX9_init 180 = .ok (.aload_n 0, 1) := by decide +kernel
theorem dX9_init_181 : decode cX9_init 181 = .ok (.sipush 1024, 3) := by decide +kernel
theorem dX9_init_184 : decode cX9_init 184 = .ok (.newarray .int, 2) := by decide +kernel
theorem dX9_init_186 : decode cX9_init 186 = .ok (.putfield 81, 3) := by decide +kernel
theorem dX9_init_189 : decode cX9_init 189 = .ok (.aload_n 0, 1) := by decide +kernel
theorem dX9_init_190 : decode cX9_init 190 = .ok (.sipush 1024, 3) := by decide +kernel
theorem dX9_init_193 : decode cX9_init 193 = .ok (.newarray .int, 2) := by decide +kernel
theorem dX9_init_195 : decode cX9_init 195 = .ok (.putfield 84, 3) := by decide +kernel
theorem dX9_init_198 : decode cX9_init 198 = .ok (.aload_n 0, 1) := by decide +kernel
theorem dX9_init_199 : decode cX9_init 199 = .ok (.bipush 40, 2) := by decide +kernel
theorem dX9_init_201 : decode cX9_init 201 = .ok (.newarray .int, 2) := by decide +kernel
theorem dX9_init_203 : decode cX9_init 203 = .ok (.putfield 87, 3) := by decide +kernel
theorem dX9_init_206 : decode cX9_init 206 = .ok (.aload_n 0, 1) := by decide +kernel
theorem dX9_init_207 : decode cX9_init 207 = .ok (.bipush 40, 2) := by decide +kernel
theorem dX9_init_209 : decode cX9_init 209 = .ok (.newarray .int, 2) := by decide +kernel
theorem dX9_init_211 : decode cX9_init 211 = .ok (.putfield 90, 3) := by decide +kernel
theorem dX9_init_214 : decode cX9_init 214 = .ok (.aload_n 0, 1) := by decide +kernel
theorem dX9_init_215 : decode cX9_init 215 = .ok (.sipush 1681, 3) := by decide +kernel
theorem dX9_init_218 : decode cX9_init 218 = .ok (.newarray .int, 2) := by decide +kernel
theorem dX9_init_220 : decode cX9_init 220 = .ok (.putfield 93, 3) := by decide +kernel
theorem dX9_init_223 : decode cX9_init 223 = .ok (.aload_n 0, 1) := by decide +kernel
theorem dX9_init_224 : decode cX9_init 224 = .ok (.sipush 1681, 3) := by decide +kernel
theorem dX9_init_227 : decode cX9_init 227 = .ok (.newarray .int, 2) := by decide +kernel
theorem dX9_init_229 : decode cX9_init 229 = .ok (.putfield 96, 3) := by decide +kernel
theorem dX9_init_232 : decode cX9_init 232 = .ok (.return_, 1) := by decide +kernel
theorem dX9_in_0 : decode cX9_in 0 = .ok (.lload_n 0, 1) := by decide +kernel
theorem dX9_in_1 : decode cX9_in 1 = .ok (.lload_n 2, 1) := by decide +kernel
theorem dX9_in_2 : decode cX9_in 2 = .ok (.lcmp, 1) := by decide +kernel
theorem dX9_in_3 : decode cX9_in 3 = .ok (.ifCond .lt 14, 3) := by decide +kernel
theorem dX9_in_6 : decode cX9_in 6 = .ok (.lload_n 0, 1) := by decide +kernel
theorem dX9_in_7 : decode cX9_in 7 = .ok (.lload 4, 2) := by decide +kernel
theorem dX9_in_9 : decode cX9_in 9 = .ok (.lcmp, 1) := by decide +kernel
theorem dX9_in_10 : decode cX9_in 10 = .ok (.ifCond .gt 7, 3) := by decide +kernel
theorem dX9_in_13 : decode cX9_in 13 = .ok (.iconst 1, 1) := by decide +kernel
theorem dX9_in_14 : decode cX9_in 14 = .ok (.goto 4, 3) := by decide +kernel
theorem dX9_in_17 : decode cX9_in 17 = .ok (.iconst 0, 1) := by decide +kernel
theorem dX9_in_18 : decode cX9_in 18 = .ok (.ireturn, 1) := by decide +kernel
theorem dX9_noPoint_0 : decode cX9_noPoint 0 = .ok (.iload_n 0, 1) := by decide +kernel
theorem dX9_noPoint_1 : decode cX9_noPoint 1 = .ok (.i2l, 1) := by decide +kernel
theorem dX9_noPoint_2 : decode cX9_noPoint 2 = .ok (.lconst 0, 1) := by decide +kernel
theorem dX9_noPoint_3 : decode cX9_noPoint 3 = .ok (.ldc2_w 102, 3) := by decide +kernel
theorem dX9_noPoint_6 : decode cX9_noPoint 6 = .ok (.invokestatic 104, 3) := by decide +kernel
theorem dX9_noPoint_9 : decode cX9_noPoint 9 = .ok (.ifCond .eq 15, 3) := by decide +kernel
theorem dX9_noPoint_12 : decode cX9_noPoint 12 = .ok (.iload_n 1, 1) := by decide +kernel
theorem dX9_noPoint_13 : decode cX9_noPoint 13 = .ok (.i2l, 1) := by decide +kernel
theorem dX9_noPoint_14 : decode cX9_noPoint 14 = .ok (.lconst 0, 1) := by decide +kernel
theorem dX9_noPoint_15 : decode cX9_noPoint 15 = .ok (.ldc2_w 102, 3) := by decide +kernel
theorem dX9_noPoint_18 : decode cX9_noPoint 18 = .ok (.invokestatic 104, 3) := by decide +kernel
theorem dX9_noPoint_21 : decode cX9_noPoint 21 = .ok (.ifCond .ne 7, 3) := by decide +kernel
theorem dX9_noPoint_24 : decode cX9_noPoint 24 = .ok (.iconst 1, 1) := by decide +kernel
theorem dX9_noPoint_25 : decode cX9_noPoint 25 = .ok (.goto 4, 3) := by decide +kernel
theorem dX9_noPoint_28 : decode cX9_noPoint 28 = .ok (.iconst 0, 1) := by decide +kernel
theorem dX9_noPoint_29 : decode cX9_noPoint 29 = .ok (.ireturn, 1) := by decide +kernel
theorem dX9_noPanel_0 : decode cX9_noPanel 0 = .ok (.iload_n 1, 1) := by decide +kernel
theorem dX9_noPanel_1 : decode cX9_noPanel 1 = .ok (.i2l, 1) := by decide +kernel
theorem dX9_noPanel_2 : decode cX9_noPanel 2 = .ok (.lconst 0, 1) := by decide +kernel
theorem dX9_noPanel_3 : decode cX9_noPanel 3 = .ok (.aload_n 0, 1) := by decide +kernel
theorem dX9_noPanel_4 : decode cX9_noPanel 4 = .ok (.getfield 108, 3) := by decide +kernel
theorem dX9_noPanel_7 : decode cX9_noPanel 7 = .ok (.iconst 1, 1) := by decide +kernel
theorem dX9_noPanel_8 : decode cX9_noPanel 8 = .ok (.isub, 1) := by decide +kernel
theorem dX9_noPanel_9 : decode cX9_noPanel 9 = .ok (.i2l, 1) := by decide +kernel
theorem dX9_noPanel_10 : decode cX9_noPanel 10 = .ok (.invokestatic 104, 3) := by decide +kernel
theorem dX9_noPanel_13 : decode cX9_noPanel 13 = .ok (.ifCond .ne 7, 3) := by decide +kernel
theorem dX9_noPanel_16 : decode cX9_noPanel 16 = .ok (.iconst 1, 1) := by decide +kernel
theorem dX9_noPanel_17 : decode cX9_noPanel 17 = .ok (.goto 4, 3) := by decide +kernel
theorem dX9_noPanel_20 : decode cX9_noPanel 20 = .ok (.iconst 0, 1) := by decide +kernel
theorem dX9_noPanel_21 : decode cX9_noPanel 21 = .ok (.ireturn, 1) := by decide +kernel
theorem dX9_noSet_0 : decode cX9_noSet 0 = .ok (.iload_n 1, 1) := by decide +kernel
theorem dX9_noSet_1 : decode cX9_noSet 1 = .ok (.ifCond .lt 12, 3) := by decide +kernel
theorem dX9_noSet_4 : decode cX9_noSet 4 = .ok (.iload_n 1, 1) := by decide +kernel
theorem dX9_noSet_5 : decode cX9_noSet 5 = .ok (.aload_n 0, 1) := by decide +kernel
theorem dX9_noSet_6 : decode cX9_noSet 6 = .ok (.getfield 111, 3) := by decide +kernel
theorem dX9_noSet_9 : decode cX9_noSet 9 = .ok (.ishr, 1) := by decide +kernel
theorem dX9_noSet_10 : decode cX9_noSet 10 = .ok (.ifCond .eq 7, 3) := by decide +kernel
theorem dX9_noSet_13 : decode cX9_noSet 13 = .ok (.iconst 1, 1) := by decide +kernel
theorem dX9_noSet_14 : decode cX9_noSet 14 = .ok (.goto 4, 3) := by decide +kernel
theorem dX9_noSet_17 : decode cX9_noSet 17 = .ok (.iconst 0, 1) := by decide +kernel
theorem dX9_noSet_18 : decode cX9_noSet 18 = .ok (.ireturn, 1) := by decide +kernel
theorem dX9_cross_0 : decode cX9_cross 0 = .ok (.iload_n 0, 1) := by decide +kernel
theorem dX9_cross_1 : decode cX9_cross 1 = .ok (.iload_n 3, 1) := by decide +kernel
theorem dX9_cross_2 : decode cX9_cross 2 = .ok (.imul, 1) := by decide +kernel
theorem dX9_cross_3 : decode cX9_cross 3 = .ok (.iload_n 1, 1) := by decide +kernel
theorem dX9_cross_4 : decode cX9_cross 4 = .ok (.iload_n 2, 1) := by decide +kernel
theorem dX9_cross_5 : decode cX9_cross 5 = .ok (.imul, 1) := by decide +kernel
theorem dX9_cross_6 : decode cX9_cross 6 = .ok (.isub, 1) := by decide +kernel
theorem dX9_cross_7 : decode cX9_cross 7 = .ok (.ireturn, 1) := by decide +kernel
theorem dX9_sign_0 : decode cX9_sign 0 = .ok (.iload_n 0, 1) := by decide +kernel
theorem dX9_sign_1 : decode cX9_sign 1 = .ok (.ifCond .le 7, 3) := by decide +kernel
theorem dX9_sign_4 : decode cX9_sign 4 = .ok (.iconst 1, 1) := by decide +kernel
theorem dX9_sign_5 : decode cX9_sign 5 = .ok (.goto 12, 3) := by decide +kernel
theorem dX9_sign_8 : decode cX9_sign 8 = .ok (.iload_n 0, 1) := by decide +kernel
theorem dX9_sign_9 : decode cX9_sign 9 = .ok (.ifCond .ge 7, 3) := by decide +kernel
theorem dX9_sign_12 : decode cX9_sign 12 = .ok (.iconst (-1), 1) := by decide +kernel
theorem dX9_sign_13 : decode cX9_sign 13 = .ok (.goto 4, 3) := by decide +kernel
theorem dX9_sign_16 : decode cX9_sign 16 = .ok (.iconst 0, 1) := by decide +kernel
theorem dX9_sign_17 : decode cX9_sign 17 = .ok (.ireturn, 1) := by decide +kernel
theorem dX9_isBetween_0 : decode cX9_isBetween 0 = .ok (.iload_n 0, 1) := by decide +kernel
theorem dX9_isBetween_1 : decode cX9_isBetween 1 = .ok (.iload_n 2, 1) := by decide +kernel
theorem dX9_isBetween_2 : decode cX9_isBetween 2 = .ok (.if_icmp .ge 16, 3) := by decide +kernel
theorem dX9_isBetween_5 : decode cX9_isBetween 5 = .ok (.iload 4, 2) := by decide +kernel
theorem dX9_isBetween_7 : decode cX9_isBetween 7 = .ok (.i2l, 1) := by decide +kernel
theorem dX9_isBetween_8 : decode cX9_isBetween 8 = .ok (.iload_n 0, 1) := by decide +kernel
theorem dX9_isBetween_9 : decode cX9_isBetween 9 = .ok (.i2l, 1) := by decide +kernel
theorem dX9_isBetween_10 : decode cX9_isBetween 10 = .ok (.iload_n 2, 1) := by decide +kernel
theorem dX9_isBetween_11 : decode cX9_isBetween 11 = .ok (.i2l, 1) := by decide +kernel
theorem dX9_isBetween_12 : decode cX9_isBetween 12 = .ok (.invokestatic 104, 3) := by decide +kernel
theorem dX9_isBetween_15 : decode cX9_isBetween 15 = .ok (.goto 13, 3) := by decide +kernel
theorem dX9_isBetween_18 : decode cX9_isBetween 18 = .ok (.iload 4, 2) := by decide +kernel
theorem dX9_isBetween_20 : decode cX9_isBetween 20 = .ok (.i2l, 1) := by decide +kernel
theorem dX9_isBetween_21 : decode cX9_isBetween 21 = .ok (.iload_n 2, 1) := by decide +kernel
theorem dX9_isBetween_22 : decode cX9_isBetween 22 = .ok (.i2l, 1) := by decide +kernel
theorem dX9_isBetween_23 : decode cX9_isBetween 23 = .ok (.iload_n 0, 1) := by decide +kernel
theorem dX9_isBetween_24 : decode cX9_isBetween 24 = .ok (.i2l, 1) := by decide +kernel
theorem dX9_isBetween_25 : decode cX9_isBetween 25 = .ok (.invokestatic 104, 3) := by decide +kernel
theorem dX9_isBetween_28 : decode cX9_isBetween 28 = .ok (.istore 6, 2) := by decide +kernel
theorem dX9_isBetween_30 : decode cX9_isBetween 30 = .ok (.iload_n 1, 1) := by decide +kernel
theorem dX9_isBetween_31 : decode cX9_isBetween 31 = .ok (.iload_n 3, 1) := by decide +kernel
theorem dX9_isBetween_32 : decode cX9_isBetween 32 = .ok (.if_icmp .ge 16, 3) := by decide +kernel
theorem dX9_isBetween_35 : decode cX9_isBetween 35 = .ok (.iload 5, 2) := by decide +kernel
theorem dX9_isBetween_37 : decode cX9_isBetween 37 = .ok (.i2l, 1) := by decide +kernel
theorem dX9_isBetween_38 : decode cX9_isBetween 38 = .ok (.iload_n 1, 1) := by decide +kernel
theorem dX9_isBetween_39 : decode cX9_isBetween 39 = .ok (.i2l, 1) := by decide +kernel
theorem dX9_isBetween_40 : decode cX9_isBetween 40 = .ok (.iload_n 3, 1) := by decide +kernel
theorem dX9_isBetween_41 : decode cX9_isBetween 41 = .ok (.i2l, 1) := by decide +kernel
theorem dX9_isBetween_42 : decode cX9_isBetween 42 = .ok (.invokestatic 104, 3) := by decide +kernel
theorem dX9_isBetween_45 : decode cX9_isBetween 45 = .ok (.goto 13, 3) := by decide +kernel
theorem dX9_isBetween_48 : decode cX9_isBetween 48 = .ok (.iload 5, 2) := by decide +kernel
theorem dX9_isBetween_50 : decode cX9_isBetween 50 = .ok (.i2l, 1) := by decide +kernel
theorem dX9_isBetween_51 : decode cX9_isBetween 51 = .ok (.iload_n 3, 1) := by decide +kernel
theorem dX9_isBetween_52 : decode cX9_isBetween 52 = .ok (.i2l, 1) := by decide +kernel
theorem dX9_isBetween_53 : decode cX9_isBetween 53 = .ok (.iload_n 1, 1) := by decide +kernel
theorem dX9_isBetween_54 : decode cX9_isBetween 54 = .ok (.i2l, 1) := by decide +kernel
theorem dX9_isBetween_55 : decode cX9_isBetween 55 = .ok (.invokestatic 104, 3) := by decide +kernel
theorem dX9_isBetween_58 : decode cX9_isBetween 58 = .ok (.istore 7, 2) := by decide +kernel
theorem dX9_isBetween_60 : decode cX9_isBetween 60 = .ok (.iload 6, 2) := by decide +kernel
theorem dX9_isBetween_62 : decode cX9_isBetween 62 = .ok (.ifCond .eq 12, 3) := by decide +kernel
theorem dX9_isBetween_65 : decode cX9_isBetween 65 = .ok (.iload 7, 2) := by decide +kernel
theorem dX9_isBetween_67 : decode cX9_isBetween 67 = .ok (.ifCond .eq 7, 3) := by decide +kernel
theorem dX9_isBetween_70 : decode cX9_isBetween 70 = .ok (.iconst 1, 1) := by decide +kernel
theorem dX9_isBetween_71 : decode cX9_isBetween 71 = .ok (.goto 4, 3) := by decide +kernel
theorem dX9_isBetween_74 : decode cX9_isBetween 74 = .ok (.iconst 0, 1) := by decide +kernel
theorem dX9_isBetween_75 : decode cX9_isBetween 75 = .ok (.ireturn, 1) := by decide +kernel
theorem dX9_meet_0 : decode cX9_meet 0 = .ok (.iload 6, 2) := by decide +kernel
theorem dX9_meet_2 : decode cX9_meet 2 = .ok (.iload 4, 2) := by decide +kernel
theorem dX9_meet_4 : decode cX9_meet 4 = .ok (.isub, 1) := by decide +kernel
theorem dX9_meet_5 : decode cX9_meet 5 = .ok (.iload 7, 2) := by decide +kernel
theorem dX9_meet_7 : decode cX9_meet 7 = .ok (.iload 5, 2) := by decide +kernel
theorem dX9_meet_9 : decode cX9_meet 9 = .ok (.isub, 1) := by decide +kernel
theorem dX9_meet_10 : decode cX9_meet 10 = .ok (.iload_n 0, 1) := by decide +kernel
theorem dX9_meet_11 : decode cX9_meet 11 = .ok (.iload 4, 2) := by decide +kernel
theorem dX9_meet_13 : decode cX9_meet 13 = .ok (.isub, 1) := by decide +kernel
theorem dX9_meet_14 : decode cX9_meet 14 = .ok (.iload_n 1, 1) := by decide +kernel
theorem dX9_meet_15 : decode cX9_meet 15 = .ok (.iload 5, 2) := by decide +kernel
theorem dX9_meet_17 : decode cX9_meet 17 = .ok (.isub, 1) := by decide +kernel
theorem dX9_meet_18 : decode cX9_meet 18 = .ok (.invokestatic 114, 3) := by decide +kernel
theorem dX9_meet_21 : decode cX9_meet 21 = .ok (.invokestatic 118, 3) := by decide +kernel
theorem dX9_meet_24 : decode cX9_meet 24 = .ok (.istore 8, 2) := by decide +kernel
theorem dX9_meet_26 : decode cX9_meet 26 = .ok (.iload 6, 2) := by decide +kernel
theorem dX9_meet_28 : decode cX9_meet 28 = .ok (.iload 4, 2) := by decide +kernel
theorem dX9_meet_30 : decode cX9_meet 30 = .ok (.isub, 1) := by decide +kernel
theorem dX9_meet_31 : decode cX9_meet 31 = .ok (.iload 7, 2) := by decide +kernel
theorem dX9_meet_33 : decode cX9_meet 33 = .ok (.iload 5, 2) := by decide +kernel
theorem dX9_meet_35 : decode cX9_meet 35 = .ok (.isub, 1) := by decide +kernel
theorem dX9_meet_36 : decode cX9_meet 36 = .ok (.iload_n 2, 1) := by decide +kernel
theorem dX9_meet_37 : decode cX9_meet 37 = .ok (.iload 4, 2) := by decide +kernel
theorem dX9_meet_39 : decode cX9_meet 39 = .ok (.isub, 1) := by decide +kernel
theorem dX9_meet_40 : decode cX9_meet 40 = .ok (.iload_n 3, 1) := by decide +kernel
theorem dX9_meet_41 : decode cX9_meet 41 = .ok (.iload 5, 2) := by decide +kernel
theorem dX9_meet_43 : decode cX9_meet 43 = .ok (.isub, 1) := by decide +kernel
theorem dX9_meet_44 : decode cX9_meet 44 = .ok (.invokestatic 114, 3) := by decide +kernel
theorem dX9_meet_47 : decode cX9_meet 47 = .ok (.invokestatic 118, 3) := by decide +kernel
theorem dX9_meet_50 : decode cX9_meet 50 = .ok (.istore 9, 2) := by decide +kernel
theorem dX9_meet_52 : decode cX9_meet 52 = .ok (.iload_n 2, 1) := by decide +kernel
theorem dX9_meet_53 : decode cX9_meet 53 = .ok (.iload_n 0, 1) := by decide +kernel
theorem dX9_meet_54 : decode cX9_meet 54 = .ok (.isub, 1) := by decide +kernel
theorem dX9_meet_55 : decode cX9_meet 55 = .ok (.iload_n 3, 1) := by decide +kernel
theorem dX9_meet_56 : decode cX9_meet 56 = .ok (.iload_n 1, 1) := by decide +kernel
theorem dX9_meet_57 : decode cX9_meet 57 = .ok (.isub, 1) := by decide +kernel
theorem dX9_meet_58 : decode cX9_meet 58 = .ok (.iload 4, 2) := by decide +kernel
theorem dX9_meet_60 : decode cX9_meet 60 = .ok (.iload_n 0, 1) := by decide +kernel
theorem dX9_meet_61 : decode cX9_meet 61 = .ok (.isub, 1) := by decide +kernel
theorem dX9_meet_62 : decode cX9_meet 62 = .ok (.iload 5, 2) := by decide +kernel
theorem dX9_meet_64 : decode cX9_meet 64 = .ok (.iload_n 1, 1) := by decide +kernel
theorem dX9_meet_65 : decode cX9_meet 65 = .ok (.isub, 1) := by decide +kernel
theorem dX9_meet_66 : decode cX9_meet 66 = .ok (.invokestatic 114, 3) := by decide +kernel
theorem dX9_meet_69 : decode cX9_meet 69 = .ok (.invokestatic 118, 3) := by decide +kernel
theorem dX9_meet_72 : decode cX9_meet 72 = .ok (.istore 10, 2) := by decide +kernel
theorem dX9_meet_74 : decode cX9_meet 74 = .ok (.iload_n 2, 1) := by decide +kernel
theorem dX9_meet_75 : decode cX9_meet 75 = .ok (.iload_n 0, 1) := by decide +kernel
theorem dX9_meet_76 : decode cX9_meet 76 = .ok (.isub, 1) := by decide +kernel
theorem dX9_meet_77 : decode cX9_meet 77 = .ok (.iload_n 3, 1) := by decide +kernel
theorem dX9_meet_78 : decode cX9_meet 78 = .ok (.iload_n 1, 1) := by decide +kernel
theorem dX9_meet_79 : decode cX9_meet 79 = .ok (.isub, 1) := by decide +kernel
theorem dX9_meet_80 : decode cX9_meet 80 = .ok (.iload 6, 2) := by decide +kernel
theorem dX9_meet_82 : decode cX9_meet 82 = .ok (.iload_n 0, 1) := by decide +kernel
theorem dX9_meet_83 : decode cX9_meet 83 = .ok (.isub, 1) := by decide +kernel
theorem dX9_meet_84 : decode cX9_meet 84 = .ok (.iload 7, 2) := by decide +kernel
theorem dX9_meet_86 : decode cX9_meet 86 = .ok (.iload_n 1, 1) := by decide +kernel
theorem dX9_meet_87 : decode cX9_meet 87 = .ok (.isub, 1) := by decide +kernel
theorem dX9_meet_88 : decode cX9_meet 88 = .ok (.invokestatic 114, 3) := by decide +kernel
theorem dX9_meet_91 : decode cX9_meet 91 = .ok (.invokestatic 118, 3) := by decide +kernel
theorem dX9_meet_94 : decode cX9_meet 94 = .ok (.istore 11, 2) := by decide +kernel
theorem dX9_meet_96 : decode cX9_meet 96 = .ok (.iload 8, 2) := by decide +kernel
theorem dX9_meet_98 : decode cX9_meet 98 = .ok (.iload 9, 2) := by decide +kernel
theorem dX9_meet_100 : decode cX9_meet 100 = .ok (.imul, 1) := by decide +kernel
theorem dX9_meet_101 : decode cX9_meet 101 = .ok (.ifCond .ge 13, 3) := by decide +kernel
theorem dX9_meet_104 : decode cX9_meet 104 = .ok (.iload 10, 2) := by decide +kernel
theorem dX9_meet_106 : decode cX9_meet 106 = .ok (.iload 11, 2) := by decide +kernel
theorem dX9_meet_108 : decode cX9_meet 108 = .ok (.imul, 1) := by decide +kernel
theorem dX9_meet_109 : decode cX9_meet 109 = .ok (.ifCond .ge 5, 3) := by decide +kernel
theorem dX9_meet_112 : decode cX9_meet 112 = .ok (.iconst 1, 1) := by decide +kernel
theorem dX9_meet_113 : decode cX9_meet 113 = .ok (.ireturn, 1) := by decide +kernel
theorem dX9_meet_114 : decode cX9_meet 114 = .ok (.iload 8, 2) := by decide +kernel
theorem dX9_meet_116 : decode cX9_meet 116 = .ok (.ifCond .ne 19, 3) := by decide +kernel
theorem dX9_meet_119 : decode cX9_meet 119 = .ok (.iload 4, 2) := by decide +kernel
theorem dX9_meet_121 : decode cX9_meet 121 = .ok (.iload 5, 2) := by decide +kernel
theorem dX9_meet_123 : decode cX9_meet 123 = .ok (.iload 6, 2) := by decide +kernel
theorem dX9_meet_125 : decode cX9_meet 125 = .ok (.iload 7, 2) := by decide +kernel
theorem dX9_meet_127 : decode cX9_meet 127 = .ok (.iload_n 0, 1) := by decide +kernel
theorem dX9_meet_128 : decode cX9_meet 128 = .ok (.iload_n 1, 1) := by decide +kernel
theorem dX9_meet_129 : decode cX9_meet 129 = .ok (.invokestatic 122, 3) := by decide +kernel
theorem dX9_meet_132 : decode cX9_meet 132 = .ok (.ifCond .ne 62, 3) := by decide +kernel
theorem dX9_meet_135 : decode cX9_meet 135 = .ok (.iload 9, 2) := by decide +kernel
theorem dX9_meet_137 : decode cX9_meet 137 = .ok (.ifCond .ne 19, 3) := by decide +kernel
theorem dX9_meet_140 : decode cX9_meet 140 = .ok (.iload 4, 2) := by decide +kernel
theorem dX9_meet_142 : decode cX9_meet 142 = .ok (.iload 5, 2) := by decide +kernel
theorem dX9_meet_144 : decode cX9_meet 144 = .ok (.iload 6, 2) := by decide +kernel
theorem dX9_meet_146 : decode cX9_meet 146 = .ok (.iload 7, 2) := by decide +kernel
theorem dX9_meet_148 : decode cX9_meet 148 = .ok (.iload_n 2, 1) := by decide +kernel
theorem dX9_meet_149 : decode cX9_meet 149 = .ok (.iload_n 3, 1) := by decide +kernel
theorem dX9_meet_150 : decode cX9_meet 150 = .ok (.invokestatic 122, 3) := by decide +kernel
theorem dX9_meet_153 : decode cX9_meet 153 = .ok (.ifCond .ne 41, 3) := by decide +kernel
theorem dX9_meet_156 : decode cX9_meet 156 = .ok (.iload 10, 2) := by decide +kernel
theorem dX9_meet_158 : decode cX9_meet 158 = .ok (.ifCond .ne 17, 3) := by decide +kernel
theorem dX9_meet_161 : decode cX9_meet 161 = .ok (.iload_n 0, 1) := by decide +kernel
theorem dX9_meet_162 : decode cX9_meet 162 = .ok (.iload_n 1, 1) := by decide +kernel
theorem dX9_meet_163 : decode cX9_meet 163 = .ok (.iload_n 2, 1) := by decide +kernel
theorem dX9_meet_164 : decode cX9_meet 164 = .ok (.iload_n 3, 1) := by decide +kernel
theorem dX9_meet_165 : decode cX9_meet 165 = .ok (.iload 4, 2) := by decide +kernel
theorem dX9_meet_167 : decode cX9_meet 167 = .ok (.iload 5, 2) := by decide +kernel
theorem dX9_meet_169 : decode cX9_meet 169 = .ok (.invokestatic 122, 3) := by decide +kernel
theorem dX9_meet_172 : decode cX9_meet 172 = .ok (.ifCond .ne 22, 3) := by decide +kernel
theorem dX9_meet_175 : decode cX9_meet 175 = .ok (.iload 11, 2) := by decide +kernel
theorem dX9_meet_177 : decode cX9_meet 177 = .ok (.ifCond .ne 21, 3) := by decide +kernel
theorem dX9_meet_180 : decode cX9_meet 180 = .ok (.iload_n 0, 1) := by decide +kernel
theorem dX9_meet_181 : decode cX9_meet 181 = .ok (.iload_n 1, 1) := by decide +kernel
theorem dX9_meet_182 : decode cX9_meet 182 = .ok (.iload_n 2, 1) := by decide +kernel
theorem dX9_meet_183 : decode cX9_meet 183 = .ok (.iload_n 3, 1) := by decide +kernel
theorem dX9_meet_184 : decode cX9_meet 184 = .ok (.iload 6, 2) := by decide +kernel
theorem dX9_meet_186 : decode cX9_meet 186 = .ok (.iload 7, 2) := by decide +kernel
theorem dX9_meet_188 : decode cX9_meet 188 = .ok (.invokestatic 122, 3) := by decide +kernel
theorem dX9_meet_191 : decode cX9_meet 191 = .ok (.ifCond .eq 7, 3) := by decide +kernel
theorem dX9_meet_194 : decode cX9_meet 194 = .ok (.iconst 1, 1) := by decide +kernel
theorem dX9_meet_195 : decode cX9_meet 195 = .ok (.goto 4, 3) := by decide +kernel
theorem dX9_meet_198 : decode cX9_meet 198 = .ok (.iconst 0, 1) := by decide +kernel
theorem dX9_meet_199 : decode cX9_meet 199 = .ok (.ireturn, 1) := by decide +kernel
theorem dX9_isSeen_0 : decode cX9_isSeen 0 = .ok (.aload_n 0, 1) := by decide +kernel
theorem dX9_isSeen_1 : decode cX9_isSeen 1 = .ok (.getfield 16, 3) := by decide +kernel
theorem dX9_isSeen_4 : decode cX9_isSeen 4 = .ok (.iload_n 3, 1) := by decide +kernel
theorem dX9_isSeen_5 : decode cX9_isSeen 5 = .ok (.iaload, 1) := by decide +kernel
theorem dX9_isSeen_6 : decode cX9_isSeen 6 = .ok (.aload_n 0, 1) := by decide +kernel
theorem dX9_isSeen_7 : decode cX9_isSeen 7 = .ok (.getfield 7, 3) := by decide +kernel
theorem dX9_isSeen_10 : decode cX9_isSeen 10 = .ok (.iload_n 3, 1) := by decide +kernel
theorem dX9_isSeen_11 : decode cX9_isSeen 11 = .ok (.iaload, 1) := by decide +kernel
theorem dX9_isSeen_12 : decode cX9_isSeen 12 = .ok (.isub, 1) := by decide +kernel
theorem dX9_isSeen_13 : decode cX9_isSeen 13 = .ok (.istore 4, 2) := by decide +kernel
theorem dX9_isSeen_15 : decode cX9_isSeen 15 = .ok (.aload_n 0, 1) := by decide +kernel
theorem dX9_isSeen_16 : decode cX9_isSeen 16 = .ok (.getfield 19, 3) := by decide +kernel
theorem dX9_isSeen_19 : decode cX9_isSeen 19 = .ok (.iload_n 3, 1) := by decide +kernel
theorem dX9_isSeen_20 : decode cX9_isSeen 20 = .ok (.iaload, 1) := by decide +kernel
theorem dX9_isSeen_21 : decode cX9_isSeen 21 = .ok (.aload_n 0, 1) := by decide +kernel
theorem dX9_isSeen_22 : decode cX9_isSeen 22 = .ok (.getfield 13, 3) := by decide +kernel
theorem dX9_isSeen_25 : decode cX9_isSeen 25 = .ok (.iload_n 3, 1) := by decide +kernel
theorem dX9_isSeen_26 : decode cX9_isSeen 26 = .ok (.iaload, 1) := by decide +kernel
theorem dX9_isSeen_27 : decode cX9_isSeen 27 = .ok (.isub, 1) := by decide +kernel
theorem dX9_isSeen_28 : decode cX9_isSeen 28 = .ok (.istore 5, 2) := by decide +kernel
theorem dX9_isSeen_30 : decode cX9_isSeen 30 = .ok (.iload 4, 2) := by decide +kernel
theorem dX9_isSeen_32 : decode cX9_isSeen 32 = .ok (.iload 5, 2) := by decide +kernel
theorem dX9_isSeen_34 : decode cX9_isSeen 34 = .ok (.iload_n 1, 1) := by decide +kernel
theorem dX9_isSeen_35 : decode cX9_isSeen 35 = .ok (.aload_n 0, 1) := by decide +kernel
theorem dX9_isSeen_36 : decode cX9_isSeen 36 = .ok (.getfield 7, 3) := by decide +kernel
theorem dX9_isSeen_39 : decode cX9_isSeen 39 = .ok (.iload_n 3, 1) := by decide +kernel
theorem dX9_isSeen_40 : decode cX9_isSeen 40 = .ok (.iaload, 1) := by decide +kernel
theorem dX9_isSeen_41 : decode cX9_isSeen 41 = .ok (.isub, 1) := by decide +kernel
theorem dX9_isSeen_42 : decode cX9_isSeen 42 = .ok (.iload_n 2, 1) := by decide +kernel
theorem dX9_isSeen_43 : decode cX9_isSeen 43 = .ok (.aload_n 0, 1) := by decide +kernel
theorem dX9_isSeen_44 : decode cX9_isSeen 44 = .ok (.getfield 13, 3) := by decide +kernel
theorem dX9_isSeen_47 : decode cX9_isSeen 47 = .ok (.iload_n 3, 1) := by decide +kernel
theorem dX9_isSeen_48 : decode cX9_isSeen 48 = .ok (.iaload, 1) := by decide +kernel
theorem dX9_isSeen_49 : decode cX9_isSeen 49 = .ok (.isub, 1) := by decide +kernel
theorem dX9_isSeen_50 : decode cX9_isSeen 50 = .ok (.invokestatic 114, 3) := by decide +kernel
theorem dX9_isSeen_53 : decode cX9_isSeen 53 = .ok (.ifCond .gt 5, 3) := by decide +kernel
theorem dX9_isSeen_56 : decode cX9_isSeen 56 = .ok (.iconst 0, 1) := by decide +kernel
theorem dX9_isSeen_57 : decode cX9_isSeen 57 = .ok (.ireturn, 1) := by decide +kernel
theorem dX9_isSeen_58 : decode cX9_isSeen 58 = .ok (.aload_n 0, 1) := by decide +kernel
theorem dX9_isSeen_59 : decode cX9_isSeen 59 = .ok (.getfield 7, 3) := by decide +kernel
theorem dX9_isSeen_62 : decode cX9_isSeen 62 = .ok (.iload_n 3, 1) := by decide +kernel
theorem dX9_isSeen_63 : decode cX9_isSeen 63 = .ok (.iaload, 1) := by decide +kernel
theorem dX9_isSeen_64 : decode cX9_isSeen 64 = .ok (.aload_n 0, 1) := by decide +kernel
theorem dX9_isSeen_65 : decode cX9_isSeen 65 = .ok (.getfield 16, 3) := by decide +kernel
theorem dX9_isSeen_68 : decode cX9_isSeen 68 = .ok (.iload_n 3, 1) := by decide +kernel
theorem dX9_isSeen_69 : decode cX9_isSeen 69 = .ok (.iaload, 1) := by decide +kernel
theorem dX9_isSeen_70 : decode cX9_isSeen 70 = .ok (.iadd, 1) := by decide +kernel
theorem dX9_isSeen_71 : decode cX9_isSeen 71 = .ok (.istore 6, 2) := by decide +kernel
theorem dX9_isSeen_73 : decode cX9_isSeen 73 = .ok (.aload_n 0, 1) := by decide +kernel
theorem dX9_isSeen_74 : decode cX9_isSeen 74 = .ok (.getfield 13, 3) := by decide +kernel
theorem dX9_isSeen_77 : decode cX9_isSeen 77 = .ok (.iload_n 3, 1) := by decide +kernel
theorem dX9_isSeen_78 : decode cX9_isSeen 78 = .ok (.iaload, 1) := by decide +kernel
theorem dX9_isSeen_79 : decode cX9_isSeen 79 = .ok (.aload_n 0, 1) := by decide +kernel
theorem dX9_isSeen_80 : decode cX9_isSeen 80 = .ok (.getfield 19, 3) := by decide +kernel
theorem dX9_isSeen_83 : decode cX9_isSeen 83 = .ok (.iload_n 3, 1) := by decide +kernel
theorem dX9_isSeen_84 : decode cX9_isSeen 84 = .ok (.iaload, 1) := by decide +kernel
theorem dX9_isSeen_85 : decode cX9_isSeen 85 = .ok (.iadd, 1) := by decide +kernel
theorem dX9_isSeen_86 : decode cX9_isSeen 86 = .ok (.istore 7, 2) := by decide +kernel
theorem dX9_isSeen_88 : decode cX9_isSeen 88 = .ok (.iload 6, 2) := by decide +kernel
theorem dX9_isSeen_90 : decode cX9_isSeen 90 = .ok (.iconst 2, 1) := by decide +kernel
theorem dX9_isSeen_91 : decode cX9_isSeen 91 = .ok (.iload_n 1, 1) := by decide +kernel
theorem dX9_isSeen_92 : decode cX9_isSeen 92 = .ok (.imul, 1) := by decide +kernel
theorem dX9_isSeen_93 : decode cX9_isSeen 93 = .ok (.isub, 1) := by decide +kernel
theorem dX9_isSeen_94 : decode cX9_isSeen 94 = .ok (.istore 8, 2) := by decide +kernel
theorem dX9_isSeen_96 : decode cX9_isSeen 96 = .ok (.iload 7, 2) := by decide +kernel
theorem dX9_isSeen_98 : decode cX9_isSeen 98 = .ok (.iconst 2, 1) := by decide +kernel
theorem dX9_isSeen_99 : decode cX9_isSeen 99 = .ok (.iload_n 2, 1) := by decide +kernel
theorem dX9_isSeen_100 : decode cX9_isSeen 100 = .ok (.imul, 1) := by decide +kernel
theorem dX9_isSeen_101 : decode cX9_isSeen 101 = .ok (.isub, 1) := by decide +kernel
theorem dX9_isSeen_102 : decode cX9_isSeen 102 = .ok (.istore 9, 2) := by decide +kernel
theorem dX9_isSeen_104 : decode cX9_isSeen 104 = .ok (.iload 8, 2) := by decide +kernel
theorem dX9_isSeen_106 : decode cX9_isSeen 106 = .ok (.i2l, 1) := by decide +kernel
theorem dX9_isSeen_107 : decode cX9_isSeen 107 = .ok (.iload 8, 2) := by decide +kernel
theorem dX9_isSeen_109 : decode cX9_isSeen 109 = .ok (.i2l, 1) := by decide +kernel
theorem dX9_isSeen_110 : decode cX9_isSeen 110 = .ok (.lmul, 1) := by decide +kernel
theorem dX9_isSeen_111 : decode cX9_isSeen 111 = .ok (.iload 9, 2) := by decide +kernel
theorem dX9_isSeen_113 : decode cX9_isSeen 113 = .ok (.i2l, 1) := by decide +kernel
theorem dX9_isSeen_114 : decode cX9_isSeen 114 = .ok (.iload 9, 2) := by decide +kernel
theorem dX9_isSeen_116 : decode cX9_isSeen 116 = .ok (.i2l, 1) := by decide +kernel
theorem dX9_isSeen_117 : decode cX9_isSeen 117 = .ok (.lmul, 1) := by decide +kernel
theorem dX9_isSeen_118 : decode cX9_isSeen 118 = .ok (.ladd, 1) := by decide +kernel
theorem dX9_isSeen_119 : decode cX9_isSeen 119 = .ok (.lstore 10, 2) := by decide +kernel
theorem dX9_isSeen_121 : decode cX9_isSeen 121 = .ok (.iload 4, 2) := by decide +kernel
theorem dX9_isSeen_123 : decode cX9_isSeen 123 = .ok (.iload 5, 2) := by decide +kernel
theorem dX9_isSeen_125 : decode cX9_isSeen 125 = .ok (.iload 8, 2) := by decide +kernel
theorem dX9_isSeen_127 : decode cX9_isSeen 127 = .ok (.iload 9, 2) := by decide +kernel
theorem dX9_isSeen_129 : decode cX9_isSeen 129 = .ok (.invokestatic 114, 3) := by decide +kernel
theorem dX9_isSeen_132 : decode cX9_isSeen 132 = .ok (.i2l, 1) := by decide +kernel
theorem dX9_isSeen_133 : decode cX9_isSeen 133 = .ok (.lstore 12, 2) := by decide +kernel
theorem dX9_isSeen_135 : decode cX9_isSeen 135 = .ok (.iload 4, 2) := by decide +kernel
theorem dX9_isSeen_137 : decode cX9_isSeen 137 = .ok (.i2l, 1) := by decide +kernel
theorem dX9_isSeen_138 : decode cX9_isSeen 138 = .ok (.iload 4, 2) := by decide +kernel
theorem dX9_isSeen_140 : decode cX9_isSeen 140 = .ok (.i2l, 1) := by decide +kernel
theorem dX9_isSeen_141 : decode cX9_isSeen 141 = .ok (.lmul, 1) := by decide +kernel
theorem dX9_isSeen_142 : decode cX9_isSeen 142 = .ok (.iload 5, 2) := by decide +kernel
theorem dX9_isSeen_144 : decode cX9_isSeen 144 = .ok (.i2l, 1) := by decide +kernel
theorem dX9_isSeen_145 : decode cX9_isSeen 145 = .ok (.iload 5, 2) := by decide +kernel
theorem dX9_isSeen_147 : decode cX9_isSeen 147 = .ok (.i2l, 1) := by decide +kernel
theorem dX9_isSeen_148 : decode cX9_isSeen 148 = .ok (.lmul, 1) := by decide +kernel
theorem dX9_isSeen_149 : decode cX9_isSeen 149 = .ok (.ladd, 1) := by decide +kernel
theorem dX9_isSeen_150 : decode cX9_isSeen 150 = .ok (.lstore 14, 2) := by decide +kernel
theorem dX9_isSeen_152 : decode cX9_isSeen 152 = .ok (.lload 10, 2) := by decide +kernel
theorem dX9_isSeen_154 : decode cX9_isSeen 154 = .ok (.ldc2_w 126, 3) := by decide +kernel
theorem dX9_isSeen_157 : decode cX9_isSeen 157 = .ok (.aload_n 0, 1) := by decide +kernel
theorem dX9_isSeen_158 : decode cX9_isSeen 158 = .ok (.getfield 22, 3) := by decide +kernel
theorem dX9_isSeen_161 : decode cX9_isSeen 161 = .ok (.i2l, 1) := by decide +kernel
theorem dX9_isSeen_162 : decode cX9_isSeen 162 = .ok (.lmul, 1) := by decide +kernel
theorem dX9_isSeen_163 : decode cX9_isSeen 163 = .ok (.aload_n 0, 1) := by decide +kernel
theorem dX9_isSeen_164 : decode cX9_isSeen 164 = .ok (.getfield 22, 3) := by decide +kernel
theorem dX9_isSeen_167 : decode cX9_isSeen 167 = .ok (.i2l, 1) := by decide +kernel
theorem dX9_isSeen_168 : decode cX9_isSeen 168 = .ok (.lmul, 1) := by decide +kernel
theorem dX9_isSeen_169 : decode cX9_isSeen 169 = .ok (.lcmp, 1) := by decide +kernel
theorem dX9_isSeen_170 : decode cX9_isSeen 170 = .ok (.ifCond .gt 27, 3) := by decide +kernel
theorem dX9_isSeen_173 : decode cX9_isSeen 173 = .ok (.ldc2_w 128, 3) := by decide +kernel
theorem dX9_isSeen_176 : decode cX9_isSeen 176 = .ok (.lload 12, 2) := by decide +kernel
theorem dX9_isSeen_178 : decode cX9_isSeen 178 = .ok (.lmul, 1) := by decide +kernel
theorem dX9_isSeen_179 : decode cX9_isSeen 179 = .ok (.lload 12, 2) := by decide +kernel
theorem dX9_isSeen_181 : decode cX9_isSeen 181 = .ok (.lmul, 1) := by decide +kernel
theorem dX9_isSeen_182 : decode cX9_isSeen 182 = .ok (.aload_n 0, 1) := by decide +kernel
theorem dX9_isSeen_183 : decode cX9_isSeen 183 = .ok (.getfield 26, 3) := by decide +kernel
theorem dX9_isSeen_186 : decode cX9_isSeen 186 = .ok (.i2l, 1) := by decide +kernel
theorem dX9_isSeen_187 : decode cX9_isSeen 187 = .ok (.lload 14, 2) := by decide +kernel
theorem dX9_isSeen_189 : decode cX9_isSeen 189 = .ok (.lmul, 1) := by decide +kernel
theorem dX9_isSeen_190 : decode cX9_isSeen 190 = .ok (.lload 10, 2) := by decide +kernel
theorem dX9_isSeen_192 : decode cX9_isSeen 192 = .ok (.lmul, 1) := by decide +kernel
theorem dX9_isSeen_193 : decode cX9_isSeen 193 = .ok (.lcmp, 1) := by decide +kernel
theorem dX9_isSeen_194 : decode cX9_isSeen 194 = .ok (.ifCond .ge 5, 3) := by decide +kernel
theorem dX9_isSeen_197 : decode cX9_isSeen 197 = .ok (.iconst 0, 1) := by decide +kernel
theorem dX9_isSeen_198 : decode cX9_isSeen 198 = .ok (.ireturn, 1) := by decide +kernel
theorem dX9_isSeen_199 : decode cX9_isSeen 199 = .ok (.iconst 1, 1) := by decide +kernel
theorem dX9_isSeen_200 : decode cX9_isSeen 200 = .ok (.istore 16, 2) := by decide +kernel
theorem dX9_isSeen_202 : decode cX9_isSeen 202 = .ok (.iconst 0, 1) := by decide +kernel
theorem dX9_isSeen_203 : decode cX9_isSeen 203 = .ok (.istore 17, 2) := by decide +kernel
theorem dX9_isSeen_205 : decode cX9_isSeen 205 = .ok (.iload 17, 2) := by decide +kernel
theorem dX9_isSeen_207 : decode cX9_isSeen 207 = .ok (.aload_n 0, 1) := by decide +kernel
theorem dX9_isSeen_208 : decode cX9_isSeen 208 = .ok (.getfield 108, 3) := by decide +kernel
theorem dX9_isSeen_211 : decode cX9_isSeen 211 = .ok (.if_icmp .ge 79, 3) := by decide +kernel
theorem dX9_isSeen_214 : decode cX9_isSeen 214 = .ok (.iload 16, 2) := by decide +kernel
theorem dX9_isSeen_216 : decode cX9_isSeen 216 = .ok (.ifCond .eq 65, 3) := by decide +kernel
theorem dX9_isSeen_219 : decode cX9_isSeen 219 = .ok (.iload 17, 2) := by decide +kernel
theorem dX9_isSeen_221 : decode cX9_isSeen 221 = .ok (.iload_n 3, 1) := by decide +kernel
theorem dX9_isSeen_222 : decode cX9_isSeen 222 = .ok (.if_icmp .eq 55, 3) := by decide +kernel
theorem dX9_isSeen_225 : decode cX9_isSeen 225 = .ok (.iconst 2, 1) := by decide +kernel
theorem dX9_isSeen_226 : decode cX9_isSeen 226 = .ok (.iload_n 1, 1) := by decide +kernel
theorem dX9_isSeen_227 : decode cX9_isSeen 227 = .ok (.imul, 1) := by decide +kernel
theorem dX9_isSeen_228 : decode cX9_isSeen 228 = .ok (.iconst 2, 1) := by decide +kernel
theorem dX9_isSeen_229 : decode cX9_isSeen 229 = .ok (.iload_n 2, 1) := by decide +kernel
theorem dX9_isSeen_230 : decode cX9_isSeen 230 = .ok (.imul, 1) := by decide +kernel
theorem dX9_isSeen_231 : decode cX9_isSeen 231 = .ok (.iload 6, 2) := by decide +kernel
theorem dX9_isSeen_233 : decode cX9_isSeen 233 = .ok (.iload 7, 2) := by decide +kernel
theorem dX9_isSeen_235 : decode cX9_isSeen 235 = .ok (.iconst 2, 1) := by decide +kernel
theorem dX9_isSeen_236 : decode cX9_isSeen 236 = .ok (.aload_n 0, 1) := by decide +kernel
theorem dX9_isSeen_237 : decode cX9_isSeen 237 = .ok (.getfield 7, 3) := by decide +kernel
theorem dX9_isSeen_240 : decode cX9_isSeen 240 = .ok (.iload 17, 2) := by decide +kernel
theorem dX9_isSeen_242 : decode cX9_isSeen 242 = .ok (.iaload, 1) := by decide +kernel
theorem dX9_isSeen_243 : decode cX9_isSeen 243 = .ok (.imul, 1) := by decide +kernel
theorem dX9_isSeen_244 : decode cX9_isSeen 244 = .ok (.iconst 2, 1) := by decide +kernel
theorem dX9_isSeen_245 : decode cX9_isSeen 245 = .ok (.aload_n 0, 1) := by decide +kernel
theorem dX9_isSeen_246 : decode cX9_isSeen 246 = .ok (.getfield 13, 3) := by decide +kernel
theorem dX9_isSeen_249 : decode cX9_isSeen 249 = .ok (.iload 17, 2) := by decide +kernel
theorem dX9_isSeen_251 : decode cX9_isSeen 251 = .ok (.iaload, 1) := by decide +kernel
theorem dX9_isSeen_252 : decode cX9_isSeen 252 = .ok (.imul, 1) := by decide +kernel
theorem dX9_isSeen_253 : decode cX9_isSeen 253 = .ok (.iconst 2, 1) := by decide +kernel
theorem dX9_isSeen_254 : decode cX9_isSeen 254 = .ok (.aload_n 0, 1) := by decide +kernel
theorem dX9_isSeen_255 : decode cX9_isSeen 255 = .ok (.getfield 16, 3) := by decide +kernel
theorem dX9_isSeen_258 : decode cX9_isSeen 258 = .ok (.iload 17, 2) := by decide +kernel
theorem dX9_isSeen_260 : decode cX9_isSeen 260 = .ok (.iaload, 1) := by decide +kernel
theorem dX9_isSeen_261 : decode cX9_isSeen 261 = .ok (.imul, 1) := by decide +kernel
theorem dX9_isSeen_262 : decode cX9_isSeen 262 = .ok (.iconst 2, 1) := by decide +kernel
theorem dX9_isSeen_263 : decode cX9_isSeen 263 = .ok (.aload_n 0, 1) := by decide +kernel
theorem dX9_isSeen_264 : decode cX9_isSeen 264 = .ok (.getfield 19, 3) := by decide +kernel
theorem dX9_isSeen_267 : decode cX9_isSeen 267 = .ok (.iload 17, 2) := by decide +kernel
theorem dX9_isSeen_269 : decode cX9_isSeen 269 = .ok (.iaload, 1) := by decide +kernel
theorem dX9_isSeen_270 : decode cX9_isSeen 270 = .ok (.imul, 1) := by decide +kernel
theorem dX9_isSeen_271 : decode cX9_isSeen 271 = .ok (.invokestatic 130, 3) := by decide +kernel
theorem dX9_isSeen_274 : decode cX9_isSeen 274 = .ok (.ifCond .ne 7, 3) := by decide +kernel
theorem dX9_isSeen_277 : decode cX9_isSeen 277 = .ok (.iconst 1, 1) := by decide +kernel
theorem dX9_isSeen_278 : decode cX9_isSeen 278 = .ok (.goto 4, 3) := by decide +kernel
theorem dX9_isSeen_281 : decode cX9_isSeen 281 = .ok (.iconst 0, 1) := by decide +kernel
theorem dX9_isSeen_282 : decode cX9_isSeen 282 = .ok (.istore 16, 2) := by decide +kernel
theorem dX9_isSeen_284 : decode cX9_isSeen 284 = .ok (.iinc 17 1, 3) := by decide +kernel
theorem dX9_isSeen_287 : decode cX9_isSeen 287 = .ok (.goto (-82), 3) := by decide +kernel
theorem dX9_isSeen_290 : decode cX9_isSeen 290 = .ok (.iload 16, 2) := by decide +kernel
theorem dX9_isSeen_292 : decode cX9_isSeen 292 = .ok (.ireturn, 1) := by decide +kernel
theorem dX9_panel_0 : decode cX9_panel 0 = .ok (.aload_n 0, 1) := by decide +kernel
theorem dX9_panel_1 : decode cX9_panel 1 = .ok (.iconst 0, 1) := by decide +kernel
theorem dX9_panel_2 : decode cX9_panel 2 = .ok (.putfield 99, 3) := by decide +kernel
theorem dX9_panel_5 : decode cX9_panel 5 = .ok (.iload_n 1, 1) := by decide +kernel
theorem dX9_panel_6 : decode cX9_panel 6 = .ok (.iload_n 2, 1) := by decide +kernel
theorem dX9_panel_7 : decode cX9_panel 7 = .ok (.invokestatic 134, 3) := by decide +kernel
theorem dX9_panel_10 : decode cX9_panel 10 = .ok (.ifCond .ne 12, 3) := by decide +kernel
theorem dX9_panel_13 : decode cX9_panel 13 = .ok (.iload_n 3, 1) := by decide +kernel
theorem dX9_panel_14 : decode cX9_panel 14 = .ok (.iload 4, 2) := by decide +kernel
theorem dX9_panel_16 : decode cX9_panel 16 = .ok (.invokestatic 134, 3) := by decide +kernel
theorem dX9_panel_19 : decode cX9_panel 19 = .ok (.ifCond .eq 6, 3) := by decide +kernel
theorem dX9_panel_22 : decode cX9_panel 22 = .ok (.bipush (-2), 2) := by decide +kernel
theorem dX9_panel_24 : decode cX9_panel 24 = .ok (.ireturn, 1) := by decide +kernel
theorem dX9_panel_25 : decode cX9_panel 25 = .ok (.iload_n 1, 1) := by decide +kernel
theorem dX9_panel_26 : decode cX9_panel 26 = .ok (.iload_n 3, 1) := by decide +kernel
theorem dX9_panel_27 : decode cX9_panel 27 = .ok (.if_icmp .ne 12, 3) := by decide +kernel
theorem dX9_panel_30 : decode cX9_panel 30 = .ok (.iload_n 2, 1) := by decide +kernel
theorem dX9_panel_31 : decode cX9_panel 31 = .ok (.iload 4, 2) := by decide +kernel
theorem dX9_panel_33 : decode cX9_panel 33 = .ok (.if_icmp .ne 6, 3) := by decide +kernel
theorem dX9_panel_36 : decode cX9_panel 36 = .ok (.bipush (-3), 2) := by decide +kernel
theorem dX9_panel_38 : decode cX9_panel 38 = .ok (.ireturn, 1) := by decide +kernel
theorem dX9_panel_39 : decode cX9_panel 39 = .ok (.aload_n 0, 1) := by decide +kernel
theorem dX9_panel_40 : decode cX9_panel 40 = .ok (.getfield 108, 3) := by decide +kernel
theorem dX9_panel_43 : decode cX9_panel 43 = .ok (.bipush 12, 2) := by decide +kernel
theorem dX9_panel_45 : decode cX9_panel 45 = .ok (.if_icmp .ne 6, 3) := by decide +kernel
theorem dX9_panel_48 : decode cX9_panel 48 = .ok (.bipush (-4), 2) := by decide +kernel
theorem dX9_panel_50 : decode cX9_panel 50 = .ok (.ireturn, 1) := by decide +kernel
theorem dX9_panel_51 : decode cX9_panel 51 = .ok (.aload_n 0, 1) := by decide +kernel
theorem dX9_panel_52 : decode cX9_panel 52 = .ok (.getfield 7, 3) := by decide +kernel
theorem dX9_panel_55 : decode cX9_panel 55 = .ok (.aload_n 0, 1) := by decide +kernel
theorem dX9_panel_56 : decode cX9_panel 56 = .ok (.getfield 108, 3) := by decide +kernel
theorem dX9_panel_59 : decode cX9_panel 59 = .ok (.iload_n 1, 1) := by decide +kernel
theorem dX9_panel_60 : decode cX9_panel 60 = .ok (.iastore, 1) := by decide +kernel
theorem dX9_panel_61 : decode cX9_panel 61 = .ok (.aload_n 0, 1) := by decide +kernel
theorem dX9_panel_62 : decode cX9_panel 62 = .ok (.getfield 13, 3) := by decide +kernel
theorem dX9_panel_65 : decode cX9_panel 65 = .ok (.aload_n 0, 1) := by decide +kernel
theorem dX9_panel_66 : decode cX9_panel 66 = .ok (.getfield 108, 3) := by decide +kernel
theorem dX9_panel_69 : decode cX9_panel 69 = .ok (.iload_n 2, 1) := by decide +kernel
theorem dX9_panel_70 : decode cX9_panel 70 = .ok (.iastore, 1) := by decide +kernel
theorem dX9_panel_71 : decode cX9_panel 71 = .ok (.aload_n 0, 1) := by decide +kernel
theorem dX9_panel_72 : decode cX9_panel 72 = .ok (.getfield 16, 3) := by decide +kernel
theorem dX9_panel_75 : decode cX9_panel 75 = .ok (.aload_n 0, 1) := by decide +kernel
theorem dX9_panel_76 : decode cX9_panel 76 = .ok (.getfield 108, 3) := by decide +kernel
theorem dX9_panel_79 : decode cX9_panel 79 = .ok (.iload_n 3, 1) := by decide +kernel
theorem dX9_panel_80 : decode cX9_panel 80 = .ok (.iastore, 1) := by decide +kernel
theorem dX9_panel_81 : decode cX9_panel 81 = .ok (.aload_n 0, 1) := by decide +kernel
theorem dX9_panel_82 : decode cX9_panel 82 = .ok (.getfield 19, 3) := by decide +kernel
theorem dX9_panel_85 : decode cX9_panel 85 = .ok (.aload_n 0, 1) := by decide +kernel
theorem dX9_panel_86 : decode cX9_panel 86 = .ok (.getfield 108, 3) := by decide +kernel
theorem dX9_panel_89 : decode cX9_panel 89 = .ok (.iload 4, 2) := by decide +kernel
theorem dX9_panel_91 : decode cX9_panel 91 = .ok (.iastore, 1) := by decide +kernel
theorem dX9_panel_92 : decode cX9_panel 92 = .ok (.aload_n 0, 1) := by decide +kernel
theorem dX9_panel_93 : decode cX9_panel 93 = .ok (.dup, 1) := by decide +kernel
theorem dX9_panel_94 : decode cX9_panel 94 = .ok (.getfield 108, 3) := by decide +kernel
theorem dX9_panel_97 : decode cX9_panel 97 = .ok (.iconst 1, 1) := by decide +kernel
theorem dX9_panel_98 : decode cX9_panel 98 = .ok (.iadd, 1) := by decide +kernel
theorem dX9_panel_99 : decode cX9_panel 99 = .ok (.putfield 108, 3) := by decide +kernel
theorem dX9_panel_102 : decode cX9_panel 102 = .ok (.aload_n 0, 1) := by decide +kernel
theorem dX9_panel_103 : decode cX9_panel 103 = .ok (.getfield 108, 3) := by decide +kernel
theorem dX9_panel_106 : decode cX9_panel 106 = .ok (.iconst 1, 1) := by decide +kernel
theorem dX9_panel_107 : decode cX9_panel 107 = .ok (.isub, 1) := by decide +kernel
theorem dX9_panel_108 : decode cX9_panel 108 = .ok (.ireturn, 1) := by decide +kernel
theorem dX9_eye_0 : decode cX9_eye 0 = .ok (.aload_n 0, 1) := by decide +kernel
theorem dX9_eye_1 : decode cX9_eye 1 = .ok (.iconst 0, 1) := by decide +kernel
theorem dX9_eye_2 : decode cX9_eye 2 = .ok (.putfield 99, 3) := by decide +kernel
theorem dX9_eye_5 : decode cX9_eye 5 = .ok (.iload_n 1, 1) := by decide +kernel
theorem dX9_eye_6 : decode cX9_eye 6 = .ok (.i2l, 1) := by decide +kernel
theorem dX9_eye_7 : decode cX9_eye 7 = .ok (.lconst 0, 1) := by decide +kernel
theorem dX9_eye_8 : decode cX9_eye 8 = .ok (.lconst 1, 1) := by decide +kernel
theorem dX9_eye_9 : decode cX9_eye 9 = .ok (.invokestatic 104, 3) := by decide +kernel
theorem dX9_eye_12 : decode cX9_eye 12 = .ok (.ifCond .eq 33, 3) := by decide +kernel
theorem dX9_eye_15 : decode cX9_eye 15 = .ok (.iload_n 2, 1) := by decide +kernel
theorem dX9_eye_16 : decode cX9_eye 16 = .ok (.i2l, 1) := by decide +kernel
theorem dX9_eye_17 : decode cX9_eye 17 = .ok (.iload_n 1, 1) := by decide +kernel
theorem dX9_eye_18 : decode cX9_eye 18 = .ok (.ifCond .ne 7, 3) := by decide +kernel
theorem dX9_eye_21 : decode cX9_eye 21 = .ok (.lconst 1, 1) := by decide +kernel
theorem dX9_eye_22 : decode cX9_eye 22 = .ok (.goto 4, 3) := by decide +kernel
theorem dX9_eye_25 : decode cX9_eye 25 = .ok (.lconst 0, 1) := by decide +kernel
theorem dX9_eye_26 : decode cX9_eye 26 = .ok (.iload_n 1, 1) := by decide +kernel
theorem dX9_eye_27 : decode cX9_eye 27 = .ok (.ifCond .ne 9, 3) := by decide +kernel
theorem dX9_eye_30 : decode cX9_eye 30 = .ok (.ldc2_w 138, 3) := by decide +kernel
theorem dX9_eye_33 : decode cX9_eye 33 = .ok (.goto 6, 3) := by decide +kernel
theorem dX9_eye_36 : decode cX9_eye 36 = .ok (.ldc2_w 128, 3) := by decide +kernel
theorem dX9_eye_39 : decode cX9_eye 39 = .ok (.invokestatic 104, 3) := by decide +kernel
theorem dX9_eye_42 : decode cX9_eye 42 = .ok (.ifCond .ne 6, 3) := by decide +kernel
theorem dX9_eye_45 : decode cX9_eye 45 = .ok (.bipush (-2), 2) := by decide +kernel
theorem dX9_eye_47 : decode cX9_eye 47 = .ok (.ireturn, 1) := by decide +kernel
theorem dX9_eye_48 : decode cX9_eye 48 = .ok (.iload_n 1, 1) := by decide +kernel
theorem dX9_eye_49 : decode cX9_eye 49 = .ok (.ifCond .ne 10, 3) := by decide +kernel
theorem dX9_eye_52 : decode cX9_eye 52 = .ok (.aload_n 0, 1) := by decide +kernel
theorem dX9_eye_53 : decode cX9_eye 53 = .ok (.getfield 22, 3) := by decide +kernel
theorem dX9_eye_56 : decode cX9_eye 56 = .ok (.goto 7, 3) := by decide +kernel
theorem dX9_eye_59 : decode cX9_eye 59 = .ok (.aload_n 0, 1) := by decide +kernel
theorem dX9_eye_60 : decode cX9_eye 60 = .ok (.getfield 26, 3) := by decide +kernel
theorem dX9_eye_63 : decode cX9_eye 63 = .ok (.istore_n 3, 1) := by decide +kernel
theorem dX9_eye_64 : decode cX9_eye 64 = .ok (.aload_n 0, 1) := by decide +kernel
theorem dX9_eye_65 : decode cX9_eye 65 = .ok (.iload_n 1, 1) := by decide +kernel
theorem dX9_eye_66 : decode cX9_eye 66 = .ok (.ifCond .ne 7, 3) := by decide +kernel
theorem dX9_eye_69 : decode cX9_eye 69 = .ok (.iload_n 2, 1) := by decide +kernel
theorem dX9_eye_70 : decode cX9_eye 70 = .ok (.goto 7, 3) := by decide +kernel
theorem dX9_eye_73 : decode cX9_eye 73 = .ok (.aload_n 0, 1) := by decide +kernel
theorem dX9_eye_74 : decode cX9_eye 74 = .ok (.getfield 22, 3) := by decide +kernel
theorem dX9_eye_77 : decode cX9_eye 77 = .ok (.putfield 22, 3) := by decide +kernel
theorem dX9_eye_80 : decode cX9_eye 80 = .ok (.aload_n 0, 1) := by decide +kernel
theorem dX9_eye_81 : decode cX9_eye 81 = .ok (.iload_n 1, 1) := by decide +kernel
theorem dX9_eye_82 : decode cX9_eye 82 = .ok (.ifCond .ne 10, 3) := by decide +kernel
theorem dX9_eye_85 : decode cX9_eye 85 = .ok (.aload_n 0, 1) := by decide +kernel
theorem dX9_eye_86 : decode cX9_eye 86 = .ok (.getfield 26, 3) := by decide +kernel
theorem dX9_eye_89 : decode cX9_eye 89 = .ok (.goto 4, 3) := by decide +kernel
theorem dX9_eye_92 : decode cX9_eye 92 = .ok (.iload_n 2, 1) := by decide +kernel
theorem dX9_eye_93 : decode cX9_eye 93 = .ok (.putfield 26, 3) := by decide +kernel
theorem dX9_eye_96 : decode cX9_eye 96 = .ok (.iload_n 3, 1) := by decide +kernel
theorem dX9_eye_97 : decode cX9_eye 97 = .ok (.ireturn, 1) := by decide +kernel
theorem dX9_view_0 : decode cX9_view 0 = .ok (.aload_n 0, 1) := by decide +kernel
theorem dX9_view_1 : decode cX9_view 1 = .ok (.iconst 0, 1) := by decide +kernel
theorem dX9_view_2 : decode cX9_view 2 = .ok (.putfield 99, 3) := by decide +kernel
theorem dX9_view_5 : decode cX9_view 5 = .ok (.iload_n 1, 1) := by decide +kernel
theorem dX9_view_6 : decode cX9_view 6 = .ok (.iload_n 2, 1) := by decide +kernel
theorem dX9_view_7 : decode cX9_view 7 = .ok (.invokestatic 134, 3) := by decide +kernel
theorem dX9_view_10 : decode cX9_view 10 = .ok (.ifCond .eq 6, 3) := by decide +kernel
theorem dX9_view_13 : decode cX9_view 13 = .ok (.bipush (-2), 2) := by decide +kernel
theorem dX9_view_15 : decode cX9_view 15 = .ok (.ireturn, 1) := by decide +kernel
theorem dX9_view_16 : decode cX9_view 16 = .ok (.aload_n 0, 1) := by decide +kernel
theorem dX9_view_17 : decode cX9_view 17 = .ok (.getfield 111, 3) := by decide +kernel
theorem dX9_view_20 : decode cX9_view 20 = .ok (.bipush 10, 2) := by decide +kernel
theorem dX9_view_22 : decode cX9_view 22 = .ok (.if_icmp .ne 6, 3) := by decide +kernel
theorem dX9_view_25 : decode cX9_view 25 = .ok (.bipush (-4), 2) := by decide +kernel
theorem dX9_view_27 : decode cX9_view 27 = .ok (.ireturn, 1) := by decide +kernel
theorem dX9_view_28 : decode cX9_view 28 = .ok (.aload_n 0, 1) := by decide +kernel
theorem dX9_view_29 : decode cX9_view 29 = .ok (.getfield 29, 3) := by decide +kernel
theorem dX9_view_32 : decode cX9_view 32 = .ok (.aload_n 0, 1) := by decide +kernel
theorem dX9_view_33 : decode cX9_view 33 = .ok (.getfield 111, 3) := by decide +kernel
theorem dX9_view_36 : decode cX9_view 36 = .ok (.iload_n 1, 1) := by decide +kernel
theorem dX9_view_37 : decode cX9_view 37 = .ok (.iastore, 1) := by decide +kernel
theorem dX9_view_38 : decode cX9_view 38 = .ok (.aload_n 0, 1) := by decide +kernel
theorem dX9_view_39 : decode cX9_view 39 = .ok (.getfield 32, 3) := by decide +kernel
theorem dX9_view_42 : decode cX9_view 42 = .ok (.aload_n 0, 1) := by decide +kernel
theorem dX9_view_43 : decode cX9_view 43 = .ok (.getfield 111, 3) := by decide +kernel
theorem dX9_view_46 : decode cX9_view 46 = .ok (.iload_n 2, 1) := by decide +kernel
theorem dX9_view_47 : decode cX9_view 47 = .ok (.iastore, 1) := by decide +kernel
theorem dX9_view_48 : decode cX9_view 48 = .ok (.aload_n 0, 1) := by decide +kernel
theorem dX9_view_49 : decode cX9_view 49 = .ok (.dup, 1) := by decide +kernel
theorem dX9_view_50 : decode cX9_view 50 = .ok (.getfield 111, 3) := by decide +kernel
theorem dX9_view_53 : decode cX9_view 53 = .ok (.iconst 1, 1) := by decide +kernel
theorem dX9_view_54 : decode cX9_view 54 = .ok (.iadd, 1) := by decide +kernel
theorem dX9_view_55 : decode cX9_view 55 = .ok (.putfield 111, 3) := by decide +kernel
theorem dX9_view_58 : decode cX9_view 58 = .ok (.aload_n 0, 1) := by decide +kernel
theorem dX9_view_59 : decode cX9_view 59 = .ok (.getfield 111, 3) := by decide +kernel
theorem dX9_view_62 : decode cX9_view 62 = .ok (.iconst 1, 1) := by decide +kernel
theorem dX9_view_63 : decode cX9_view 63 = .ok (.isub, 1) := by decide +kernel
theorem dX9_view_64 : decode cX9_view 64 = .ok (.ireturn, 1) := by decide +kernel
theorem dX9_seen_0 : decode cX9_seen 0 = .ok (.aload_n 0, 1) := by decide +kernel
theorem dX9_seen_1 : decode cX9_seen 1 = .ok (.iconst 0, 1) := by decide +kernel
theorem dX9_seen_2 : decode cX9_seen 2 = .ok (.putfield 99, 3) := by decide +kernel
theorem dX9_seen_5 : decode cX9_seen 5 = .ok (.iload_n 1, 1) := by decide +kernel
theorem dX9_seen_6 : decode cX9_seen 6 = .ok (.iload_n 2, 1) := by decide +kernel
theorem dX9_seen_7 : decode cX9_seen 7 = .ok (.invokestatic 134, 3) := by decide +kernel
theorem dX9_seen_10 : decode cX9_seen 10 = .ok (.ifCond .eq 8, 3) := by decide +kernel
theorem dX9_seen_13 : decode cX9_seen 13 = .ok (.bipush (-2), 2) := by decide +kernel
theorem dX9_seen_15 : decode cX9_seen 15 = .ok (.goto 30, 3) := by decide +kernel
theorem dX9_seen_18 : decode cX9_seen 18 = .ok (.aload_n 0, 1) := by decide +kernel
theorem dX9_seen_19 : decode cX9_seen 19 = .ok (.iload_n 3, 1) := by decide +kernel
theorem dX9_seen_20 : decode cX9_seen 20 = .ok (.invokevirtual 140, 3) := by decide +kernel
theorem dX9_seen_23 : decode cX9_seen 23 = .ok (.ifCond .eq 7, 3) := by decide +kernel
theorem dX9_seen_26 : decode cX9_seen 26 = .ok (.iconst (-1), 1) := by decide +kernel
theorem dX9_seen_27 : decode cX9_seen 27 = .ok (.goto 18, 3) := by decide +kernel
theorem dX9_seen_30 : decode cX9_seen 30 = .ok (.aload_n 0, 1) := by decide +kernel
theorem dX9_seen_31 : decode cX9_seen 31 = .ok (.iload_n 1, 1) := by decide +kernel
theorem dX9_seen_32 : decode cX9_seen 32 = .ok (.iload_n 2, 1) := by decide +kernel
theorem dX9_seen_33 : decode cX9_seen 33 = .ok (.iload_n 3, 1) := by decide +kernel
theorem dX9_seen_34 : decode cX9_seen 34 = .ok (.invokevirtual 144, 3) := by decide +kernel
theorem dX9_seen_37 : decode cX9_seen 37 = .ok (.ifCond .eq 7, 3) := by decide +kernel
theorem dX9_seen_40 : decode cX9_seen 40 = .ok (.iconst 1, 1) := by decide +kernel
theorem dX9_seen_41 : decode cX9_seen 41 = .ok (.goto 4, 3) := by decide +kernel
theorem dX9_seen_44 : decode cX9_seen 44 = .ok (.iconst 0, 1) := by decide +kernel
theorem dX9_seen_45 : decode cX9_seen 45 = .ok (.ireturn, 1) := by decide +kernel
theorem dX9_seesOf_0 : decode cX9_seesOf 0 = .ok (.iconst 0, 1) := by decide +kernel
theorem dX9_seesOf_1 : decode cX9_seesOf 1 = .ok (.istore_n 2, 1) := by decide +kernel
theorem dX9_seesOf_2 : decode cX9_seesOf 2 = .ok (.iconst 0, 1) := by decide +kernel
theorem dX9_seesOf_3 : decode cX9_seesOf 3 = .ok (.istore_n 3, 1) := by decide +kernel
theorem dX9_seesOf_4 : decode cX9_seesOf 4 = .ok (.iload_n 3, 1) := by decide +kernel
theorem dX9_seesOf_5 : decode cX9_seesOf 5 = .ok (.aload_n 0, 1) := by decide +kernel
theorem dX9_seesOf_6 : decode cX9_seesOf 6 = .ok (.getfield 108, 3) := by decide +kernel
theorem dX9_seesOf_9 : decode cX9_seesOf 9 = .ok (.if_icmp .ge 39, 3) := by decide +kernel
theorem dX9_seesOf_12 : decode cX9_seesOf 12 = .ok (.iload_n 2, 1) := by decide +kernel
theorem dX9_seesOf_13 : decode cX9_seesOf 13 = .ok (.aload_n 0, 1) := by decide +kernel
theorem dX9_seesOf_14 : decode cX9_seesOf 14 = .ok (.aload_n 0, 1) := by decide +kernel
theorem dX9_seesOf_15 : decode cX9_seesOf 15 = .ok (.getfield 29, 3) := by decide +kernel
theorem dX9_seesOf_18 : decode cX9_seesOf 18 = .ok (.iload_n 1, 1) := by decide +kernel
theorem dX9_seesOf_19 : decode cX9_seesOf 19 = .ok (.iaload, 1) := by decide +kernel
theorem dX9_seesOf_20 : decode cX9_seesOf 20 = .ok (.aload_n 0, 1) := by decide +kernel
theorem dX9_seesOf_21 : decode cX9_seesOf 21 = .ok (.getfield 32, 3) := by decide +kernel
theorem dX9_seesOf_24 : decode cX9_seesOf 24 = .ok (.iload_n 1, 1) := by decide +kernel
theorem dX9_seesOf_25 : decode cX9_seesOf 25 = .ok (.iaload, 1) := by decide +kernel
theorem dX9_seesOf_26 : decode cX9_seesOf 26 = .ok (.iload_n 3, 1) := by decide +kernel
theorem dX9_seesOf_27 : decode cX9_seesOf 27 = .ok (.invokevirtual 144, 3) := by decide +kernel
theorem dX9_seesOf_30 : decode cX9_seesOf 30 = .ok (.ifCond .eq 9, 3) := by decide +kernel
theorem dX9_seesOf_33 : decode cX9_seesOf 33 = .ok (.iconst 1, 1) := by decide +kernel
theorem dX9_seesOf_34 : decode cX9_seesOf 34 = .ok (.iload_n 3, 1) := by decide +kernel
theorem dX9_seesOf_35 : decode cX9_seesOf 35 = .ok (.ishl, 1) := by decide +kernel
theorem dX9_seesOf_36 : decode cX9_seesOf 36 = .ok (.goto 4, 3) := by decide +kernel
theorem dX9_seesOf_39 : decode cX9_seesOf 39 = .ok (.iconst 0, 1) := by decide +kernel
theorem dX9_seesOf_40 : decode cX9_seesOf 40 = .ok (.ior, 1) := by decide +kernel
theorem dX9_seesOf_41 : decode cX9_seesOf 41 = .ok (.istore_n 2, 1) := by decide +kernel
theorem dX9_seesOf_42 : decode cX9_seesOf 42 = .ok (.iinc 3 1, 3) := by decide +kernel
theorem dX9_seesOf_45 : decode cX9_seesOf 45 = .ok (.goto (-41), 3) := by decide +kernel
theorem dX9_seesOf_48 : decode cX9_seesOf 48 = .ok (.iload_n 2, 1) := by decide +kernel
theorem dX9_seesOf_49 : decode cX9_seesOf 49 = .ok (.ireturn, 1) := by decide +kernel
theorem dX9_sees_0 : decode cX9_sees 0 = .ok (.aload_n 0, 1) := by decide +kernel
theorem dX9_sees_1 : decode cX9_sees 1 = .ok (.iconst 0, 1) := by decide +kernel
theorem dX9_sees_2 : decode cX9_sees 2 = .ok (.putfield 99, 3) := by decide +kernel
theorem dX9_sees_5 : decode cX9_sees 5 = .ok (.iload_n 1, 1) := by decide +kernel
theorem dX9_sees_6 : decode cX9_sees 6 = .ok (.i2l, 1) := by decide +kernel
theorem dX9_sees_7 : decode cX9_sees 7 = .ok (.lconst 0, 1) := by decide +kernel
theorem dX9_sees_8 : decode cX9_sees 8 = .ok (.aload_n 0, 1) := by decide +kernel
theorem dX9_sees_9 : decode cX9_sees 9 = .ok (.getfield 111, 3) := by decide +kernel
theorem dX9_sees_12 : decode cX9_sees 12 = .ok (.iconst 1, 1) := by decide +kernel
theorem dX9_sees_13 : decode cX9_sees 13 = .ok (.isub, 1) := by decide +kernel
theorem dX9_sees_14 : decode cX9_sees 14 = .ok (.i2l, 1) := by decide +kernel
theorem dX9_sees_15 : decode cX9_sees 15 = .ok (.invokestatic 104, 3) := by decide +kernel
theorem dX9_sees_18 : decode cX9_sees 18 = .ok (.ifCond .eq 11, 3) := by decide +kernel
theorem dX9_sees_21 : decode cX9_sees 21 = .ok (.aload_n 0, 1) := by decide +kernel
theorem dX9_sees_22 : decode cX9_sees 22 = .ok (.iload_n 1, 1) := by decide +kernel
theorem dX9_sees_23 : decode cX9_sees 23 = .ok (.invokevirtual 148, 3) := by decide +kernel
theorem dX9_sees_26 : decode cX9_sees 26 = .ok (.goto 4, 3) := by decide +kernel
theorem dX9_sees_29 : decode cX9_sees 29 = .ok (.iconst (-1), 1) := by decide +kernel
theorem dX9_sees_30 : decode cX9_sees 30 = .ok (.ireturn, 1) := by decide +kernel
theorem dX9_look_0 : decode cX9_look 0 = .ok (.iconst 0, 1) := by decide +kernel
theorem dX9_look_1 : decode cX9_look 1 = .ok (.istore_n 1, 1) := by decide +kernel
theorem dX9_look_2 : decode cX9_look 2 = .ok (.iload_n 1, 1) := by decide +kernel
theorem dX9_look_3 : decode cX9_look 3 = .ok (.aload_n 0, 1) := by decide +kernel
theorem dX9_look_4 : decode cX9_look 4 = .ok (.getfield 111, 3) := by decide +kernel
theorem dX9_look_7 : decode cX9_look 7 = .ok (.if_icmp .ge 20, 3) := by decide +kernel
theorem dX9_look_10 : decode cX9_look 10 = .ok (.aload_n 0, 1) := by decide +kernel
theorem dX9_look_11 : decode cX9_look 11 = .ok (.getfield 87, 3) := by decide +kernel
theorem dX9_look_14 : decode cX9_look 14 = .ok (.iload_n 1, 1) := by decide +kernel
theorem dX9_look_15 : decode cX9_look 15 = .ok (.aload_n 0, 1) := by decide +kernel
theorem dX9_look_16 : decode cX9_look 16 = .ok (.iload_n 1, 1) := by decide +kernel
theorem dX9_look_17 : decode cX9_look 17 = .ok (.invokevirtual 148, 3) := by decide +kernel
theorem dX9_look_20 : decode cX9_look 20 = .ok (.iastore, 1) := by decide +kernel
theorem dX9_look_21 : decode cX9_look 21 = .ok (.iinc 1 1, 3) := by decide +kernel
theorem dX9_look_24 : decode cX9_look 24 = .ok (.goto (-22), 3) := by decide +kernel
theorem dX9_look_27 : decode cX9_look 27 = .ok (.return_, 1) := by decide +kernel
theorem dX9_timesOf_0 : decode cX9_timesOf 0 = .ok (.ldc 151, 2) := by decide +kernel
theorem dX9_timesOf_2 : decode cX9_timesOf 2 = .ok (.istore_n 2, 1) := by decide +kernel
theorem dX9_timesOf_3 : decode cX9_timesOf 3 = .ok (.iconst 0, 1) := by decide +kernel
theorem dX9_timesOf_4 : decode cX9_timesOf 4 = .ok (.istore_n 3, 1) := by decide +kernel
theorem dX9_timesOf_5 : decode cX9_timesOf 5 = .ok (.iload_n 3, 1) := by decide +kernel
theorem dX9_timesOf_6 : decode cX9_timesOf 6 = .ok (.aload_n 0, 1) := by decide +kernel
theorem dX9_timesOf_7 : decode cX9_timesOf 7 = .ok (.getfield 108, 3) := by decide +kernel
theorem dX9_timesOf_10 : decode cX9_timesOf 10 = .ok (.if_icmp .ge 73, 3) := by decide +kernel
theorem dX9_timesOf_13 : decode cX9_timesOf 13 = .ok (.iconst 0, 1) := by decide +kernel
theorem dX9_timesOf_14 : decode cX9_timesOf 14 = .ok (.istore 4, 2) := by decide +kernel
theorem dX9_timesOf_16 : decode cX9_timesOf 16 = .ok (.iconst 0, 1) := by decide +kernel
theorem dX9_timesOf_17 : decode cX9_timesOf 17 = .ok (.istore 5, 2) := by decide +kernel
theorem dX9_timesOf_19 : decode cX9_timesOf 19 = .ok (.iload 5, 2) := by decide +kernel
theorem dX9_timesOf_21 : decode cX9_timesOf 21 = .ok (.aload_n 0, 1) := by decide +kernel
theorem dX9_timesOf_22 : decode cX9_timesOf 22 = .ok (.getfield 111, 3) := by decide +kernel
theorem dX9_timesOf_25 : decode cX9_timesOf 25 = .ok (.if_icmp .ge 39, 3) := by decide +kernel
theorem dX9_timesOf_28 : decode cX9_timesOf 28 = .ok (.iload 4, 2) := by decide +kernel
theorem dX9_timesOf_30 : decode cX9_timesOf 30 = .ok (.iload_n 1, 1) := by decide +kernel
theorem dX9_timesOf_31 : decode cX9_timesOf 31 = .ok (.iload 5, 2) := by decide +kernel
theorem dX9_timesOf_33 : decode cX9_timesOf 33 = .ok (.ishr, 1) := by decide +kernel
theorem dX9_timesOf_34 : decode cX9_timesOf 34 = .ok (.iconst 1, 1) := by decide +kernel
theorem dX9_timesOf_35 : decode cX9_timesOf 35 = .ok (.iand, 1) := by decide +kernel
theorem dX9_timesOf_36 : decode cX9_timesOf 36 = .ok (.iconst 1, 1) := by decide +kernel
theorem dX9_timesOf_37 : decode cX9_timesOf 37 = .ok (.if_icmp .ne 17, 3) := by decide +kernel
theorem dX9_timesOf_40 : decode cX9_timesOf 40 = .ok (.aload_n 0, 1) := by decide +kernel
theorem dX9_timesOf_41 : decode cX9_timesOf 41 = .ok (.getfield 87, 3) := by decide +kernel
theorem dX9_timesOf_44 : decode cX9_timesOf 44 = .ok (.iload 5, 2) := by decide +kernel
theorem dX9_timesOf_46 : decode cX9_timesOf 46 = .ok (.iaload, 1) := by decide +kernel
theorem dX9_timesOf_47 : decode cX9_timesOf 47 = .ok (.iload_n 3, 1) := by decide +kernel
theorem dX9_timesOf_48 : decode cX9_timesOf 48 = .ok (.ishr, 1) := by decide +kernel
theorem dX9_timesOf_49 : decode cX9_timesOf 49 = .ok (.iconst 1, 1) := by decide +kernel
theorem dX9_timesOf_50 : decode cX9_timesOf 50 = .ok (.iand, 1) := by decide +kernel
theorem dX9_timesOf_51 : decode cX9_timesOf 51 = .ok (.goto 4, 3) := by decide +kernel
theorem dX9_timesOf_54 : decode cX9_timesOf 54 = .ok (.iconst 0, 1) := by decide +kernel
theorem dX9_timesOf_55 : decode cX9_timesOf 55 = .ok (.iadd, 1) := by decide +kernel
theorem dX9_timesOf_56 : decode cX9_timesOf 56 = .ok (.istore 4, 2) := by decide +kernel
theorem dX9_timesOf_58 : decode cX9_timesOf 58 = .ok (.iinc 5 1, 3) := by decide +kernel
theorem dX9_timesOf_61 : decode cX9_timesOf 61 = .ok (.goto (-42), 3) := by decide +kernel
theorem dX9_timesOf_64 : decode cX9_timesOf 64 = .ok (.iload 4, 2) := by decide +kernel
theorem dX9_timesOf_66 : decode cX9_timesOf 66 = .ok (.iload_n 2, 1) := by decide +kernel
theorem dX9_timesOf_67 : decode cX9_timesOf 67 = .ok (.if_icmp .ge 8, 3) := by decide +kernel
theorem dX9_timesOf_70 : decode cX9_timesOf 70 = .ok (.iload 4, 2) := by decide +kernel
theorem dX9_timesOf_72 : decode cX9_timesOf 72 = .ok (.goto 4, 3) := by decide +kernel
theorem dX9_timesOf_75 : decode cX9_timesOf 75 = .ok (.iload_n 2, 1) := by decide +kernel
theorem dX9_timesOf_76 : decode cX9_timesOf 76 = .ok (.istore_n 2, 1) := by decide +kernel
theorem dX9_timesOf_77 : decode cX9_timesOf 77 = .ok (.iinc 3 1, 3) := by decide +kernel
theorem dX9_timesOf_80 : decode cX9_timesOf 80 = .ok (.goto (-75), 3) := by decide +kernel
theorem dX9_timesOf_83 : decode cX9_timesOf 83 = .ok (.iload_n 2, 1) := by decide +kernel
theorem dX9_timesOf_84 : decode cX9_timesOf 84 = .ok (.ireturn, 1) := by decide +kernel
theorem dX9_bits_0 : decode cX9_bits 0 = .ok (.iconst 0, 1) := by decide +kernel
theorem dX9_bits_1 : decode cX9_bits 1 = .ok (.istore_n 1, 1) := by decide +kernel
theorem dX9_bits_2 : decode cX9_bits 2 = .ok (.iconst 0, 1) := by decide +kernel
theorem dX9_bits_3 : decode cX9_bits 3 = .ok (.istore_n 2, 1) := by decide +kernel
theorem dX9_bits_4 : decode cX9_bits 4 = .ok (.iload_n 2, 1) := by decide +kernel
theorem dX9_bits_5 : decode cX9_bits 5 = .ok (.bipush 10, 2) := by decide +kernel
theorem dX9_bits_7 : decode cX9_bits 7 = .ok (.if_icmp .ge 17, 3) := by decide +kernel
theorem dX9_bits_10 : decode cX9_bits 10 = .ok (.iload_n 1, 1) := by decide +kernel
theorem dX9_bits_11 : decode cX9_bits 11 = .ok (.iload_n 0, 1) := by decide +kernel
theorem dX9_bits_12 : decode cX9_bits 12 = .ok (.iload_n 2, 1) := by decide +kernel
theorem dX9_bits_13 : decode cX9_bits 13 = .ok (.ishr, 1) := by decide +kernel
theorem dX9_bits_14 : decode cX9_bits 14 = .ok (.iconst 1, 1) := by decide +kernel
theorem dX9_bits_15 : decode cX9_bits 15 = .ok (.iand, 1) := by decide +kernel
theorem dX9_bits_16 : decode cX9_bits 16 = .ok (.iadd, 1) := by decide +kernel
theorem dX9_bits_17 : decode cX9_bits 17 = .ok (.istore_n 1, 1) := by decide +kernel
theorem dX9_bits_18 : decode cX9_bits 18 = .ok (.iinc 2 1, 3) := by decide +kernel
theorem dX9_bits_21 : decode cX9_bits 21 = .ok (.goto (-17), 3) := by decide +kernel
theorem dX9_bits_24 : decode cX9_bits 24 = .ok (.iload_n 1, 1) := by decide +kernel
theorem dX9_bits_25 : decode cX9_bits 25 = .ok (.ireturn, 1) := by decide +kernel
theorem dX9_cover_0 : decode cX9_cover 0 = .ok (.aload_n 0, 1) := by decide +kernel
theorem dX9_cover_1 : decode cX9_cover 1 = .ok (.iconst 0, 1) := by decide +kernel
theorem dX9_cover_2 : decode cX9_cover 2 = .ok (.putfield 99, 3) := by decide +kernel
theorem dX9_cover_5 : decode cX9_cover 5 = .ok (.iload_n 1, 1) := by decide +kernel
theorem dX9_cover_6 : decode cX9_cover 6 = .ok (.i2l, 1) := by decide +kernel
theorem dX9_cover_7 : decode cX9_cover 7 = .ok (.lconst 1, 1) := by decide +kernel
theorem dX9_cover_8 : decode cX9_cover 8 = .ok (.ldc2_w 152, 3) := by decide +kernel
theorem dX9_cover_11 : decode cX9_cover 11 = .ok (.invokestatic 104, 3) := by decide +kernel
theorem dX9_cover_14 : decode cX9_cover 14 = .ok (.ifCond .ne 6, 3) := by decide +kernel
theorem dX9_cover_17 : decode cX9_cover 17 = .ok (.bipush (-2), 2) := by decide +kernel
theorem dX9_cover_19 : decode cX9_cover 19 = .ok (.ireturn, 1) := by decide +kernel
theorem dX9_cover_20 : decode cX9_cover 20 = .ok (.aload_n 0, 1) := by decide +kernel
theorem dX9_cover_21 : decode cX9_cover 21 = .ok (.invokevirtual 154, 3) := by decide +kernel
theorem dX9_cover_24 : decode cX9_cover 24 = .ok (.bipush (-9), 2) := by decide +kernel
theorem dX9_cover_26 : decode cX9_cover 26 = .ok (.istore_n 2, 1) := by decide +kernel
theorem dX9_cover_27 : decode cX9_cover 27 = .ok (.iconst 0, 1) := by decide +kernel
theorem dX9_cover_28 : decode cX9_cover 28 = .ok (.istore_n 3, 1) := by decide +kernel
theorem dX9_cover_29 : decode cX9_cover 29 = .ok (.iload_n 3, 1) := by decide +kernel
theorem dX9_cover_30 : decode cX9_cover 30 = .ok (.iconst 1, 1) := by decide +kernel
theorem dX9_cover_31 : decode cX9_cover 31 = .ok (.aload_n 0, 1) := by decide +kernel
theorem dX9_cover_32 : decode cX9_cover 32 = .ok (.getfield 111, 3) := by decide +kernel
theorem dX9_cover_35 : decode cX9_cover 35 = .ok (.ishl, 1) := by decide +kernel
theorem dX9_cover_36 : decode cX9_cover 36 = .ok (.if_icmp .ge 41, 3) := by decide +kernel
theorem dX9_cover_39 : decode cX9_cover 39 = .ok (.iload_n 2, 1) := by decide +kernel
theorem dX9_cover_40 : decode cX9_cover 40 = .ok (.bipush (-9), 2) := by decide +kernel
theorem dX9_cover_42 : decode cX9_cover 42 = .ok (.if_icmp .eq 14, 3) := by decide +kernel
theorem dX9_cover_45 : decode cX9_cover 45 = .ok (.iload_n 3, 1) := by decide +kernel
theorem dX9_cover_46 : decode cX9_cover 46 = .ok (.invokestatic 157, 3) := by decide +kernel
theorem dX9_cover_49 : decode cX9_cover 49 = .ok (.iload_n 2, 1) := by decide +kernel
theorem dX9_cover_50 : decode cX9_cover 50 = .ok (.invokestatic 157, 3) := by decide +kernel
theorem dX9_cover_53 : decode cX9_cover 53 = .ok (.if_icmp .ge 16, 3) := by decide +kernel
theorem dX9_cover_56 : decode cX9_cover 56 = .ok (.aload_n 0, 1) := by decide +kernel
theorem dX9_cover_57 : decode cX9_cover 57 = .ok (.iload_n 3, 1) := by decide +kernel
theorem dX9_cover_58 : decode cX9_cover 58 = .ok (.invokevirtual 160, 3) := by decide +kernel
theorem dX9_cover_61 : decode cX9_cover 61 = .ok (.iload_n 1, 1) := by decide +kernel
theorem dX9_cover_62 : decode cX9_cover 62 = .ok (.if_icmp .lt 7, 3) := by decide +kernel
theorem dX9_cover_65 : decode cX9_cover 65 = .ok (.iload_n 3, 1) := by decide +kernel
theorem dX9_cover_66 : decode cX9_cover 66 = .ok (.goto 4, 3) := by decide +kernel
theorem dX9_cover_69 : decode cX9_cover 69 = .ok (.iload_n 2, 1) := by decide +kernel
theorem dX9_cover_70 : decode cX9_cover 70 = .ok (.istore_n 2, 1) := by decide +kernel
theorem dX9_cover_71 : decode cX9_cover 71 = .ok (.iinc 3 1, 3) := by decide +kernel
theorem dX9_cover_74 : decode cX9_cover 74 = .ok (.goto (-45), 3) := by decide +kernel
theorem dX9_cover_77 : decode cX9_cover 77 = .ok (.iload_n 2, 1) := by decide +kernel
theorem dX9_cover_78 : decode cX9_cover 78 = .ok (.ireturn, 1) := by decide +kernel
theorem dX9_covers_0 : decode cX9_covers 0 = .ok (.aload_n 0, 1) := by decide +kernel
theorem dX9_covers_1 : decode cX9_covers 1 = .ok (.iconst 0, 1) := by decide +kernel
theorem dX9_covers_2 : decode cX9_covers 2 = .ok (.putfield 99, 3) := by decide +kernel
theorem dX9_covers_5 : decode cX9_covers 5 = .ok (.aload_n 0, 1) := by decide +kernel
theorem dX9_covers_6 : decode cX9_covers 6 = .ok (.iload_n 1, 1) := by decide +kernel
theorem dX9_covers_7 : decode cX9_covers 7 = .ok (.invokevirtual 163, 3) := by decide +kernel
theorem dX9_covers_10 : decode cX9_covers 10 = .ok (.ifCond .eq 5, 3) := by decide +kernel
theorem dX9_covers_13 : decode cX9_covers 13 = .ok (.iconst (-1), 1) := by decide +kernel
theorem dX9_covers_14 : decode cX9_covers 14 = .ok (.ireturn, 1) := by decide +kernel
theorem dX9_covers_15 : decode cX9_covers 15 = .ok (.iload_n 2, 1) := by decide +kernel
theorem dX9_covers_16 : decode cX9_covers 16 = .ok (.i2l, 1) := by decide +kernel
theorem dX9_covers_17 : decode cX9_covers 17 = .ok (.lconst 1, 1) := by decide +kernel
theorem dX9_covers_18 : decode cX9_covers 18 = .ok (.ldc2_w 152, 3) := by decide +kernel
theorem dX9_covers_21 : decode cX9_covers 21 = .ok (.invokestatic 104, 3) := by decide +kernel
theorem dX9_covers_24 : decode cX9_covers 24 = .ok (.ifCond .ne 6, 3) := by decide +kernel
theorem dX9_covers_27 : decode cX9_covers 27 = .ok (.bipush (-2), 2) := by decide +kernel
theorem dX9_covers_29 : decode cX9_covers 29 = .ok (.ireturn, 1) := by decide +kernel
theorem dX9_covers_30 : decode cX9_covers 30 = .ok (.aload_n 0, 1) := by decide +kernel
theorem dX9_covers_31 : decode cX9_covers 31 = .ok (.invokevirtual 154, 3) := by decide +kernel
theorem dX9_covers_34 : decode cX9_covers 34 = .ok (.aload_n 0, 1) := by decide +kernel
theorem dX9_covers_35 : decode cX9_covers 35 = .ok (.iload_n 1, 1) := by decide +kernel
theorem dX9_covers_36 : decode cX9_covers 36 = .ok (.invokevirtual 160, 3) := by decide +kernel
theorem dX9_covers_39 : decode cX9_covers 39 = .ok (.iload_n 2, 1) := by decide +kernel
theorem dX9_covers_40 : decode cX9_covers 40 = .ok (.if_icmp .lt 7, 3) := by decide +kernel
theorem dX9_covers_43 : decode cX9_covers 43 = .ok (.iconst 1, 1) := by decide +kernel
theorem dX9_covers_44 : decode cX9_covers 44 = .ok (.goto 4, 3) := by decide +kernel
theorem dX9_covers_47 : decode cX9_covers 47 = .ok (.iconst 0, 1) := by decide +kernel
theorem dX9_covers_48 : decode cX9_covers 48 = .ok (.ireturn, 1) := by decide +kernel
theorem dX9_times_0 : decode cX9_times 0 = .ok (.aload_n 0, 1) := by decide +kernel
theorem dX9_times_1 : decode cX9_times 1 = .ok (.iconst 0, 1) := by decide +kernel
theorem dX9_times_2 : decode cX9_times 2 = .ok (.putfield 99, 3) := by decide +kernel
theorem dX9_times_5 : decode cX9_times 5 = .ok (.aload_n 0, 1) := by decide +kernel
theorem dX9_times_6 : decode cX9_times 6 = .ok (.iload_n 1, 1) := by decide +kernel
theorem dX9_times_7 : decode cX9_times 7 = .ok (.invokevirtual 163, 3) := by decide +kernel
theorem dX9_times_10 : decode cX9_times 10 = .ok (.ifCond .eq 5, 3) := by decide +kernel
theorem dX9_times_13 : decode cX9_times 13 = .ok (.iconst (-1), 1) := by decide +kernel
theorem dX9_times_14 : decode cX9_times 14 = .ok (.ireturn, 1) := by decide +kernel
theorem dX9_times_15 : decode cX9_times 15 = .ok (.aload_n 0, 1) := by decide +kernel
theorem dX9_times_16 : decode cX9_times 16 = .ok (.invokevirtual 154, 3) := by decide +kernel
theorem dX9_times_19 : decode cX9_times 19 = .ok (.aload_n 0, 1) := by decide +kernel
theorem dX9_times_20 : decode cX9_times 20 = .ok (.getfield 108, 3) := by decide +kernel
theorem dX9_times_23 : decode cX9_times 23 = .ok (.ifCond .ne 8, 3) := by decide +kernel
theorem dX9_times_26 : decode cX9_times 26 = .ok (.bipush (-9), 2) := by decide +kernel
theorem dX9_times_28 : decode cX9_times 28 = .ok (.goto 8, 3) := by decide +kernel
theorem dX9_times_31 : decode cX9_times 31 = .ok (.aload_n 0, 1) := by decide +kernel
theorem dX9_times_32 : decode cX9_times 32 = .ok (.iload_n 1, 1) := by decide +kernel
theorem dX9_times_33 : decode cX9_times 33 = .ok (.invokevirtual 160, 3) := by decide +kernel
theorem dX9_times_36 : decode cX9_times 36 = .ok (.ireturn, 1) := by decide +kernel
theorem dX9_isInside_0 : decode cX9_isInside 0 = .ok (.iload_n 2, 1) := by decide +kernel
theorem dX9_isInside_1 : decode cX9_isInside 1 = .ok (.iload 4, 2) := by decide +kernel
theorem dX9_isInside_3 : decode cX9_isInside 3 = .ok (.if_icmp .ne 67, 3) := by decide +kernel
theorem dX9_isInside_6 : decode cX9_isInside 6 = .ok (.iload_n 3, 1) := by decide +kernel
theorem dX9_isInside_7 : decode cX9_isInside 7 = .ok (.iload 5, 2) := by decide +kernel
theorem dX9_isInside_9 : decode cX9_isInside 9 = .ok (.if_icmp .ne 61, 3) := by decide +kernel
theorem dX9_isInside_12 : decode cX9_isInside 12 = .ok (.iload_n 2, 1) := by decide +kernel
theorem dX9_isInside_13 : decode cX9_isInside 13 = .ok (.i2l, 1) := by decide +kernel
theorem dX9_isInside_14 : decode cX9_isInside 14 = .ok (.aload_n 0, 1) := by decide +kernel
theorem dX9_isInside_15 : decode cX9_isInside 15 = .ok (.getfield 35, 3) := by decide +kernel
theorem dX9_isInside_18 : decode cX9_isInside 18 = .ok (.iload_n 1, 1) := by decide +kernel
theorem dX9_isInside_19 : decode cX9_isInside 19 = .ok (.iaload, 1) := by decide +kernel
theorem dX9_isInside_20 : decode cX9_isInside 20 = .ok (.iconst 1, 1) := by decide +kernel
theorem dX9_isInside_21 : decode cX9_isInside 21 = .ok (.iadd, 1) := by decide +kernel
theorem dX9_isInside_22 : decode cX9_isInside 22 = .ok (.i2l, 1) := by decide +kernel
theorem dX9_isInside_23 : decode cX9_isInside 23 = .ok (.aload_n 0, 1) := by decide +kernel
theorem dX9_isInside_24 : decode cX9_isInside 24 = .ok (.getfield 41, 3) := by decide +kernel
theorem dX9_isInside_27 : decode cX9_isInside 27 = .ok (.iload_n 1, 1) := by decide +kernel
theorem dX9_isInside_28 : decode cX9_isInside 28 = .ok (.iaload, 1) := by decide +kernel
theorem dX9_isInside_29 : decode cX9_isInside 29 = .ok (.iconst 1, 1) := by decide +kernel
theorem dX9_isInside_30 : decode cX9_isInside 30 = .ok (.isub, 1) := by decide +kernel
theorem dX9_isInside_31 : decode cX9_isInside 31 = .ok (.i2l, 1) := by decide +kernel
theorem dX9_isInside_32 : decode cX9_isInside 32 = .ok (.invokestatic 104, 3) := by decide +kernel
theorem dX9_isInside_35 : decode cX9_isInside 35 = .ok (.ifCond .eq 33, 3) := by decide +kernel
theorem dX9_isInside_38 : decode cX9_isInside 38 = .ok (.iload_n 3, 1) := by decide +kernel
theorem dX9_isInside_39 : decode cX9_isInside 39 = .ok (.i2l, 1) := by decide +kernel
theorem dX9_isInside_40 : decode cX9_isInside 40 = .ok (.aload_n 0, 1) := by decide +kernel
theorem dX9_isInside_41 : decode cX9_isInside 41 = .ok (.getfield 38, 3) := by decide +kernel
theorem dX9_isInside_44 : decode cX9_isInside 44 = .ok (.iload_n 1, 1) := by decide +kernel
theorem dX9_isInside_45 : decode cX9_isInside 45 = .ok (.iaload, 1) := by decide +kernel
theorem dX9_isInside_46 : decode cX9_isInside 46 = .ok (.iconst 1, 1) := by decide +kernel
theorem dX9_isInside_47 : decode cX9_isInside 47 = .ok (.iadd, 1) := by decide +kernel
theorem dX9_isInside_48 : decode cX9_isInside 48 = .ok (.i2l, 1) := by decide +kernel
theorem dX9_isInside_49 : decode cX9_isInside 49 = .ok (.aload_n 0, 1) := by decide +kernel
theorem dX9_isInside_50 : decode cX9_isInside 50 = .ok (.getfield 44, 3) := by decide +kernel
theorem dX9_isInside_53 : decode cX9_isInside 53 = .ok (.iload_n 1, 1) := by decide +kernel
theorem dX9_isInside_54 : decode cX9_isInside 54 = .ok (.iaload, 1) := by decide +kernel
theorem dX9_isInside_55 : decode cX9_isInside 55 = .ok (.iconst 1, 1) := by decide +kernel
theorem dX9_isInside_56 : decode cX9_isInside 56 = .ok (.isub, 1) := by decide +kernel
theorem dX9_isInside_57 : decode cX9_isInside 57 = .ok (.i2l, 1) := by decide +kernel
theorem dX9_isInside_58 : decode cX9_isInside 58 = .ok (.invokestatic 104, 3) := by decide +kernel
theorem dX9_isInside_61 : decode cX9_isInside 61 = .ok (.ifCond .eq 7, 3) := by decide +kernel
theorem dX9_isInside_64 : decode cX9_isInside 64 = .ok (.iconst 1, 1) := by decide +kernel
theorem dX9_isInside_65 : decode cX9_isInside 65 = .ok (.goto 4, 3) := by decide +kernel
theorem dX9_isInside_68 : decode cX9_isInside 68 = .ok (.iconst 0, 1) := by decide +kernel
theorem dX9_isInside_69 : decode cX9_isInside 69 = .ok (.ireturn, 1) := by decide +kernel
theorem dX9_isInside_70 : decode cX9_isInside 70 = .ok (.lconst 0, 1) := by decide +kernel
theorem dX9_isInside_71 : decode cX9_isInside 71 = .ok (.lstore 6, 2) := by decide +kernel
theorem dX9_isInside_73 : decode cX9_isInside 73 = .ok (.lconst 1, 1) := by decide +kernel
theorem dX9_isInside_74 : decode cX9_isInside 74 = .ok (.lstore 8, 2) := by decide +kernel
theorem dX9_isInside_76 : decode cX9_isInside 76 = .ok (.lconst 1, 1) := by decide +kernel
theorem dX9_isInside_77 : decode cX9_isInside 77 = .ok (.lstore 10, 2) := by decide +kernel
theorem dX9_isInside_79 : decode cX9_isInside 79 = .ok (.lconst 1, 1) := by decide +kernel
theorem dX9_isInside_80 : decode cX9_isInside 80 = .ok (.lstore 12, 2) := by decide +kernel
theorem dX9_isInside_82 : decode cX9_isInside 82 = .ok (.iconst 0, 1) := by decide +kernel
theorem dX9_isInside_83 : decode cX9_isInside 83 = .ok (.istore 14, 2) := by decide +kernel
theorem dX9_isInside_85 : decode cX9_isInside 85 = .ok (.iload 14, 2) := by decide +kernel
theorem dX9_isInside_87 : decode cX9_isInside 87 = .ok (.iconst 2, 1) := by decide +kernel
theorem dX9_isInside_88 : decode cX9_isInside 88 = .ok (.if_icmp .ge 209, 3) := by decide +kernel
theorem dX9_isInside_91 : decode cX9_isInside 91 = .ok (.iload 14, 2) := by decide +kernel
theorem dX9_isInside_93 : decode cX9_isInside 93 = .ok (.ifCond .ne 7, 3) := by decide +kernel
theorem dX9_isInside_96 : decode cX9_isInside 96 = .ok (.iload_n 2, 1) := by decide +kernel
theorem dX9_isInside_97 : decode cX9_isInside 97 = .ok (.goto 4, 3) := by decide +kernel
theorem dX9_isInside_100 : decode cX9_isInside 100 = .ok (.iload_n 3, 1) := by decide +kernel
theorem dX9_isInside_101 : decode cX9_isInside 101 = .ok (.istore 15, 2) := by decide +kernel
theorem dX9_isInside_103 : decode cX9_isInside 103 = .ok (.iload 14, 2) := by decide +kernel
theorem dX9_isInside_105 : decode cX9_isInside 105 = .ok (.ifCond .ne 10, 3) := by decide +kernel
theorem dX9_isInside_108 : decode cX9_isInside 108 = .ok (.iload 4, 2) := by decide +kernel
theorem dX9_isInside_110 : decode cX9_isInside 110 = .ok (.iload_n 2, 1) := by decide +kernel
theorem dX9_isInside_111 : decode cX9_isInside 111 = .ok (.isub, 1) := by decide +kernel
theorem dX9_isInside_112 : decode cX9_isInside 112 = .ok (.goto 7, 3) := by decide +kernel
theorem dX9_isInside_115 : decode cX9_isInside 115 = .ok (.iload 5, 2) := by decide +kernel
theorem dX9_isInside_117 : decode cX9_isInside 117 = .ok (.iload_n 3, 1) := by decide +kernel
theorem dX9_isInside_118 : decode cX9_isInside 118 = .ok (.isub, 1) := by decide +kernel
theorem dX9_isInside_119 : decode cX9_isInside 119 = .ok (.istore 16, 2) := by decide +kernel
theorem dX9_isInside_121 : decode cX9_isInside 121 = .ok (.iload 14, 2) := by decide +kernel
theorem dX9_isInside_123 : decode cX9_isInside 123 = .ok (.ifCond .ne 12, 3) := by decide +kernel
theorem dX9_isInside_126 : decode cX9_isInside 126 = .ok (.aload_n 0, 1) := by decide +kernel
theorem dX9_isInside_127 : decode cX9_isInside 127 = .ok (.getfield 35, 3) := by decide +kernel
theorem dX9_isInside_130 : decode cX9_isInside 130 = .ok (.iload_n 1, 1) := by decide +kernel
theorem dX9_isInside_131 : decode cX9_isInside 131 = .ok (.iaload, 1) := by decide +kernel
theorem dX9_isInside_132 : decode cX9_isInside 132 = .ok (.goto 9, 3) := by decide +kernel
theorem dX9_isInside_135 : decode cX9_isInside 135 = .ok (.aload_n 0, 1) := by decide +kernel
theorem dX9_isInside_136 : decode cX9_isInside 136 = .ok (.getfield 38, 3) := by decide +kernel
theorem dX9_isInside_139 : decode cX9_isInside 139 = .ok (.iload_n 1, 1) := by decide +kernel
theorem dX9_isInside_140 : decode cX9_isInside 140 = .ok (.iaload, 1) := by decide +kernel
theorem dX9_isInside_141 : decode cX9_isInside 141 = .ok (.istore 17, 2) := by decide +kernel
theorem dX9_isInside_143 : decode cX9_isInside 143 = .ok (.iload 14, 2) := by decide +kernel
theorem dX9_isInside_145 : decode cX9_isInside 145 = .ok (.ifCond .ne 12, 3) := by decide +kernel
theorem dX9_isInside_148 : decode cX9_isInside 148 = .ok (.aload_n 0, 1) := by decide +kernel
theorem dX9_isInside_149 : decode cX9_isInside 149 = .ok (.getfield 41, 3) := by decide +kernel
theorem dX9_isInside_152 : decode cX9_isInside 152 = .ok (.iload_n 1, 1) := by decide +kernel
theorem dX9_isInside_153 : decode cX9_isInside 153 = .ok (.iaload, 1) := by decide +kernel
theorem dX9_isInside_154 : decode cX9_isInside 154 = .ok (.goto 9, 3) := by decide +kernel
theorem dX9_isInside_157 : decode cX9_isInside 157 = .ok (.aload_n 0, 1) := by decide +kernel
theorem dX9_isInside_158 : decode cX9_isInside 158 = .ok (.getfield 44, 3) := by decide +kernel
theorem dX9_isInside_161 : decode cX9_isInside 161 = .ok (.iload_n 1, 1) := by decide +kernel
theorem dX9_isInside_162 : decode cX9_isInside 162 = .ok (.iaload, 1) := by decide +kernel
theorem dX9_isInside_163 : decode cX9_isInside 163 = .ok (.istore 18, 2) := by decide +kernel
theorem dX9_isInside_165 : decode cX9_isInside 165 = .ok (.iload 16, 2) := by decide +kernel
theorem dX9_isInside_167 : decode cX9_isInside 167 = .ok (.ifCond .ne 19, 3) := by decide +kernel
theorem dX9_isInside_170 : decode cX9_isInside 170 = .ok (.iload 15, 2) := by decide +kernel
theorem dX9_isInside_172 : decode cX9_isInside 172 = .ok (.iload 17, 2) := by decide +kernel
theorem dX9_isInside_174 : decode cX9_isInside 174 = .ok (.if_icmp .le 10, 3) := by decide +kernel
theorem dX9_isInside_177 : decode cX9_isInside 177 = .ok (.iload 15, 2) := by decide +kernel
theorem dX9_isInside_179 : decode cX9_isInside 179 = .ok (.iload 18, 2) := by decide +kernel
theorem dX9_isInside_181 : decode cX9_isInside 181 = .ok (.if_icmp .lt 110, 3) := by decide +kernel
theorem dX9_isInside_184 : decode cX9_isInside 184 = .ok (.iconst 0, 1) := by decide +kernel
theorem dX9_isInside_185 : decode cX9_isInside 185 = .ok (.ireturn, 1) := by decide +kernel
theorem dX9_isInside_186 : decode cX9_isInside 186 = .ok (.iload 16, 2) := by decide +kernel
theorem dX9_isInside_188 : decode cX9_isInside 188 = .ok (.ifCond .le 9, 3) := by decide +kernel
theorem dX9_isInside_191 : decode cX9_isInside 191 = .ok (.iload 16, 2) := by decide +kernel
theorem dX9_isInside_193 : decode cX9_isInside 193 = .ok (.i2l, 1) := by decide +kernel
theorem dX9_isInside_194 : decode cX9_isInside 194 = .ok (.goto 7, 3) := by decide +kernel
theorem dX9_isInside_197 : decode cX9_isInside 197 = .ok (.iload 16, 2) := by decide +kernel
theorem dX9_isInside_199 : decode cX9_isInside 199 = .ok (.ineg, 1) := by decide +kernel
theorem dX9_isInside_200 : decode cX9_isInside 200 = .ok (.i2l, 1) := by decide +kernel
theorem dX9_isInside_201 : decode cX9_isInside 201 = .ok (.lstore 19, 2) := by decide +kernel
theorem dX9_isInside_203 : decode cX9_isInside 203 = .ok (.iload 16, 2) := by decide +kernel
theorem dX9_isInside_205 : decode cX9_isInside 205 = .ok (.ifCond .le 12, 3) := by decide +kernel
theorem dX9_isInside_208 : decode cX9_isInside 208 = .ok (.iload 17, 2) := by decide +kernel
theorem dX9_isInside_210 : decode cX9_isInside 210 = .ok (.iload 15, 2) := by decide +kernel
theorem dX9_isInside_212 : decode cX9_isInside 212 = .ok (.isub, 1) := by decide +kernel
theorem dX9_isInside_213 : decode cX9_isInside 213 = .ok (.i2l, 1) := by decide +kernel
theorem dX9_isInside_214 : decode cX9_isInside 214 = .ok (.goto 9, 3) := by decide +kernel
theorem dX9_isInside_217 : decode cX9_isInside 217 = .ok (.iload 15, 2) := by decide +kernel
theorem dX9_isInside_219 : decode cX9_isInside 219 = .ok (.iload 18, 2) := by decide +kernel
theorem dX9_isInside_221 : decode cX9_isInside 221 = .ok (.isub, 1) := by decide +kernel
theorem dX9_isInside_222 : decode cX9_isInside 222 = .ok (.i2l, 1) := by decide +kernel
theorem dX9_isInside_223 : decode cX9_isInside 223 = .ok (.lstore 21, 2) := by decide +kernel
theorem dX9_isInside_225 : decode cX9_isInside 225 = .ok (.iload 16, 2) := by decide +kernel
theorem dX9_isInside_227 : decode cX9_isInside 227 = .ok (.ifCond .le 12, 3) := by decide +kernel
theorem dX9_isInside_230 : decode cX9_isInside 230 = .ok (.iload 18, 2) := by decide +kernel
theorem dX9_isInside_232 : decode cX9_isInside 232 = .ok (.iload 15, 2) := by decide +kernel
theorem dX9_isInside_234 : decode cX9_isInside 234 = .ok (.isub, 1) := by decide +kernel
theorem dX9_isInside_235 : decode cX9_isInside 235 = .ok (.i2l, 1) := by decide +kernel
theorem dX9_isInside_236 : decode cX9_isInside 236 = .ok (.goto 9, 3) := by decide +kernel
theorem dX9_isInside_239 : decode cX9_isInside 239 = .ok (.iload 15, 2) := by decide +kernel
theorem dX9_isInside_241 : decode cX9_isInside 241 = .ok (.iload 17, 2) := by decide +kernel
theorem dX9_isInside_243 : decode cX9_isInside 243 = .ok (.isub, 1) := by decide +kernel
theorem dX9_isInside_244 : decode cX9_isInside 244 = .ok (.i2l, 1) := by decide +kernel
theorem dX9_isInside_245 : decode cX9_isInside 245 = .ok (.lstore 23, 2) := by decide +kernel
theorem dX9_isInside_247 : decode cX9_isInside 247 = .ok (.lload 21, 2) := by decide +kernel
theorem dX9_isInside_249 : decode cX9_isInside 249 = .ok (.lload 8, 2) := by decide +kernel
theorem dX9_isInside_251 : decode cX9_isInside 251 = .ok (.lmul, 1) := by decide +kernel
theorem dX9_isInside_252 : decode cX9_isInside 252 = .ok (.lload 6, 2) := by decide +kernel
theorem dX9_isInside_254 : decode cX9_isInside 254 = .ok (.lload 19, 2) := by decide +kernel
theorem dX9_isInside_256 : decode cX9_isInside 256 = .ok (.lmul, 1) := by decide +kernel
theorem dX9_isInside_257 : decode cX9_isInside 257 = .ok (.lcmp, 1) := by decide +kernel
theorem dX9_isInside_258 : decode cX9_isInside 258 = .ok (.ifCond .le 11, 3) := by decide +kernel
theorem dX9_isInside_261 : decode cX9_isInside 261 = .ok (.lload 21, 2) := by decide +kernel
theorem dX9_isInside_263 : decode cX9_isInside 263 = .ok (.lstore 6, 2) := by decide +kernel
theorem dX9_isInside_265 : decode cX9_isInside 265 = .ok (.lload 19, 2) := by decide +kernel
theorem dX9_isInside_267 : decode cX9_isInside 267 = .ok (.lstore 8, 2) := by decide +kernel
theorem dX9_isInside_269 : decode cX9_isInside 269 = .ok (.lload 23, 2) := by decide +kernel
theorem dX9_isInside_271 : decode cX9_isInside 271 = .ok (.lload 12, 2) := by decide +kernel
theorem dX9_isInside_273 : decode cX9_isInside 273 = .ok (.lmul, 1) := by decide +kernel
theorem dX9_isInside_274 : decode cX9_isInside 274 = .ok (.lload 10, 2) := by decide +kernel
theorem dX9_isInside_276 : decode cX9_isInside 276 = .ok (.lload 19, 2) := by decide +kernel
theorem dX9_isInside_278 : decode cX9_isInside 278 = .ok (.lmul, 1) := by decide +kernel
theorem dX9_isInside_279 : decode cX9_isInside 279 = .ok (.lcmp, 1) := by decide +kernel
theorem dX9_isInside_280 : decode cX9_isInside 280 = .ok (.ifCond .ge 11, 3) := by decide +kernel
theorem dX9_isInside_283 : decode cX9_isInside 283 = .ok (.lload 23, 2) := by decide +kernel
theorem dX9_isInside_285 : decode cX9_isInside 285 = .ok (.lstore 10, 2) := by decide +kernel
theorem dX9_isInside_287 : decode cX9_isInside 287 = .ok (.lload 19, 2) := by decide +kernel
theorem dX9_isInside_289 : decode cX9_isInside 289 = .ok (.lstore 12, 2) := by decide +kernel
theorem dX9_isInside_291 : decode cX9_isInside 291 = .ok (.iinc 14 1, 3) := by decide +kernel
theorem dX9_isInside_294 : decode cX9_isInside 294 = .ok (.goto (-209), 3) := by decide +kernel
theorem dX9_isInside_297 : decode cX9_isInside 297 = .ok (.lload 6, 2) := by decide +kernel
theorem dX9_isInside_299 : decode cX9_isInside 299 = .ok (.lload 12, 2) := by decide +kernel
theorem dX9_isInside_301 : decode cX9_isInside 301 = .ok (.lmul, 1) := by decide +kernel
theorem dX9_isInside_302 : decode cX9_isInside 302 = .ok (.lload 10, 2) := by decide +kernel
theorem dX9_isInside_304 : decode cX9_isInside 304 = .ok (.lload 8, 2) := by decide +kernel
theorem dX9_isInside_306 : decode cX9_isInside 306 = .ok (.lmul, 1) := by decide +kernel
theorem dX9_isInside_307 : decode cX9_isInside 307 = .ok (.lcmp, 1) := by decide +kernel
theorem dX9_isInside_308 : decode cX9_isInside 308 = .ok (.ifCond .ge 7, 3) := by decide +kernel
theorem dX9_isInside_311 : decode cX9_isInside 311 = .ok (.iconst 1, 1) := by decide +kernel
theorem dX9_isInside_312 : decode cX9_isInside 312 = .ok (.goto 4, 3) := by decide +kernel
theorem dX9_isInside_315 : decode cX9_isInside 315 = .ok (.iconst 0, 1) := by decide +kernel
theorem dX9_isInside_316 : decode cX9_isInside 316 = .ok (.ireturn, 1) := by decide +kernel
theorem dX9_legOf_0 : decode cX9_legOf 0 = .ok (.iconst 0, 1) := by decide +kernel
theorem dX9_legOf_1 : decode cX9_legOf 1 = .ok (.istore 5, 2) := by decide +kernel
theorem dX9_legOf_3 : decode cX9_legOf 3 = .ok (.iload 5, 2) := by decide +kernel
theorem dX9_legOf_5 : decode cX9_legOf 5 = .ok (.aload_n 0, 1) := by decide +kernel
theorem dX9_legOf_6 : decode cX9_legOf 6 = .ok (.getfield 166, 3) := by decide +kernel
theorem dX9_legOf_9 : decode cX9_legOf 9 = .ok (.if_icmp .ge 26, 3) := by decide +kernel
theorem dX9_legOf_12 : decode cX9_legOf 12 = .ok (.aload_n 0, 1) := by decide +kernel
theorem dX9_legOf_13 : decode cX9_legOf 13 = .ok (.iload 5, 2) := by decide +kernel
theorem dX9_legOf_15 : decode cX9_legOf 15 = .ok (.iload_n 1, 1) := by decide +kernel
theorem dX9_legOf_16 : decode cX9_legOf 16 = .ok (.iload_n 2, 1) := by decide +kernel
theorem dX9_legOf_17 : decode cX9_legOf 17 = .ok (.iload_n 3, 1) := by decide +kernel
theorem dX9_legOf_18 : decode cX9_legOf 18 = .ok (.iload 4, 2) := by decide +kernel
theorem dX9_legOf_20 : decode cX9_legOf 20 = .ok (.invokevirtual 169, 3) := by decide +kernel
theorem dX9_legOf_23 : decode cX9_legOf 23 = .ok (.ifCond .eq 6, 3) := by decide +kernel
theorem dX9_legOf_26 : decode cX9_legOf 26 = .ok (.ldc 151, 2) := by decide +kernel
theorem dX9_legOf_28 : decode cX9_legOf 28 = .ok (.ireturn, 1) := by decide +kernel
theorem dX9_legOf_29 : decode cX9_legOf 29 = .ok (.iinc 5 1, 3) := by decide +kernel
theorem dX9_legOf_32 : decode cX9_legOf 32 = .ok (.goto (-29), 3) := by decide +kernel
theorem dX9_legOf_35 : decode cX9_legOf 35 = .ok (.iload_n 3, 1) := by decide +kernel
theorem dX9_legOf_36 : decode cX9_legOf 36 = .ok (.iload_n 1, 1) := by decide +kernel
theorem dX9_legOf_37 : decode cX9_legOf 37 = .ok (.isub, 1) := by decide +kernel
theorem dX9_legOf_38 : decode cX9_legOf 38 = .ok (.istore 5, 2) := by decide +kernel
theorem dX9_legOf_40 : decode cX9_legOf 40 = .ok (.iload 4, 2) := by decide +kernel
theorem dX9_legOf_42 : decode cX9_legOf 42 = .ok (.iload_n 2, 1) := by decide +kernel
theorem dX9_legOf_43 : decode cX9_legOf 43 = .ok (.isub, 1) := by decide +kernel
theorem dX9_legOf_44 : decode cX9_legOf 44 = .ok (.istore 6, 2) := by decide +kernel
theorem dX9_legOf_46 : decode cX9_legOf 46 = .ok (.bipush 100, 2) := by decide +kernel
theorem dX9_legOf_48 : decode cX9_legOf 48 = .ok (.iload 5, 2) := by decide +kernel
theorem dX9_legOf_50 : decode cX9_legOf 50 = .ok (.iload 5, 2) := by decide +kernel
theorem dX9_legOf_52 : decode cX9_legOf 52 = .ok (.imul, 1) := by decide +kernel
theorem dX9_legOf_53 : decode cX9_legOf 53 = .ok (.iload 6, 2) := by decide +kernel
theorem dX9_legOf_55 : decode cX9_legOf 55 = .ok (.iload 6, 2) := by decide +kernel
theorem dX9_legOf_57 : decode cX9_legOf 57 = .ok (.imul, 1) := by decide +kernel
theorem dX9_legOf_58 : decode cX9_legOf 58 = .ok (.iadd, 1) := by decide +kernel
theorem dX9_legOf_59 : decode cX9_legOf 59 = .ok (.imul, 1) := by decide +kernel
theorem dX9_legOf_60 : decode cX9_legOf 60 = .ok (.istore 7, 2) := by decide +kernel
theorem dX9_legOf_62 : decode cX9_legOf 62 = .ok (.iconst 0, 1) := by decide +kernel
theorem dX9_legOf_63 : decode cX9_legOf 63 = .ok (.istore 8, 2) := by decide +kernel
theorem dX9_legOf_65 : decode cX9_legOf 65 = .ok (.iload 8, 2) := by decide +kernel
theorem dX9_legOf_67 : decode cX9_legOf 67 = .ok (.iload 8, 2) := by decide +kernel
theorem dX9_legOf_69 : decode cX9_legOf 69 = .ok (.imul, 1) := by decide +kernel
theorem dX9_legOf_70 : decode cX9_legOf 70 = .ok (.iload 7, 2) := by decide +kernel
theorem dX9_legOf_72 : decode cX9_legOf 72 = .ok (.if_icmp .ge 9, 3) := by decide +kernel
theorem dX9_legOf_75 : decode cX9_legOf 75 = .ok (.iinc 8 1, 3) := by decide +kernel
theorem dX9_legOf_78 : decode cX9_legOf 78 = .ok (.goto (-13), 3) := by decide +kernel
theorem dX9_legOf_81 : decode cX9_legOf 81 = .ok (.aload_n 0, 1) := by decide +kernel
theorem dX9_legOf_82 : decode cX9_legOf 82 = .ok (.getfield 173, 3) := by decide +kernel
theorem dX9_legOf_85 : decode cX9_legOf 85 = .ok (.iload 5, 2) := by decide +kernel
theorem dX9_legOf_87 : decode cX9_legOf 87 = .ok (.imul, 1) := by decide +kernel
theorem dX9_legOf_88 : decode cX9_legOf 88 = .ok (.aload_n 0, 1) := by decide +kernel
theorem dX9_legOf_89 : decode cX9_legOf 89 = .ok (.getfield 176, 3) := by decide +kernel
theorem dX9_legOf_92 : decode cX9_legOf 92 = .ok (.iload 6, 2) := by decide +kernel
theorem dX9_legOf_94 : decode cX9_legOf 94 = .ok (.imul, 1) := by decide +kernel
theorem dX9_legOf_95 : decode cX9_legOf 95 = .ok (.iadd, 1) := by decide +kernel
theorem dX9_legOf_96 : decode cX9_legOf 96 = .ok (.istore 9, 2) := by decide +kernel
theorem dX9_legOf_98 : decode cX9_legOf 98 = .ok (.iload 8, 2) := by decide +kernel
theorem dX9_legOf_100 : decode cX9_legOf 100 = .ok (.iload 9, 2) := by decide +kernel
theorem dX9_legOf_102 : decode cX9_legOf 102 = .ok (.ifCond .ge 12, 3) := by decide +kernel
theorem dX9_legOf_105 : decode cX9_legOf 105 = .ok (.iload 9, 2) := by decide +kernel
theorem dX9_legOf_107 : decode cX9_legOf 107 = .ok (.ineg, 1) := by decide +kernel
theorem dX9_legOf_108 : decode cX9_legOf 108 = .ok (.bipush 10, 2) := by decide +kernel
theorem dX9_legOf_110 : decode cX9_legOf 110 = .ok (.idiv, 1) := by decide +kernel
theorem dX9_legOf_111 : decode cX9_legOf 111 = .ok (.goto 4, 3) := by decide +kernel
theorem dX9_legOf_114 : decode cX9_legOf 114 = .ok (.iconst 0, 1) := by decide +kernel
theorem dX9_legOf_115 : decode cX9_legOf 115 = .ok (.iadd, 1) := by decide +kernel
theorem dX9_legOf_116 : decode cX9_legOf 116 = .ok (.ireturn, 1) := by decide +kernel
theorem dX9_close_0 : decode cX9_close 0 = .ok (.aload_n 0, 1) := by decide +kernel
theorem dX9_close_1 : decode cX9_close 1 = .ok (.iconst 0, 1) := by decide +kernel
theorem dX9_close_2 : decode cX9_close 2 = .ok (.putfield 99, 3) := by decide +kernel
theorem dX9_close_5 : decode cX9_close 5 = .ok (.iload_n 1, 1) := by decide +kernel
theorem dX9_close_6 : decode cX9_close 6 = .ok (.iload_n 2, 1) := by decide +kernel
theorem dX9_close_7 : decode cX9_close 7 = .ok (.invokestatic 134, 3) := by decide +kernel
theorem dX9_close_10 : decode cX9_close 10 = .ok (.ifCond .ne 12, 3) := by decide +kernel
theorem dX9_close_13 : decode cX9_close 13 = .ok (.iload_n 3, 1) := by decide +kernel
theorem dX9_close_14 : decode cX9_close 14 = .ok (.iload 4, 2) := by decide +kernel
theorem dX9_close_16 : decode cX9_close 16 = .ok (.invokestatic 134, 3) := by decide +kernel
theorem dX9_close_19 : decode cX9_close 19 = .ok (.ifCond .eq 6, 3) := by decide +kernel
theorem dX9_close_22 : decode cX9_close 22 = .ok (.bipush (-2), 2) := by decide +kernel
theorem dX9_close_24 : decode cX9_close 24 = .ok (.ireturn, 1) := by decide +kernel
theorem dX9_close_25 : decode cX9_close 25 = .ok (.iload_n 3, 1) := by decide +kernel
theorem dX9_close_26 : decode cX9_close 26 = .ok (.iload_n 1, 1) := by decide +kernel
theorem dX9_close_27 : decode cX9_close 27 = .ok (.if_icmp .le 9, 3) := by decide +kernel
theorem dX9_close_30 : decode cX9_close 30 = .ok (.iload 4, 2) := by decide +kernel
theorem dX9_close_32 : decode cX9_close 32 = .ok (.iload_n 2, 1) := by decide +kernel
theorem dX9_close_33 : decode cX9_close 33 = .ok (.if_icmp .gt 6, 3) := by decide +kernel
theorem dX9_close_36 : decode cX9_close 36 = .ok (.bipush (-3), 2) := by decide +kernel
theorem dX9_close_38 : decode cX9_close 38 = .ok (.ireturn, 1) := by decide +kernel
theorem dX9_close_39 : decode cX9_close 39 = .ok (.aload_n 0, 1) := by decide +kernel
theorem dX9_close_40 : decode cX9_close 40 = .ok (.getfield 166, 3) := by decide +kernel
theorem dX9_close_43 : decode cX9_close 43 = .ok (.iconst 4, 1) := by decide +kernel
theorem dX9_close_44 : decode cX9_close 44 = .ok (.if_icmp .ne 6, 3) := by decide +kernel
theorem dX9_close_47 : decode cX9_close 47 = .ok (.bipush (-4), 2) := by decide +kernel
theorem dX9_close_49 : decode cX9_close 49 = .ok (.ireturn, 1) := by decide +kernel
theorem dX9_close_50 : decode cX9_close 50 = .ok (.aload_n 0, 1) := by decide +kernel
theorem dX9_close_51 : decode cX9_close 51 = .ok (.getfield 35, 3) := by decide +kernel
theorem dX9_close_54 : decode cX9_close 54 = .ok (.aload_n 0, 1) := by decide +kernel
theorem dX9_close_55 : decode cX9_close 55 = .ok (.getfield 166, 3) := by decide +kernel
theorem dX9_close_58 : decode cX9_close 58 = .ok (.iload_n 1, 1) := by decide +kernel
theorem dX9_close_59 : decode cX9_close 59 = .ok (.iastore, 1) := by decide +kernel
theorem dX9_close_60 : decode cX9_close 60 = .ok (.aload_n 0, 1) := by decide +kernel
theorem dX9_close_61 : decode cX9_close 61 = .ok (.getfield 38, 3) := by decide +kernel
theorem dX9_close_64 : decode cX9_close 64 = .ok (.aload_n 0, 1) := by decide +kernel
theorem dX9_close_65 : decode cX9_close 65 = .ok (.getfield 166, 3) := by decide +kernel
theorem dX9_close_68 : decode cX9_close 68 = .ok (.iload_n 2, 1) := by decide +kernel
theorem dX9_close_69 : decode cX9_close 69 = .ok (.iastore, 1) := by decide +kernel
theorem dX9_close_70 : decode cX9_close 70 = .ok (.aload_n 0, 1) := by decide +kernel
theorem dX9_close_71 : decode cX9_close 71 = .ok (.getfield 41, 3) := by decide +kernel
theorem dX9_close_74 : decode cX9_close 74 = .ok (.aload_n 0, 1) := by decide +kernel
theorem dX9_close_75 : decode cX9_close 75 = .ok (.getfield 166, 3) := by decide +kernel
theorem dX9_close_78 : decode cX9_close 78 = .ok (.iload_n 3, 1) := by decide +kernel
theorem dX9_close_79 : decode cX9_close 79 = .ok (.iastore, 1) := by decide +kernel
theorem dX9_close_80 : decode cX9_close 80 = .ok (.aload_n 0, 1) := by decide +kernel
theorem dX9_close_81 : decode cX9_close 81 = .ok (.getfield 44, 3) := by decide +kernel
theorem dX9_close_84 : decode cX9_close 84 = .ok (.aload_n 0, 1) := by decide +kernel
theorem dX9_close_85 : decode cX9_close 85 = .ok (.getfield 166, 3) := by decide +kernel
theorem dX9_close_88 : decode cX9_close 88 = .ok (.iload 4, 2) := by decide +kernel
theorem dX9_close_90 : decode cX9_close 90 = .ok (.iastore, 1) := by decide +kernel
theorem dX9_close_91 : decode cX9_close 91 = .ok (.aload_n 0, 1) := by decide +kernel
theorem dX9_close_92 : decode cX9_close 92 = .ok (.dup, 1) := by decide +kernel
theorem dX9_close_93 : decode cX9_close 93 = .ok (.getfield 166, 3) := by decide +kernel
theorem dX9_close_96 : decode cX9_close 96 = .ok (.iconst 1, 1) := by decide +kernel
theorem dX9_close_97 : decode cX9_close 97 = .ok (.iadd, 1) := by decide +kernel
theorem dX9_close_98 : decode cX9_close 98 = .ok (.putfield 166, 3) := by decide +kernel
theorem dX9_close_101 : decode cX9_close 101 = .ok (.aload_n 0, 1) := by decide +kernel
theorem dX9_close_102 : decode cX9_close 102 = .ok (.getfield 166, 3) := by decide +kernel
theorem dX9_close_105 : decode cX9_close 105 = .ok (.ireturn, 1) := by decide +kernel
theorem dX9_open_0 : decode cX9_open 0 = .ok (.aload_n 0, 1) := by decide +kernel
theorem dX9_open_1 : decode cX9_open 1 = .ok (.iconst 0, 1) := by decide +kernel
theorem dX9_open_2 : decode cX9_open 2 = .ok (.putfield 99, 3) := by decide +kernel
theorem dX9_open_5 : decode cX9_open 5 = .ok (.aload_n 0, 1) := by decide +kernel
theorem dX9_open_6 : decode cX9_open 6 = .ok (.getfield 166, 3) := by decide +kernel
theorem dX9_open_9 : decode cX9_open 9 = .ok (.ifCond .ne 6, 3) := by decide +kernel
theorem dX9_open_12 : decode cX9_open 12 = .ok (.bipush (-3), 2) := by decide +kernel
theorem dX9_open_14 : decode cX9_open 14 = .ok (.ireturn, 1) := by decide +kernel
theorem dX9_open_15 : decode cX9_open 15 = .ok (.aload_n 0, 1) := by decide +kernel
theorem dX9_open_16 : decode cX9_open 16 = .ok (.dup, 1) := by decide +kernel
theorem dX9_open_17 : decode cX9_open 17 = .ok (.getfield 166, 3) := by decide +kernel
theorem dX9_open_20 : decode cX9_open 20 = .ok (.iconst 1, 1) := by decide +kernel
theorem dX9_open_21 : decode cX9_open 21 = .ok (.isub, 1) := by decide +kernel
theorem dX9_open_22 : decode cX9_open 22 = .ok (.putfield 166, 3) := by decide +kernel
theorem dX9_open_25 : decode cX9_open 25 = .ok (.aload_n 0, 1) := by decide +kernel
theorem dX9_open_26 : decode cX9_open 26 = .ok (.getfield 166, 3) := by decide +kernel
theorem dX9_open_29 : decode cX9_open 29 = .ok (.ireturn, 1) := by decide +kernel
theorem dX9_wind_0 : decode cX9_wind 0 = .ok (.aload_n 0, 1) := by decide +kernel
theorem dX9_wind_1 : decode cX9_wind 1 = .ok (.iconst 0, 1) := by decide +kernel
theorem dX9_wind_2 : decode cX9_wind 2 = .ok (.putfield 99, 3) := by decide +kernel
theorem dX9_wind_5 : decode cX9_wind 5 = .ok (.iload_n 1, 1) := by decide +kernel
theorem dX9_wind_6 : decode cX9_wind 6 = .ok (.i2l, 1) := by decide +kernel
theorem dX9_wind_7 : decode cX9_wind 7 = .ok (.ldc2_w 179, 3) := by decide +kernel
theorem dX9_wind_10 : decode cX9_wind 10 = .ok (.ldc2_w 181, 3) := by decide +kernel
theorem dX9_wind_13 : decode cX9_wind 13 = .ok (.invokestatic 104, 3) := by decide +kernel
theorem dX9_wind_16 : decode cX9_wind 16 = .ok (.ifCond .eq 17, 3) := by decide +kernel
theorem dX9_wind_19 : decode cX9_wind 19 = .ok (.iload_n 2, 1) := by decide +kernel
theorem dX9_wind_20 : decode cX9_wind 20 = .ok (.i2l, 1) := by decide +kernel
theorem dX9_wind_21 : decode cX9_wind 21 = .ok (.ldc2_w 179, 3) := by decide +kernel
theorem dX9_wind_24 : decode cX9_wind 24 = .ok (.ldc2_w 181, 3) := by decide +kernel
theorem dX9_wind_27 : decode cX9_wind 27 = .ok (.invokestatic 104, 3) := by decide +kernel
theorem dX9_wind_30 : decode cX9_wind 30 = .ok (.ifCond .ne 6, 3) := by decide +kernel
theorem dX9_wind_33 : decode cX9_wind 33 = .ok (.bipush (-2), 2) := by decide +kernel
theorem dX9_wind_35 : decode cX9_wind 35 = .ok (.ireturn, 1) := by decide +kernel
theorem dX9_wind_36 : decode cX9_wind 36 = .ok (.bipush 100, 2) := by decide +kernel
theorem dX9_wind_38 : decode cX9_wind 38 = .ok (.aload_n 0, 1) := by decide +kernel
theorem dX9_wind_39 : decode cX9_wind 39 = .ok (.getfield 173, 3) := by decide +kernel
theorem dX9_wind_42 : decode cX9_wind 42 = .ok (.imul, 1) := by decide +kernel
theorem dX9_wind_43 : decode cX9_wind 43 = .ok (.aload_n 0, 1) := by decide +kernel
theorem dX9_wind_44 : decode cX9_wind 44 = .ok (.getfield 176, 3) := by decide +kernel
theorem dX9_wind_47 : decode cX9_wind 47 = .ok (.iadd, 1) := by decide +kernel
theorem dX9_wind_48 : decode cX9_wind 48 = .ok (.sipush 909, 3) := by decide +kernel
theorem dX9_wind_51 : decode cX9_wind 51 = .ok (.iadd, 1) := by decide +kernel
theorem dX9_wind_52 : decode cX9_wind 52 = .ok (.istore_n 3, 1) := by decide +kernel
theorem dX9_wind_53 : decode cX9_wind 53 = .ok (.aload_n 0, 1) := by decide +kernel
theorem dX9_wind_54 : decode cX9_wind 54 = .ok (.iload_n 1, 1) := by decide +kernel
theorem dX9_wind_55 : decode cX9_wind 55 = .ok (.putfield 173, 3) := by decide +kernel
theorem dX9_wind_58 : decode cX9_wind 58 = .ok (.aload_n 0, 1) := by decide +kernel
theorem dX9_wind_59 : decode cX9_wind 59 = .ok (.iload_n 2, 1) := by decide +kernel
theorem dX9_wind_60 : decode cX9_wind 60 = .ok (.putfield 176, 3) := by decide +kernel
theorem dX9_wind_63 : decode cX9_wind 63 = .ok (.iload_n 3, 1) := by decide +kernel
theorem dX9_wind_64 : decode cX9_wind 64 = .ok (.ireturn, 1) := by decide +kernel
theorem dX9_base_0 : decode cX9_base 0 = .ok (.aload_n 0, 1) := by decide +kernel
theorem dX9_base_1 : decode cX9_base 1 = .ok (.iconst 0, 1) := by decide +kernel
theorem dX9_base_2 : decode cX9_base 2 = .ok (.putfield 99, 3) := by decide +kernel
theorem dX9_base_5 : decode cX9_base 5 = .ok (.iload_n 1, 1) := by decide +kernel
theorem dX9_base_6 : decode cX9_base 6 = .ok (.iload_n 2, 1) := by decide +kernel
theorem dX9_base_7 : decode cX9_base 7 = .ok (.invokestatic 134, 3) := by decide +kernel
theorem dX9_base_10 : decode cX9_base 10 = .ok (.ifCond .eq 6, 3) := by decide +kernel
theorem dX9_base_13 : decode cX9_base 13 = .ok (.bipush (-2), 2) := by decide +kernel
theorem dX9_base_15 : decode cX9_base 15 = .ok (.ireturn, 1) := by decide +kernel
theorem dX9_base_16 : decode cX9_base 16 = .ok (.bipush 100, 2) := by decide +kernel
theorem dX9_base_18 : decode cX9_base 18 = .ok (.aload_n 0, 1) := by decide +kernel
theorem dX9_base_19 : decode cX9_base 19 = .ok (.getfield 29, 3) := by decide +kernel
theorem dX9_base_22 : decode cX9_base 22 = .ok (.bipush 10, 2) := by decide +kernel
theorem dX9_base_24 : decode cX9_base 24 = .ok (.iaload, 1) := by decide +kernel
theorem dX9_base_25 : decode cX9_base 25 = .ok (.imul, 1) := by decide +kernel
theorem dX9_base_26 : decode cX9_base 26 = .ok (.aload_n 0, 1) := by decide +kernel
theorem dX9_base_27 : decode cX9_base 27 = .ok (.getfield 32, 3) := by decide +kernel
theorem dX9_base_30 : decode cX9_base 30 = .ok (.bipush 10, 2) := by decide +kernel
theorem dX9_base_32 : decode cX9_base 32 = .ok (.iaload, 1) := by decide +kernel
theorem dX9_base_33 : decode cX9_base 33 = .ok (.iadd, 1) := by decide +kernel
theorem dX9_base_34 : decode cX9_base 34 = .ok (.istore_n 3, 1) := by decide +kernel
theorem dX9_base_35 : decode cX9_base 35 = .ok (.aload_n 0, 1) := by decide +kernel
theorem dX9_base_36 : decode cX9_base 36 = .ok (.getfield 29, 3) := by decide +kernel
theorem dX9_base_39 : decode cX9_base 39 = .ok (.bipush 10, 2) := by decide +kernel
theorem dX9_base_41 : decode cX9_base 41 = .ok (.iload_n 1, 1) := by decide +kernel
theorem dX9_base_42 : decode cX9_base 42 = .ok (.iastore, 1) := by decide +kernel
theorem dX9_base_43 : decode cX9_base 43 = .ok (.aload_n 0, 1) := by decide +kernel
theorem dX9_base_44 : decode cX9_base 44 = .ok (.getfield 32, 3) := by decide +kernel
theorem dX9_base_47 : decode cX9_base 47 = .ok (.bipush 10, 2) := by decide +kernel
theorem dX9_base_49 : decode cX9_base 49 = .ok (.iload_n 2, 1) := by decide +kernel
theorem dX9_base_50 : decode cX9_base 50 = .ok (.iastore, 1) := by decide +kernel
theorem dX9_base_51 : decode cX9_base 51 = .ok (.iload_n 3, 1) := by decide +kernel
theorem dX9_base_52 : decode cX9_base 52 = .ok (.ireturn, 1) := by decide +kernel
theorem dX9_store_0 : decode cX9_store 0 = .ok (.aload_n 0, 1) := by decide +kernel
theorem dX9_store_1 : decode cX9_store 1 = .ok (.iconst 0, 1) := by decide +kernel
theorem dX9_store_2 : decode cX9_store 2 = .ok (.putfield 99, 3) := by decide +kernel
theorem dX9_store_5 : decode cX9_store 5 = .ok (.iload_n 1, 1) := by decide +kernel
theorem dX9_store_6 : decode cX9_store 6 = .ok (.i2l, 1) := by decide +kernel
theorem dX9_store_7 : decode cX9_store 7 = .ok (.lconst 0, 1) := by decide +kernel
theorem dX9_store_8 : decode cX9_store 8 = .ok (.lconst 1, 1) := by decide +kernel
theorem dX9_store_9 : decode cX9_store 9 = .ok (.invokestatic 104, 3) := by decide +kernel
theorem dX9_store_12 : decode cX9_store 12 = .ok (.ifCond .eq 33, 3) := by decide +kernel
theorem dX9_store_15 : decode cX9_store 15 = .ok (.iload_n 2, 1) := by decide +kernel
theorem dX9_store_16 : decode cX9_store 16 = .ok (.i2l, 1) := by decide +kernel
theorem dX9_store_17 : decode cX9_store 17 = .ok (.iload_n 1, 1) := by decide +kernel
theorem dX9_store_18 : decode cX9_store 18 = .ok (.ifCond .ne 7, 3) := by decide +kernel
theorem dX9_store_21 : decode cX9_store 21 = .ok (.lconst 1, 1) := by decide +kernel
theorem dX9_store_22 : decode cX9_store 22 = .ok (.goto 4, 3) := by decide +kernel
theorem dX9_store_25 : decode cX9_store 25 = .ok (.lconst 0, 1) := by decide +kernel
theorem dX9_store_26 : decode cX9_store 26 = .ok (.iload_n 1, 1) := by decide +kernel
theorem dX9_store_27 : decode cX9_store 27 = .ok (.ifCond .ne 9, 3) := by decide +kernel
theorem dX9_store_30 : decode cX9_store 30 = .ok (.ldc2_w 183, 3) := by decide +kernel
theorem dX9_store_33 : decode cX9_store 33 = .ok (.goto 6, 3) := by decide +kernel
theorem dX9_store_36 : decode cX9_store 36 = .ok (.ldc2_w 185, 3) := by decide +kernel
theorem dX9_store_39 : decode cX9_store 39 = .ok (.invokestatic 104, 3) := by decide +kernel
theorem dX9_store_42 : decode cX9_store 42 = .ok (.ifCond .ne 6, 3) := by decide +kernel
theorem dX9_store_45 : decode cX9_store 45 = .ok (.bipush (-2), 2) := by decide +kernel
theorem dX9_store_47 : decode cX9_store 47 = .ok (.ireturn, 1) := by decide +kernel
theorem dX9_store_48 : decode cX9_store 48 = .ok (.iload_n 1, 1) := by decide +kernel
theorem dX9_store_49 : decode cX9_store 49 = .ok (.ifCond .ne 10, 3) := by decide +kernel
theorem dX9_store_52 : decode cX9_store 52 = .ok (.aload_n 0, 1) := by decide +kernel
theorem dX9_store_53 : decode cX9_store 53 = .ok (.getfield 47, 3) := by decide +kernel
theorem dX9_store_56 : decode cX9_store 56 = .ok (.goto 7, 3) := by decide +kernel
theorem dX9_store_59 : decode cX9_store 59 = .ok (.aload_n 0, 1) := by decide +kernel
theorem dX9_store_60 : decode cX9_store 60 = .ok (.getfield 187, 3) := by decide +kernel
theorem dX9_store_63 : decode cX9_store 63 = .ok (.istore_n 3, 1) := by decide +kernel
theorem dX9_store_64 : decode cX9_store 64 = .ok (.aload_n 0, 1) := by decide +kernel
theorem dX9_store_65 : decode cX9_store 65 = .ok (.iload_n 1, 1) := by decide +kernel
theorem dX9_store_66 : decode cX9_store 66 = .ok (.ifCond .ne 7, 3) := by decide +kernel
theorem dX9_store_69 : decode cX9_store 69 = .ok (.iload_n 2, 1) := by decide +kernel
theorem dX9_store_70 : decode cX9_store 70 = .ok (.goto 7, 3) := by decide +kernel
theorem dX9_store_73 : decode cX9_store 73 = .ok (.aload_n 0, 1) := by decide +kernel
theorem dX9_store_74 : decode cX9_store 74 = .ok (.getfield 47, 3) := by decide +kernel
theorem dX9_store_77 : decode cX9_store 77 = .ok (.putfield 47, 3) := by decide +kernel
theorem dX9_store_80 : decode cX9_store 80 = .ok (.aload_n 0, 1) := by decide +kernel
theorem dX9_store_81 : decode cX9_store 81 = .ok (.iload_n 1, 1) := by decide +kernel
theorem dX9_store_82 : decode cX9_store 82 = .ok (.ifCond .ne 10, 3) := by decide +kernel
theorem dX9_store_85 : decode cX9_store 85 = .ok (.aload_n 0, 1) := by decide +kernel
theorem dX9_store_86 : decode cX9_store 86 = .ok (.getfield 187, 3) := by decide +kernel
theorem dX9_store_89 : decode cX9_store 89 = .ok (.goto 4, 3) := by decide +kernel
theorem dX9_store_92 : decode cX9_store 92 = .ok (.iload_n 2, 1) := by decide +kernel
theorem dX9_store_93 : decode cX9_store 93 = .ok (.putfield 187, 3) := by decide +kernel
theorem dX9_store_96 : decode cX9_store 96 = .ok (.iload_n 3, 1) := by decide +kernel
theorem dX9_store_97 : decode cX9_store 97 = .ok (.ireturn, 1) := by decide +kernel
theorem dX9_leg_0 : decode cX9_leg 0 = .ok (.aload_n 0, 1) := by decide +kernel
theorem dX9_leg_1 : decode cX9_leg 1 = .ok (.iconst 0, 1) := by decide +kernel
theorem dX9_leg_2 : decode cX9_leg 2 = .ok (.putfield 99, 3) := by decide +kernel
theorem dX9_leg_5 : decode cX9_leg 5 = .ok (.iload_n 1, 1) := by decide +kernel
theorem dX9_leg_6 : decode cX9_leg 6 = .ok (.iload_n 2, 1) := by decide +kernel
theorem dX9_leg_7 : decode cX9_leg 7 = .ok (.invokestatic 134, 3) := by decide +kernel
theorem dX9_leg_10 : decode cX9_leg 10 = .ok (.ifCond .ne 12, 3) := by decide +kernel
theorem dX9_leg_13 : decode cX9_leg 13 = .ok (.iload_n 3, 1) := by decide +kernel
theorem dX9_leg_14 : decode cX9_leg 14 = .ok (.iload 4, 2) := by decide +kernel
theorem dX9_leg_16 : decode cX9_leg 16 = .ok (.invokestatic 134, 3) := by decide +kernel
theorem dX9_leg_19 : decode cX9_leg 19 = .ok (.ifCond .eq 6, 3) := by decide +kernel
theorem dX9_leg_22 : decode cX9_leg 22 = .ok (.bipush (-2), 2) := by decide +kernel
theorem dX9_leg_24 : decode cX9_leg 24 = .ok (.ireturn, 1) := by decide +kernel
theorem dX9_leg_25 : decode cX9_leg 25 = .ok (.aload_n 0, 1) := by decide +kernel
theorem dX9_leg_26 : decode cX9_leg 26 = .ok (.iload_n 1, 1) := by decide +kernel
theorem dX9_leg_27 : decode cX9_leg 27 = .ok (.iload_n 2, 1) := by decide +kernel
theorem dX9_leg_28 : decode cX9_leg 28 = .ok (.iload_n 3, 1) := by decide +kernel
theorem dX9_leg_29 : decode cX9_leg 29 = .ok (.iload 4, 2) := by decide +kernel
theorem dX9_leg_31 : decode cX9_leg 31 = .ok (.invokevirtual 190, 3) := by decide +kernel
theorem dX9_leg_34 : decode cX9_leg 34 = .ok (.istore 5, 2) := by decide +kernel
theorem dX9_leg_36 : decode cX9_leg 36 = .ok (.iload 5, 2) := by decide +kernel
theorem dX9_leg_38 : decode cX9_leg 38 = .ok (.ldc 151, 2) := by decide +kernel
theorem dX9_leg_40 : decode cX9_leg 40 = .ok (.if_icmp .ne 8, 3) := by decide +kernel
theorem dX9_leg_43 : decode cX9_leg 43 = .ok (.bipush (-9), 2) := by decide +kernel
theorem dX9_leg_45 : decode cX9_leg 45 = .ok (.goto 5, 3) := by decide +kernel
theorem dX9_leg_48 : decode cX9_leg 48 = .ok (.iload 5, 2) := by decide +kernel
theorem dX9_leg_50 : decode cX9_leg 50 = .ok (.ireturn, 1) := by decide +kernel
theorem dX9_fly_0 : decode cX9_fly 0 = .ok (.iconst 0, 1) := by decide +kernel
theorem dX9_fly_1 : decode cX9_fly 1 = .ok (.istore_n 1, 1) := by decide +kernel
theorem dX9_fly_2 : decode cX9_fly 2 = .ok (.iload_n 1, 1) := by decide +kernel
theorem dX9_fly_3 : decode cX9_fly 3 = .ok (.bipush 11, 2) := by decide +kernel
theorem dX9_fly_5 : decode cX9_fly 5 = .ok (.if_icmp .ge 105, 3) := by decide +kernel
theorem dX9_fly_8 : decode cX9_fly 8 = .ok (.iconst 0, 1) := by decide +kernel
theorem dX9_fly_9 : decode cX9_fly 9 = .ok (.istore_n 2, 1) := by decide +kernel
theorem dX9_fly_10 : decode cX9_fly 10 = .ok (.iload_n 2, 1) := by decide +kernel
theorem dX9_fly_11 : decode cX9_fly 11 = .ok (.bipush 11, 2) := by decide +kernel
theorem dX9_fly_13 : decode cX9_fly 13 = .ok (.if_icmp .ge 91, 3) := by decide +kernel
theorem dX9_fly_16 : decode cX9_fly 16 = .ok (.iload_n 1, 1) := by decide +kernel
theorem dX9_fly_17 : decode cX9_fly 17 = .ok (.aload_n 0, 1) := by decide +kernel
theorem dX9_fly_18 : decode cX9_fly 18 = .ok (.getfield 111, 3) := by decide +kernel
theorem dX9_fly_21 : decode cX9_fly 21 = .ok (.if_icmp .lt 9, 3) := by decide +kernel
theorem dX9_fly_24 : decode cX9_fly 24 = .ok (.iload_n 1, 1) := by decide +kernel
theorem dX9_fly_25 : decode cX9_fly 25 = .ok (.bipush 10, 2) := by decide +kernel
theorem dX9_fly_27 : decode cX9_fly 27 = .ok (.if_icmp .ne 21, 3) := by decide +kernel
theorem dX9_fly_30 : decode cX9_fly 30 = .ok (.iload_n 2, 1) := by decide +kernel
theorem dX9_fly_31 : decode cX9_fly 31 = .ok (.aload_n 0, 1) := by decide +kernel
theorem dX9_fly_32 : decode cX9_fly 32 = .ok (.getfield 111, 3) := by decide +kernel
theorem dX9_fly_35 : decode cX9_fly 35 = .ok (.if_icmp .lt 9, 3) := by decide +kernel
theorem dX9_fly_38 : decode cX9_fly 38 = .ok (.iload_n 2, 1) := by decide +kernel
theorem dX9_fly_39 : decode cX9_fly 39 = .ok (.bipush 10, 2) := by decide +kernel
theorem dX9_fly_41 : decode cX9_fly 41 = .ok (.if_icmp .ne 7, 3) := by decide +kernel
theorem dX9_fly_44 : decode cX9_fly 44 = .ok (.iconst 1, 1) := by decide +kernel
theorem dX9_fly_45 : decode cX9_fly 45 = .ok (.goto 4, 3) := by decide +kernel
theorem dX9_fly_48 : decode cX9_fly 48 = .ok (.iconst 0, 1) := by decide +kernel
theorem dX9_fly_49 : decode cX9_fly 49 = .ok (.istore_n 3, 1) := by decide +kernel
theorem dX9_fly_50 : decode cX9_fly 50 = .ok (.aload_n 0, 1) := by decide +kernel
theorem dX9_fly_51 : decode cX9_fly 51 = .ok (.getfield 75, 3) := by decide +kernel
theorem dX9_fly_54 : decode cX9_fly 54 = .ok (.bipush 11, 2) := by decide +kernel
theorem dX9_fly_56 : decode cX9_fly 56 = .ok (.iload_n 1, 1) := by decide +kernel
theorem dX9_fly_57 : decode cX9_fly 57 = .ok (.imul, 1) := by decide +kernel
theorem dX9_fly_58 : decode cX9_fly 58 = .ok (.iload_n 2, 1) := by decide +kernel
theorem dX9_fly_59 : decode cX9_fly 59 = .ok (.iadd, 1) := by decide +kernel
theorem dX9_fly_60 : decode cX9_fly 60 = .ok (.iload_n 3, 1) := by decide +kernel
theorem dX9_fly_61 : decode cX9_fly 61 = .ok (.ifCond .eq 34, 3) := by decide +kernel
theorem dX9_fly_64 : decode cX9_fly 64 = .ok (.aload_n 0, 1) := by decide +kernel
theorem dX9_fly_65 : decode cX9_fly 65 = .ok (.aload_n 0, 1) := by decide +kernel
theorem dX9_fly_66 : decode cX9_fly 66 = .ok (.getfield 29, 3) := by decide +kernel
theorem dX9_fly_69 : decode cX9_fly 69 = .ok (.iload_n 1, 1) := by decide +kernel
theorem dX9_fly_70 : decode cX9_fly 70 = .ok (.iaload, 1) := by decide +kernel
theorem dX9_fly_71 : decode cX9_fly 71 = .ok (.aload_n 0, 1) := by decide +kernel
theorem dX9_fly_72 : decode cX9_fly 72 = .ok (.getfield 32, 3) := by decide +kernel
theorem dX9_fly_75 : decode cX9_fly 75 = .ok (.iload_n 1, 1) := by decide +kernel
theorem dX9_fly_76 : decode cX9_fly 76 = .ok (.iaload, 1) := by decide +kernel
theorem dX9_fly_77 : decode cX9_fly 77 = .ok (.aload_n 0, 1) := by decide +kernel
theorem dX9_fly_78 : decode cX9_fly 78 = .ok (.getfield 29, 3) := by decide +kernel
theorem dX9_fly_81 : decode cX9_fly 81 = .ok (.iload_n 2, 1) := by decide +kernel
theorem dX9_fly_82 : decode cX9_fly 82 = .ok (.iaload, 1) := by decide +kernel
theorem dX9_fly_83 : decode cX9_fly 83 = .ok (.aload_n 0, 1) := by decide +kernel
theorem dX9_fly_84 : decode cX9_fly 84 = .ok (.getfield 32, 3) := by decide +kernel
theorem dX9_fly_87 : decode cX9_fly 87 = .ok (.iload_n 2, 1) := by decide +kernel
theorem dX9_fly_88 : decode cX9_fly 88 = .ok (.iaload, 1) := by decide +kernel
theorem dX9_fly_89 : decode cX9_fly 89 = .ok (.invokevirtual 190, 3) := by decide +kernel
theorem dX9_fly_92 : decode cX9_fly 92 = .ok (.goto 5, 3) := by decide +kernel
theorem dX9_fly_95 : decode cX9_fly 95 = .ok (.ldc 151, 2) := by decide +kernel
theorem dX9_fly_97 : decode cX9_fly 97 = .ok (.iastore, 1) := by decide +kernel
theorem dX9_fly_98 : decode cX9_fly 98 = .ok (.iinc 2 1, 3) := by decide +kernel
theorem dX9_fly_101 : decode cX9_fly 101 = .ok (.goto (-91), 3) := by decide +kernel
theorem dX9_fly_104 : decode cX9_fly 104 = .ok (.iinc 1 1, 3) := by decide +kernel
theorem dX9_fly_107 : decode cX9_fly 107 = .ok (.goto (-105), 3) := by decide +kernel
theorem dX9_fly_110 : decode cX9_fly 110 = .ok (.iconst 0, 1) := by decide +kernel
theorem dX9_fly_111 : decode cX9_fly 111 = .ok (.istore_n 1, 1) := by decide +kernel
theorem dX9_fly_112 : decode cX9_fly 112 = .ok (.iload_n 1, 1) := by decide +kernel
theorem dX9_fly_113 : decode cX9_fly 113 = .ok (.iconst 1, 1) := by decide +kernel
theorem dX9_fly_114 : decode cX9_fly 114 = .ok (.aload_n 0, 1) := by decide +kernel
theorem dX9_fly_115 : decode cX9_fly 115 = .ok (.getfield 111, 3) := by decide +kernel
theorem dX9_fly_118 : decode cX9_fly 118 = .ok (.ishl, 1) := by decide +kernel
theorem dX9_fly_119 : decode cX9_fly 119 = .ok (.if_icmp .ge 135, 3) := by decide +kernel
theorem dX9_fly_122 : decode cX9_fly 122 = .ok (.iconst 0, 1) := by decide +kernel
theorem dX9_fly_123 : decode cX9_fly 123 = .ok (.istore_n 2, 1) := by decide +kernel
theorem dX9_fly_124 : decode cX9_fly 124 = .ok (.iload_n 2, 1) := by decide +kernel
theorem dX9_fly_125 : decode cX9_fly 125 = .ok (.bipush 11, 2) := by decide +kernel
theorem dX9_fly_127 : decode cX9_fly 127 = .ok (.if_icmp .ge 121, 3) := by decide +kernel
theorem dX9_fly_130 : decode cX9_fly 130 = .ok (.iload_n 1, 1) := by decide +kernel
theorem dX9_fly_131 : decode cX9_fly 131 = .ok (.ifCond .ne 18, 3) := by decide +kernel
theorem dX9_fly_134 : decode cX9_fly 134 = .ok (.aload_n 0, 1) := by decide +kernel
theorem dX9_fly_135 : decode cX9_fly 135 = .ok (.getfield 75, 3) := by decide +kernel
theorem dX9_fly_138 : decode cX9_fly 138 = .ok (.bipush 11, 2) := by decide +kernel
theorem dX9_fly_140 : decode cX9_fly 140 = .ok (.iload_n 2, 1) := by decide +kernel
theorem dX9_fly_141 : decode cX9_fly 141 = .ok (.imul, 1) := by decide +kernel
theorem dX9_fly_142 : decode cX9_fly 142 = .ok (.bipush 10, 2) := by decide +kernel
theorem dX9_fly_144 : decode cX9_fly 144 = .ok (.iadd, 1) := by decide +kernel
theorem dX9_fly_145 : decode cX9_fly 145 = .ok (.iaload, 1) := by decide +kernel
theorem dX9_fly_146 : decode cX9_fly 146 = .ok (.goto 5, 3) := by decide +kernel
theorem dX9_fly_149 : decode cX9_fly 149 = .ok (.ldc 151, 2) := by decide +kernel
theorem dX9_fly_151 : decode cX9_fly 151 = .ok (.istore_n 3, 1) := by decide +kernel
theorem dX9_fly_152 : decode cX9_fly 152 = .ok (.iconst 0, 1) := by decide +kernel
theorem dX9_fly_153 : decode cX9_fly 153 = .ok (.istore 4, 2) := by decide +kernel
theorem dX9_fly_155 : decode cX9_fly 155 = .ok (.iload 4, 2) := by decide +kernel
theorem dX9_fly_157 : decode cX9_fly 157 = .ok (.aload_n 0, 1) := by decide +kernel
theorem dX9_fly_158 : decode cX9_fly 158 = .ok (.getfield 111, 3) := by decide +kernel
theorem dX9_fly_161 : decode cX9_fly 161 = .ok (.if_icmp .ge 69, 3) := by decide +kernel
theorem dX9_fly_164 : decode cX9_fly 164 = .ok (.iload_n 1, 1) := by decide +kernel
theorem dX9_fly_165 : decode cX9_fly 165 = .ok (.iload 4, 2) := by decide +kernel
theorem dX9_fly_167 : decode cX9_fly 167 = .ok (.ishr, 1) := by decide +kernel
theorem dX9_fly_168 : decode cX9_fly 168 = .ok (.iconst 1, 1) := by decide +kernel
theorem dX9_fly_169 : decode cX9_fly 169 = .ok (.iand, 1) := by decide +kernel
theorem dX9_fly_170 : decode cX9_fly 170 = .ok (.iconst 1, 1) := by decide +kernel
theorem dX9_fly_171 : decode cX9_fly 171 = .ok (.if_icmp .ne 53, 3) := by decide +kernel
theorem dX9_fly_174 : decode cX9_fly 174 = .ok (.aload_n 0, 1) := by decide +kernel
theorem dX9_fly_175 : decode cX9_fly 175 = .ok (.getfield 75, 3) := by decide +kernel
theorem dX9_fly_178 : decode cX9_fly 178 = .ok (.bipush 11, 2) := by decide +kernel
theorem dX9_fly_180 : decode cX9_fly 180 = .ok (.iload_n 2, 1) := by decide +kernel
theorem dX9_fly_181 : decode cX9_fly 181 = .ok (.imul, 1) := by decide +kernel
theorem dX9_fly_182 : decode cX9_fly 182 = .ok (.iload 4, 2) := by decide +kernel
theorem dX9_fly_184 : decode cX9_fly 184 = .ok (.iadd, 1) := by decide +kernel
theorem dX9_fly_185 : decode cX9_fly 185 = .ok (.iaload, 1) := by decide +kernel
theorem dX9_fly_186 : decode cX9_fly 186 = .ok (.aload_n 0, 1) := by decide +kernel
theorem dX9_fly_187 : decode cX9_fly 187 = .ok (.getfield 187, 3) := by decide +kernel
theorem dX9_fly_190 : decode cX9_fly 190 = .ok (.iadd, 1) := by decide +kernel
theorem dX9_fly_191 : decode cX9_fly 191 = .ok (.aload_n 0, 1) := by decide +kernel
theorem dX9_fly_192 : decode cX9_fly 192 = .ok (.getfield 78, 3) := by decide +kernel
theorem dX9_fly_195 : decode cX9_fly 195 = .ok (.bipush 11, 2) := by decide +kernel
theorem dX9_fly_197 : decode cX9_fly 197 = .ok (.iload_n 1, 1) := by decide +kernel
theorem dX9_fly_198 : decode cX9_fly 198 = .ok (.iconst 1, 1) := by decide +kernel
theorem dX9_fly_199 : decode cX9_fly 199 = .ok (.iload 4, 2) := by decide +kernel
theorem dX9_fly_201 : decode cX9_fly 201 = .ok (.ishl, 1) := by decide +kernel
theorem dX9_fly_202 : decode cX9_fly 202 = .ok (.ixor, 1) := by decide +kernel
theorem dX9_fly_203 : decode cX9_fly 203 = .ok (.imul, 1) := by decide +kernel
theorem dX9_fly_204 : decode cX9_fly 204 = .ok (.iload 4, 2) := by decide +kernel
theorem dX9_fly_206 : decode cX9_fly 206 = .ok (.iadd, 1) := by decide +kernel
theorem dX9_fly_207 : decode cX9_fly 207 = .ok (.iaload, 1) := by decide +kernel
theorem dX9_fly_208 : decode cX9_fly 208 = .ok (.iadd, 1) := by decide +kernel
theorem dX9_fly_209 : decode cX9_fly 209 = .ok (.istore 5, 2) := by decide +kernel
theorem dX9_fly_211 : decode cX9_fly 211 = .ok (.iload 5, 2) := by decide +kernel
theorem dX9_fly_213 : decode cX9_fly 213 = .ok (.iload_n 3, 1) := by decide +kernel
theorem dX9_fly_214 : decode cX9_fly 214 = .ok (.if_icmp .ge 8, 3) := by decide +kernel
theorem dX9_fly_217 : decode cX9_fly 217 = .ok (.iload 5, 2) := by decide +kernel
theorem dX9_fly_219 : decode cX9_fly 219 = .ok (.goto 4, 3) := by decide +kernel
theorem dX9_fly_222 : decode cX9_fly 222 = .ok (.iload_n 3, 1) := by decide +kernel
theorem dX9_fly_223 : decode cX9_fly 223 = .ok (.istore_n 3, 1) := by decide +kernel
theorem dX9_fly_224 : decode cX9_fly 224 = .ok (.iinc 4 1, 3) := by decide +kernel
theorem dX9_fly_227 : decode cX9_fly 227 = .ok (.goto (-72), 3) := by decide +kernel
theorem dX9_fly_230 : decode cX9_fly 230 = .ok (.aload_n 0, 1) := by decide +kernel
theorem dX9_fly_231 : decode cX9_fly 231 = .ok (.getfield 78, 3) := by decide +kernel
theorem dX9_fly_234 : decode cX9_fly 234 = .ok (.bipush 11, 2) := by decide +kernel
theorem dX9_fly_236 : decode cX9_fly 236 = .ok (.iload_n 1, 1) := by decide +kernel
theorem dX9_fly_237 : decode cX9_fly 237 = .ok (.imul, 1) := by decide +kernel
theorem dX9_fly_238 : decode cX9_fly 238 = .ok (.iload_n 2, 1) := by decide +kernel
theorem dX9_fly_239 : decode cX9_fly 239 = .ok (.iadd, 1) := by decide +kernel
theorem dX9_fly_240 : decode cX9_fly 240 = .ok (.iload_n 3, 1) := by decide +kernel
theorem dX9_fly_241 : decode cX9_fly 241 = .ok (.iastore, 1) := by decide +kernel
theorem dX9_fly_242 : decode cX9_fly 242 = .ok (.iinc 2 1, 3) := by decide +kernel
theorem dX9_fly_245 : decode cX9_fly 245 = .ok (.goto (-121), 3) := by decide +kernel
theorem dX9_fly_248 : decode cX9_fly 248 = .ok (.iinc 1 1, 3) := by decide +kernel
theorem dX9_fly_251 : decode cX9_fly 251 = .ok (.goto (-139), 3) := by decide +kernel
theorem dX9_fly_254 : decode cX9_fly 254 = .ok (.return_, 1) := by decide +kernel
theorem dX9_roundOf_0 : decode cX9_roundOf 0 = .ok (.iload_n 1, 1) := by decide +kernel
theorem dX9_roundOf_1 : decode cX9_roundOf 1 = .ok (.ifCond .ne 8, 3) := by decide +kernel
theorem dX9_roundOf_4 : decode cX9_roundOf 4 = .ok (.ldc 151, 2) := by decide +kernel
theorem dX9_roundOf_6 : decode cX9_roundOf 6 = .ok (.goto 15, 3) := by decide +kernel
theorem dX9_roundOf_9 : decode cX9_roundOf 9 = .ok (.aload_n 0, 1) := by decide +kernel
theorem dX9_roundOf_10 : decode cX9_roundOf 10 = .ok (.getfield 78, 3) := by decide +kernel
theorem dX9_roundOf_13 : decode cX9_roundOf 13 = .ok (.bipush 11, 2) := by decide +kernel
theorem dX9_roundOf_15 : decode cX9_roundOf 15 = .ok (.iload_n 1, 1) := by decide +kernel
theorem dX9_roundOf_16 : decode cX9_roundOf 16 = .ok (.imul, 1) := by decide +kernel
theorem dX9_roundOf_17 : decode cX9_roundOf 17 = .ok (.bipush 10, 2) := by decide +kernel
theorem dX9_roundOf_19 : decode cX9_roundOf 19 = .ok (.iadd, 1) := by decide +kernel
theorem dX9_roundOf_20 : decode cX9_roundOf 20 = .ok (.iaload, 1) := by decide +kernel
theorem dX9_roundOf_21 : decode cX9_roundOf 21 = .ok (.ireturn, 1) := by decide +kernel
theorem dX9_round_0 : decode cX9_round 0 = .ok (.aload_n 0, 1) := by decide +kernel
theorem dX9_round_1 : decode cX9_round 1 = .ok (.iconst 0, 1) := by decide +kernel
theorem dX9_round_2 : decode cX9_round 2 = .ok (.putfield 99, 3) := by decide +kernel
theorem dX9_round_5 : decode cX9_round 5 = .ok (.aload_n 0, 1) := by decide +kernel
theorem dX9_round_6 : decode cX9_round 6 = .ok (.iload_n 1, 1) := by decide +kernel
theorem dX9_round_7 : decode cX9_round 7 = .ok (.invokevirtual 163, 3) := by decide +kernel
theorem dX9_round_10 : decode cX9_round 10 = .ok (.ifCond .eq 5, 3) := by decide +kernel
theorem dX9_round_13 : decode cX9_round 13 = .ok (.iconst (-1), 1) := by decide +kernel
theorem dX9_round_14 : decode cX9_round 14 = .ok (.ireturn, 1) := by decide +kernel
theorem dX9_round_15 : decode cX9_round 15 = .ok (.aload_n 0, 1) := by decide +kernel
theorem dX9_round_16 : decode cX9_round 16 = .ok (.invokevirtual 193, 3) := by decide +kernel
theorem dX9_round_19 : decode cX9_round 19 = .ok (.aload_n 0, 1) := by decide +kernel
theorem dX9_round_20 : decode cX9_round 20 = .ok (.iload_n 1, 1) := by decide +kernel
theorem dX9_round_21 : decode cX9_round 21 = .ok (.invokevirtual 196, 3) := by decide +kernel
theorem dX9_round_24 : decode cX9_round 24 = .ok (.ldc 151, 2) := by decide +kernel
theorem dX9_round_26 : decode cX9_round 26 = .ok (.if_icmp .lt 8, 3) := by decide +kernel
theorem dX9_round_29 : decode cX9_round 29 = .ok (.bipush (-9), 2) := by decide +kernel
theorem dX9_round_31 : decode cX9_round 31 = .ok (.goto 8, 3) := by decide +kernel
theorem dX9_round_34 : decode cX9_round 34 = .ok (.aload_n 0, 1) := by decide +kernel
theorem dX9_round_35 : decode cX9_round 35 = .ok (.iload_n 1, 1) := by decide +kernel
theorem dX9_round_36 : decode cX9_round 36 = .ok (.invokevirtual 196, 3) := by decide +kernel
theorem dX9_round_39 : decode cX9_round 39 = .ok (.ireturn, 1) := by decide +kernel
theorem dX9_stop_0 : decode cX9_stop 0 = .ok (.aload_n 0, 1) := by decide +kernel
theorem dX9_stop_1 : decode cX9_stop 1 = .ok (.iconst 0, 1) := by decide +kernel
theorem dX9_stop_2 : decode cX9_stop 2 = .ok (.putfield 99, 3) := by decide +kernel
theorem dX9_stop_5 : decode cX9_stop 5 = .ok (.aload_n 0, 1) := by decide +kernel
theorem dX9_stop_6 : decode cX9_stop 6 = .ok (.iload_n 1, 1) := by decide +kernel
theorem dX9_stop_7 : decode cX9_stop 7 = .ok (.invokevirtual 163, 3) := by decide +kernel
theorem dX9_stop_10 : decode cX9_stop 10 = .ok (.ifCond .eq 5, 3) := by decide +kernel
theorem dX9_stop_13 : decode cX9_stop 13 = .ok (.iconst (-1), 1) := by decide +kernel
theorem dX9_stop_14 : decode cX9_stop 14 = .ok (.ireturn, 1) := by decide +kernel
theorem dX9_stop_15 : decode cX9_stop 15 = .ok (.aload_n 0, 1) := by decide +kernel
theorem dX9_stop_16 : decode cX9_stop 16 = .ok (.invokevirtual 193, 3) := by decide +kernel
theorem dX9_stop_19 : decode cX9_stop 19 = .ok (.aload_n 0, 1) := by decide +kernel
theorem dX9_stop_20 : decode cX9_stop 20 = .ok (.iload_n 1, 1) := by decide +kernel
theorem dX9_stop_21 : decode cX9_stop 21 = .ok (.invokevirtual 196, 3) := by decide +kernel
theorem dX9_stop_24 : decode cX9_stop 24 = .ok (.ldc 151, 2) := by decide +kernel
theorem dX9_stop_26 : decode cX9_stop 26 = .ok (.if_icmp .ge 19, 3) := by decide +kernel
theorem dX9_stop_29 : decode cX9_stop 29 = .ok (.iload_n 2, 1) := by decide +kernel
theorem dX9_stop_30 : decode cX9_stop 30 = .ok (.i2l, 1) := by decide +kernel
theorem dX9_stop_31 : decode cX9_stop 31 = .ok (.lconst 0, 1) := by decide +kernel
theorem dX9_stop_32 : decode cX9_stop 32 = .ok (.iload_n 1, 1) := by decide +kernel
theorem dX9_stop_33 : decode cX9_stop 33 = .ok (.invokestatic 157, 3) := by decide +kernel
theorem dX9_stop_36 : decode cX9_stop 36 = .ok (.iconst 1, 1) := by decide +kernel
theorem dX9_stop_37 : decode cX9_stop 37 = .ok (.isub, 1) := by decide +kernel
theorem dX9_stop_38 : decode cX9_stop 38 = .ok (.i2l, 1) := by decide +kernel
theorem dX9_stop_39 : decode cX9_stop 39 = .ok (.invokestatic 104, 3) := by decide +kernel
theorem dX9_stop_42 : decode cX9_stop 42 = .ok (.ifCond .ne 6, 3) := by decide +kernel
theorem dX9_stop_45 : decode cX9_stop 45 = .ok (.bipush (-9), 2) := by decide +kernel
theorem dX9_stop_47 : decode cX9_stop 47 = .ok (.ireturn, 1) := by decide +kernel
theorem dX9_stop_48 : decode cX9_stop 48 = .ok (.iload_n 1, 1) := by decide +kernel
theorem dX9_stop_49 : decode cX9_stop 49 = .ok (.istore_n 3, 1) := by decide +kernel
theorem dX9_stop_50 : decode cX9_stop 50 = .ok (.bipush 10, 2) := by decide +kernel
theorem dX9_stop_52 : decode cX9_stop 52 = .ok (.istore 4, 2) := by decide +kernel
theorem dX9_stop_54 : decode cX9_stop 54 = .ok (.iconst 0, 1) := by decide +kernel
theorem dX9_stop_55 : decode cX9_stop 55 = .ok (.istore 5, 2) := by decide +kernel
theorem dX9_stop_57 : decode cX9_stop 57 = .ok (.iload 5, 2) := by decide +kernel
theorem dX9_stop_59 : decode cX9_stop 59 = .ok (.iload_n 2, 1) := by decide +kernel
theorem dX9_stop_60 : decode cX9_stop 60 = .ok (.if_icmp .gt 125, 3) := by decide +kernel
theorem dX9_stop_63 : decode cX9_stop 63 = .ok (.bipush (-9), 2) := by decide +kernel
theorem dX9_stop_65 : decode cX9_stop 65 = .ok (.istore 6, 2) := by decide +kernel
theorem dX9_stop_67 : decode cX9_stop 67 = .ok (.aload_n 0, 1) := by decide +kernel
theorem dX9_stop_68 : decode cX9_stop 68 = .ok (.getfield 111, 3) := by decide +kernel
theorem dX9_stop_71 : decode cX9_stop 71 = .ok (.iconst 1, 1) := by decide +kernel
theorem dX9_stop_72 : decode cX9_stop 72 = .ok (.isub, 1) := by decide +kernel
theorem dX9_stop_73 : decode cX9_stop 73 = .ok (.istore 7, 2) := by decide +kernel
theorem dX9_stop_75 : decode cX9_stop 75 = .ok (.iload 7, 2) := by decide +kernel
theorem dX9_stop_77 : decode cX9_stop 77 = .ok (.ifCond .lt 91, 3) := by decide +kernel
theorem dX9_stop_80 : decode cX9_stop 80 = .ok (.iload_n 3, 1) := by decide +kernel
theorem dX9_stop_81 : decode cX9_stop 81 = .ok (.iload 7, 2) := by decide +kernel
theorem dX9_stop_83 : decode cX9_stop 83 = .ok (.ishr, 1) := by decide +kernel
theorem dX9_stop_84 : decode cX9_stop 84 = .ok (.iconst 1, 1) := by decide +kernel
theorem dX9_stop_85 : decode cX9_stop 85 = .ok (.iand, 1) := by decide +kernel
theorem dX9_stop_86 : decode cX9_stop 86 = .ok (.iconst 1, 1) := by decide +kernel
theorem dX9_stop_87 : decode cX9_stop 87 = .ok (.if_icmp .ne 58, 3) := by decide +kernel
theorem dX9_stop_90 : decode cX9_stop 90 = .ok (.aload_n 0, 1) := by decide +kernel
theorem dX9_stop_91 : decode cX9_stop 91 = .ok (.getfield 75, 3) := by decide +kernel
theorem dX9_stop_94 : decode cX9_stop 94 = .ok (.bipush 11, 2) := by decide +kernel
theorem dX9_stop_96 : decode cX9_stop 96 = .ok (.iload 4, 2) := by decide +kernel
theorem dX9_stop_98 : decode cX9_stop 98 = .ok (.imul, 1) := by decide +kernel
theorem dX9_stop_99 : decode cX9_stop 99 = .ok (.iload 7, 2) := by decide +kernel
theorem dX9_stop_101 : decode cX9_stop 101 = .ok (.iadd, 1) := by decide +kernel
theorem dX9_stop_102 : decode cX9_stop 102 = .ok (.iaload, 1) := by decide +kernel
theorem dX9_stop_103 : decode cX9_stop 103 = .ok (.aload_n 0, 1) := by decide +kernel
theorem dX9_stop_104 : decode cX9_stop 104 = .ok (.getfield 187, 3) := by decide +kernel
theorem dX9_stop_107 : decode cX9_stop 107 = .ok (.iadd, 1) := by decide +kernel
theorem dX9_stop_108 : decode cX9_stop 108 = .ok (.aload_n 0, 1) := by decide +kernel
theorem dX9_stop_109 : decode cX9_stop 109 = .ok (.getfield 78, 3) := by decide +kernel
theorem dX9_stop_112 : decode cX9_stop 112 = .ok (.bipush 11, 2) := by decide +kernel
theorem dX9_stop_114 : decode cX9_stop 114 = .ok (.iload_n 3, 1) := by decide +kernel
theorem dX9_stop_115 : decode cX9_stop 115 = .ok (.iconst 1, 1) := by decide +kernel
theorem dX9_stop_116 : decode cX9_stop 116 = .ok (.iload 7, 2) := by decide +kernel
theorem dX9_stop_118 : decode cX9_stop 118 = .ok (.ishl, 1) := by decide +kernel
theorem dX9_stop_119 : decode cX9_stop 119 = .ok (.ixor, 1) := by decide +kernel
theorem dX9_stop_120 : decode cX9_stop 120 = .ok (.imul, 1) := by decide +kernel
theorem dX9_stop_121 : decode cX9_stop 121 = .ok (.iload 7, 2) := by decide +kernel
theorem dX9_stop_123 : decode cX9_stop 123 = .ok (.iadd, 1) := by decide +kernel
theorem dX9_stop_124 : decode cX9_stop 124 = .ok (.iaload, 1) := by decide +kernel
theorem dX9_stop_125 : decode cX9_stop 125 = .ok (.iadd, 1) := by decide +kernel
theorem dX9_stop_126 : decode cX9_stop 126 = .ok (.aload_n 0, 1) := by decide +kernel
theorem dX9_stop_127 : decode cX9_stop 127 = .ok (.getfield 78, 3) := by decide +kernel
theorem dX9_stop_130 : decode cX9_stop 130 = .ok (.bipush 11, 2) := by decide +kernel
theorem dX9_stop_132 : decode cX9_stop 132 = .ok (.iload_n 3, 1) := by decide +kernel
theorem dX9_stop_133 : decode cX9_stop 133 = .ok (.imul, 1) := by decide +kernel
theorem dX9_stop_134 : decode cX9_stop 134 = .ok (.iload 4, 2) := by decide +kernel
theorem dX9_stop_136 : decode cX9_stop 136 = .ok (.iadd, 1) := by decide +kernel
theorem dX9_stop_137 : decode cX9_stop 137 = .ok (.iaload, 1) := by decide +kernel
theorem dX9_stop_138 : decode cX9_stop 138 = .ok (.if_icmp .ne 7, 3) := by decide +kernel
theorem dX9_stop_141 : decode cX9_stop 141 = .ok (.iconst 1, 1) := by decide +kernel
theorem dX9_stop_142 : decode cX9_stop 142 = .ok (.goto 4, 3) := by decide +kernel
theorem dX9_stop_145 : decode cX9_stop 145 = .ok (.iconst 0, 1) := by decide +kernel
theorem dX9_stop_146 : decode cX9_stop 146 = .ok (.istore 8, 2) := by decide +kernel
theorem dX9_stop_148 : decode cX9_stop 148 = .ok (.iload 8, 2) := by decide +kernel
theorem dX9_stop_150 : decode cX9_stop 150 = .ok (.ifCond .eq 8, 3) := by decide +kernel
theorem dX9_stop_153 : decode cX9_stop 153 = .ok (.iload 7, 2) := by decide +kernel
theorem dX9_stop_155 : decode cX9_stop 155 = .ok (.goto 5, 3) := by decide +kernel
theorem dX9_stop_158 : decode cX9_stop 158 = .ok (.iload 6, 2) := by decide +kernel
theorem dX9_stop_160 : decode cX9_stop 160 = .ok (.istore 6, 2) := by decide +kernel
theorem dX9_stop_162 : decode cX9_stop 162 = .ok (.iinc 7 (-1), 3) := by decide +kernel
theorem dX9_stop_165 : decode cX9_stop 165 = .ok (.goto (-90), 3) := by decide +kernel
theorem dX9_stop_168 : decode cX9_stop 168 = .ok (.iload_n 3, 1) := by decide +kernel
theorem dX9_stop_169 : decode cX9_stop 169 = .ok (.iconst 1, 1) := by decide +kernel
theorem dX9_stop_170 : decode cX9_stop 170 = .ok (.iload 6, 2) := by decide +kernel
theorem dX9_stop_172 : decode cX9_stop 172 = .ok (.ishl, 1) := by decide +kernel
theorem dX9_stop_173 : decode cX9_stop 173 = .ok (.ixor, 1) := by decide +kernel
theorem dX9_stop_174 : decode cX9_stop 174 = .ok (.istore_n 3, 1) := by decide +kernel
theorem dX9_stop_175 : decode cX9_stop 175 = .ok (.iload 6, 2) := by decide +kernel
theorem dX9_stop_177 : decode cX9_stop 177 = .ok (.istore 4, 2) := by decide +kernel
theorem dX9_stop_179 : decode cX9_stop 179 = .ok (.iinc 5 1, 3) := by decide +kernel
theorem dX9_stop_182 : decode cX9_stop 182 = .ok (.goto (-125), 3) := by decide +kernel
theorem dX9_stop_185 : decode cX9_stop 185 = .ok (.iload 4, 2) := by decide +kernel
theorem dX9_stop_187 : decode cX9_stop 187 = .ok (.ireturn, 1) := by decide +kernel
theorem dX9_part_0 : decode cX9_part 0 = .ok (.aload_n 0, 1) := by decide +kernel
theorem dX9_part_1 : decode cX9_part 1 = .ok (.invokevirtual 193, 3) := by decide +kernel
theorem dX9_part_4 : decode cX9_part 4 = .ok (.iconst 0, 1) := by decide +kernel
theorem dX9_part_5 : decode cX9_part 5 = .ok (.istore_n 1, 1) := by decide +kernel
theorem dX9_part_6 : decode cX9_part 6 = .ok (.iload_n 1, 1) := by decide +kernel
theorem dX9_part_7 : decode cX9_part 7 = .ok (.iconst 1, 1) := by decide +kernel
theorem dX9_part_8 : decode cX9_part 8 = .ok (.aload_n 0, 1) := by decide +kernel
theorem dX9_part_9 : decode cX9_part 9 = .ok (.getfield 111, 3) := by decide +kernel
theorem dX9_part_12 : decode cX9_part 12 = .ok (.ishl, 1) := by decide +kernel
theorem dX9_part_13 : decode cX9_part 13 = .ok (.if_icmp .ge 161, 3) := by decide +kernel
theorem dX9_part_16 : decode cX9_part 16 = .ok (.aload_n 0, 1) := by decide +kernel
theorem dX9_part_17 : decode cX9_part 17 = .ok (.getfield 81, 3) := by decide +kernel
theorem dX9_part_20 : decode cX9_part 20 = .ok (.iload_n 1, 1) := by decide +kernel
theorem dX9_part_21 : decode cX9_part 21 = .ok (.iload_n 1, 1) := by decide +kernel
theorem dX9_part_22 : decode cX9_part 22 = .ok (.ifCond .ne 7, 3) := by decide +kernel
theorem dX9_part_25 : decode cX9_part 25 = .ok (.iconst 0, 1) := by decide +kernel
theorem dX9_part_26 : decode cX9_part 26 = .ok (.goto 5, 3) := by decide +kernel
theorem dX9_part_29 : decode cX9_part 29 = .ok (.ldc 151, 2) := by decide +kernel
theorem dX9_part_31 : decode cX9_part 31 = .ok (.iastore, 1) := by decide +kernel
theorem dX9_part_32 : decode cX9_part 32 = .ok (.aload_n 0, 1) := by decide +kernel
theorem dX9_part_33 : decode cX9_part 33 = .ok (.getfield 84, 3) := by decide +kernel
theorem dX9_part_36 : decode cX9_part 36 = .ok (.iload_n 1, 1) := by decide +kernel
theorem dX9_part_37 : decode cX9_part 37 = .ok (.iconst 0, 1) := by decide +kernel
theorem dX9_part_38 : decode cX9_part 38 = .ok (.iastore, 1) := by decide +kernel
theorem dX9_part_39 : decode cX9_part 39 = .ok (.iload_n 1, 1) := by decide +kernel
theorem dX9_part_40 : decode cX9_part 40 = .ok (.iload_n 1, 1) := by decide +kernel
theorem dX9_part_41 : decode cX9_part 41 = .ok (.ineg, 1) := by decide +kernel
theorem dX9_part_42 : decode cX9_part 42 = .ok (.iand, 1) := by decide +kernel
theorem dX9_part_43 : decode cX9_part 43 = .ok (.istore_n 2, 1) := by decide +kernel
theorem dX9_part_44 : decode cX9_part 44 = .ok (.iload_n 1, 1) := by decide +kernel
theorem dX9_part_45 : decode cX9_part 45 = .ok (.istore_n 3, 1) := by decide +kernel
theorem dX9_part_46 : decode cX9_part 46 = .ok (.iload_n 3, 1) := by decide +kernel
theorem dX9_part_47 : decode cX9_part 47 = .ok (.ifCond .le 121, 3) := by decide +kernel
theorem dX9_part_50 : decode cX9_part 50 = .ok (.aload_n 0, 1) := by decide +kernel
theorem dX9_part_51 : decode cX9_part 51 = .ok (.iload_n 3, 1) := by decide +kernel
theorem dX9_part_52 : decode cX9_part 52 = .ok (.invokevirtual 196, 3) := by decide +kernel
theorem dX9_part_55 : decode cX9_part 55 = .ok (.istore 4, 2) := by decide +kernel
theorem dX9_part_57 : decode cX9_part 57 = .ok (.iload_n 3, 1) := by decide +kernel
theorem dX9_part_58 : decode cX9_part 58 = .ok (.iload_n 2, 1) := by decide +kernel
theorem dX9_part_59 : decode cX9_part 59 = .ok (.iand, 1) := by decide +kernel
theorem dX9_part_60 : decode cX9_part 60 = .ok (.ifCond .eq 99, 3) := by decide +kernel
theorem dX9_part_63 : decode cX9_part 63 = .ok (.iload 4, 2) := by decide +kernel
theorem dX9_part_65 : decode cX9_part 65 = .ok (.aload_n 0, 1) := by decide +kernel
theorem dX9_part_66 : decode cX9_part 66 = .ok (.getfield 47, 3) := by decide +kernel
theorem dX9_part_69 : decode cX9_part 69 = .ok (.if_icmp .gt 90, 3) := by decide +kernel
theorem dX9_part_72 : decode cX9_part 72 = .ok (.aload_n 0, 1) := by decide +kernel
theorem dX9_part_73 : decode cX9_part 73 = .ok (.getfield 81, 3) := by decide +kernel
theorem dX9_part_76 : decode cX9_part 76 = .ok (.iload_n 1, 1) := by decide +kernel
theorem dX9_part_77 : decode cX9_part 77 = .ok (.iload_n 3, 1) := by decide +kernel
theorem dX9_part_78 : decode cX9_part 78 = .ok (.ixor, 1) := by decide +kernel
theorem dX9_part_79 : decode cX9_part 79 = .ok (.iaload, 1) := by decide +kernel
theorem dX9_part_80 : decode cX9_part 80 = .ok (.ldc 151, 2) := by decide +kernel
theorem dX9_part_82 : decode cX9_part 82 = .ok (.if_icmp .ge 77, 3) := by decide +kernel
theorem dX9_part_85 : decode cX9_part 85 = .ok (.aload_n 0, 1) := by decide +kernel
theorem dX9_part_86 : decode cX9_part 86 = .ok (.getfield 81, 3) := by decide +kernel
theorem dX9_part_89 : decode cX9_part 89 = .ok (.iload_n 1, 1) := by decide +kernel
theorem dX9_part_90 : decode cX9_part 90 = .ok (.iload_n 3, 1) := by decide +kernel
theorem dX9_part_91 : decode cX9_part 91 = .ok (.ixor, 1) := by decide +kernel
theorem dX9_part_92 : decode cX9_part 92 = .ok (.iaload, 1) := by decide +kernel
theorem dX9_part_93 : decode cX9_part 93 = .ok (.iconst 1, 1) := by decide +kernel
theorem dX9_part_94 : decode cX9_part 94 = .ok (.iadd, 1) := by decide +kernel
theorem dX9_part_95 : decode cX9_part 95 = .ok (.istore 5, 2) := by decide +kernel
theorem dX9_part_97 : decode cX9_part 97 = .ok (.aload_n 0, 1) := by decide +kernel
theorem dX9_part_98 : decode cX9_part 98 = .ok (.getfield 84, 3) := by decide +kernel
theorem dX9_part_101 : decode cX9_part 101 = .ok (.iload_n 1, 1) := by decide +kernel
theorem dX9_part_102 : decode cX9_part 102 = .ok (.iload_n 3, 1) := by decide +kernel
theorem dX9_part_103 : decode cX9_part 103 = .ok (.ixor, 1) := by decide +kernel
theorem dX9_part_104 : decode cX9_part 104 = .ok (.iaload, 1) := by decide +kernel
theorem dX9_part_105 : decode cX9_part 105 = .ok (.iload 4, 2) := by decide +kernel
theorem dX9_part_107 : decode cX9_part 107 = .ok (.iadd, 1) := by decide +kernel
theorem dX9_part_108 : decode cX9_part 108 = .ok (.istore 6, 2) := by decide +kernel
theorem dX9_part_110 : decode cX9_part 110 = .ok (.iload 5, 2) := by decide +kernel
theorem dX9_part_112 : decode cX9_part 112 = .ok (.aload_n 0, 1) := by decide +kernel
theorem dX9_part_113 : decode cX9_part 113 = .ok (.getfield 81, 3) := by decide +kernel
theorem dX9_part_116 : decode cX9_part 116 = .ok (.iload_n 1, 1) := by decide +kernel
theorem dX9_part_117 : decode cX9_part 117 = .ok (.iaload, 1) := by decide +kernel
theorem dX9_part_118 : decode cX9_part 118 = .ok (.if_icmp .lt 25, 3) := by decide +kernel
theorem dX9_part_121 : decode cX9_part 121 = .ok (.iload 5, 2) := by decide +kernel
theorem dX9_part_123 : decode cX9_part 123 = .ok (.aload_n 0, 1) := by decide +kernel
theorem dX9_part_124 : decode cX9_part 124 = .ok (.getfield 81, 3) := by decide +kernel
theorem dX9_part_127 : decode cX9_part 127 = .ok (.iload_n 1, 1) := by decide +kernel
theorem dX9_part_128 : decode cX9_part 128 = .ok (.iaload, 1) := by decide +kernel
theorem dX9_part_129 : decode cX9_part 129 = .ok (.if_icmp .ne 30, 3) := by decide +kernel
theorem dX9_part_132 : decode cX9_part 132 = .ok (.iload 6, 2) := by decide +kernel
theorem dX9_part_134 : decode cX9_part 134 = .ok (.aload_n 0, 1) := by decide +kernel
theorem dX9_part_135 : decode cX9_part 135 = .ok (.getfield 84, 3) := by decide +kernel
theorem dX9_part_138 : decode cX9_part 138 = .ok (.iload_n 1, 1) := by decide +kernel
theorem dX9_part_139 : decode cX9_part 139 = .ok (.iaload, 1) := by decide +kernel
theorem dX9_part_140 : decode cX9_part 140 = .ok (.if_icmp .ge 19, 3) := by decide +kernel
theorem dX9_part_143 : decode cX9_part 143 = .ok (.aload_n 0, 1) := by decide +kernel
theorem dX9_part_144 : decode cX9_part 144 = .ok (.getfield 81, 3) := by decide +kernel
theorem dX9_part_147 : decode cX9_part 147 = .ok (.iload_n 1, 1) := by decide +kernel
theorem dX9_part_148 : decode cX9_part 148 = .ok (.iload 5, 2) := by decide +kernel
theorem dX9_part_150 : decode cX9_part 150 = .ok (.iastore, 1) := by decide +kernel
theorem dX9_part_151 : decode cX9_part 151 = .ok (.aload_n 0, 1) := by decide +kernel
theorem dX9_part_152 : decode cX9_part 152 = .ok (.getfield 84, 3) := by decide +kernel
theorem dX9_part_155 : decode cX9_part 155 = .ok (.iload_n 1, 1) := by decide +kernel
theorem dX9_part_156 : decode cX9_part 156 = .ok (.iload 6, 2) := by decide +kernel
theorem dX9_part_158 : decode cX9_part 158 = .ok (.iastore, 1) := by decide +kernel
theorem dX9_part_159 : decode cX9_part 159 = .ok (.iload_n 3, 1) := by decide +kernel
theorem dX9_part_160 : decode cX9_part 160 = .ok (.iconst 1, 1) := by decide +kernel
theorem dX9_part_161 : decode cX9_part 161 = .ok (.isub, 1) := by decide +kernel
theorem dX9_part_162 : decode cX9_part 162 = .ok (.iload_n 1, 1) := by decide +kernel
theorem dX9_part_163 : decode cX9_part 163 = .ok (.iand, 1) := by decide +kernel
theorem dX9_part_164 : decode cX9_part 164 = .ok (.istore_n 3, 1) := by decide +kernel
theorem dX9_part_165 : decode cX9_part 165 = .ok (.goto (-119), 3) := by decide +kernel
theorem dX9_part_168 : decode cX9_part 168 = .ok (.iinc 1 1, 3) := by decide +kernel
theorem dX9_part_171 : decode cX9_part 171 = .ok (.goto (-165), 3) := by decide +kernel
theorem dX9_part_174 : decode cX9_part 174 = .ok (.return_, 1) := by decide +kernel
theorem dX9_flights_0 : decode cX9_flights 0 = .ok (.aload_n 0, 1) := by decide +kernel
theorem dX9_flights_1 : decode cX9_flights 1 = .ok (.iconst 0, 1) := by decide +kernel
theorem dX9_flights_2 : decode cX9_flights 2 = .ok (.putfield 99, 3) := by decide +kernel
theorem dX9_flights_5 : decode cX9_flights 5 = .ok (.aload_n 0, 1) := by decide +kernel
theorem dX9_flights_6 : decode cX9_flights 6 = .ok (.iload_n 1, 1) := by decide +kernel
theorem dX9_flights_7 : decode cX9_flights 7 = .ok (.invokevirtual 163, 3) := by decide +kernel
theorem dX9_flights_10 : decode cX9_flights 10 = .ok (.ifCond .eq 5, 3) := by decide +kernel
theorem dX9_flights_13 : decode cX9_flights 13 = .ok (.iconst (-1), 1) := by decide +kernel
theorem dX9_flights_14 : decode cX9_flights 14 = .ok (.ireturn, 1) := by decide +kernel
theorem dX9_flights_15 : decode cX9_flights 15 = .ok (.aload_n 0, 1) := by decide +kernel
theorem dX9_flights_16 : decode cX9_flights 16 = .ok (.invokevirtual 199, 3) := by decide +kernel
theorem dX9_flights_19 : decode cX9_flights 19 = .ok (.aload_n 0, 1) := by decide +kernel
theorem dX9_flights_20 : decode cX9_flights 20 = .ok (.getfield 81, 3) := by decide +kernel
theorem dX9_flights_23 : decode cX9_flights 23 = .ok (.iload_n 1, 1) := by decide +kernel
theorem dX9_flights_24 : decode cX9_flights 24 = .ok (.iaload, 1) := by decide +kernel
theorem dX9_flights_25 : decode cX9_flights 25 = .ok (.ldc 151, 2) := by decide +kernel
theorem dX9_flights_27 : decode cX9_flights 27 = .ok (.if_icmp .lt 8, 3) := by decide +kernel
theorem dX9_flights_30 : decode cX9_flights 30 = .ok (.bipush (-9), 2) := by decide +kernel
theorem dX9_flights_32 : decode cX9_flights 32 = .ok (.goto 9, 3) := by decide +kernel
theorem dX9_flights_35 : decode cX9_flights 35 = .ok (.aload_n 0, 1) := by decide +kernel
theorem dX9_flights_36 : decode cX9_flights 36 = .ok (.getfield 81, 3) := by decide +kernel
theorem dX9_flights_39 : decode cX9_flights 39 = .ok (.iload_n 1, 1) := by decide +kernel
theorem dX9_flights_40 : decode cX9_flights 40 = .ok (.iaload, 1) := by decide +kernel
theorem dX9_flights_41 : decode cX9_flights 41 = .ok (.ireturn, 1) := by decide +kernel
theorem dX9_energy_0 : decode cX9_energy 0 = .ok (.aload_n 0, 1) := by decide +kernel
theorem dX9_energy_1 : decode cX9_energy 1 = .ok (.iconst 0, 1) := by decide +kernel
theorem dX9_energy_2 : decode cX9_energy 2 = .ok (.putfield 99, 3) := by decide +kernel
theorem dX9_energy_5 : decode cX9_energy 5 = .ok (.aload_n 0, 1) := by decide +kernel
theorem dX9_energy_6 : decode cX9_energy 6 = .ok (.iload_n 1, 1) := by decide +kernel
theorem dX9_energy_7 : decode cX9_energy 7 = .ok (.invokevirtual 163, 3) := by decide +kernel
theorem dX9_energy_10 : decode cX9_energy 10 = .ok (.ifCond .eq 5, 3) := by decide +kernel
theorem dX9_energy_13 : decode cX9_energy 13 = .ok (.iconst (-1), 1) := by decide +kernel
theorem dX9_energy_14 : decode cX9_energy 14 = .ok (.ireturn, 1) := by decide +kernel
theorem dX9_energy_15 : decode cX9_energy 15 = .ok (.aload_n 0, 1) := by decide +kernel
theorem dX9_energy_16 : decode cX9_energy 16 = .ok (.invokevirtual 199, 3) := by decide +kernel
theorem dX9_energy_19 : decode cX9_energy 19 = .ok (.aload_n 0, 1) := by decide +kernel
theorem dX9_energy_20 : decode cX9_energy 20 = .ok (.getfield 81, 3) := by decide +kernel
theorem dX9_energy_23 : decode cX9_energy 23 = .ok (.iload_n 1, 1) := by decide +kernel
theorem dX9_energy_24 : decode cX9_energy 24 = .ok (.iaload, 1) := by decide +kernel
theorem dX9_energy_25 : decode cX9_energy 25 = .ok (.ldc 151, 2) := by decide +kernel
theorem dX9_energy_27 : decode cX9_energy 27 = .ok (.if_icmp .lt 8, 3) := by decide +kernel
theorem dX9_energy_30 : decode cX9_energy 30 = .ok (.bipush (-9), 2) := by decide +kernel
theorem dX9_energy_32 : decode cX9_energy 32 = .ok (.goto 9, 3) := by decide +kernel
theorem dX9_energy_35 : decode cX9_energy 35 = .ok (.aload_n 0, 1) := by decide +kernel
theorem dX9_energy_36 : decode cX9_energy 36 = .ok (.getfield 84, 3) := by decide +kernel
theorem dX9_energy_39 : decode cX9_energy 39 = .ok (.iload_n 1, 1) := by decide +kernel
theorem dX9_energy_40 : decode cX9_energy 40 = .ok (.iaload, 1) := by decide +kernel
theorem dX9_energy_41 : decode cX9_energy 41 = .ok (.ireturn, 1) := by decide +kernel
theorem dX9_log_0 : decode cX9_log 0 = .ok (.aload_n 0, 1) := by decide +kernel
theorem dX9_log_1 : decode cX9_log 1 = .ok (.iconst 0, 1) := by decide +kernel
theorem dX9_log_2 : decode cX9_log 2 = .ok (.putfield 99, 3) := by decide +kernel
theorem dX9_log_5 : decode cX9_log 5 = .ok (.iload_n 1, 1) := by decide +kernel
theorem dX9_log_6 : decode cX9_log 6 = .ok (.iload_n 2, 1) := by decide +kernel
theorem dX9_log_7 : decode cX9_log 7 = .ok (.invokestatic 134, 3) := by decide +kernel
theorem dX9_log_10 : decode cX9_log 10 = .ok (.ifCond .ne 15, 3) := by decide +kernel
theorem dX9_log_13 : decode cX9_log 13 = .ok (.iload_n 3, 1) := by decide +kernel
theorem dX9_log_14 : decode cX9_log 14 = .ok (.i2l, 1) := by decide +kernel
theorem dX9_log_15 : decode cX9_log 15 = .ok (.lconst 0, 1) := by decide +kernel
theorem dX9_log_16 : decode cX9_log 16 = .ok (.ldc2_w 202, 3) := by decide +kernel
theorem dX9_log_19 : decode cX9_log 19 = .ok (.invokestatic 104, 3) := by decide +kernel
theorem dX9_log_22 : decode cX9_log 22 = .ok (.ifCond .ne 6, 3) := by decide +kernel
theorem dX9_log_25 : decode cX9_log 25 = .ok (.bipush (-2), 2) := by decide +kernel
theorem dX9_log_27 : decode cX9_log 27 = .ok (.ireturn, 1) := by decide +kernel
theorem dX9_log_28 : decode cX9_log 28 = .ok (.aload_n 0, 1) := by decide +kernel
theorem dX9_log_29 : decode cX9_log 29 = .ok (.getfield 204, 3) := by decide +kernel
theorem dX9_log_32 : decode cX9_log 32 = .ok (.bipush 20, 2) := by decide +kernel
theorem dX9_log_34 : decode cX9_log 34 = .ok (.if_icmp .ne 6, 3) := by decide +kernel
theorem dX9_log_37 : decode cX9_log 37 = .ok (.bipush (-4), 2) := by decide +kernel
theorem dX9_log_39 : decode cX9_log 39 = .ok (.ireturn, 1) := by decide +kernel
theorem dX9_log_40 : decode cX9_log 40 = .ok (.aload_n 0, 1) := by decide +kernel
theorem dX9_log_41 : decode cX9_log 41 = .ok (.getfield 50, 3) := by decide +kernel
theorem dX9_log_44 : decode cX9_log 44 = .ok (.aload_n 0, 1) := by decide +kernel
theorem dX9_log_45 : decode cX9_log 45 = .ok (.getfield 204, 3) := by decide +kernel
theorem dX9_log_48 : decode cX9_log 48 = .ok (.iload_n 1, 1) := by decide +kernel
theorem dX9_log_49 : decode cX9_log 49 = .ok (.iastore, 1) := by decide +kernel
theorem dX9_log_50 : decode cX9_log 50 = .ok (.aload_n 0, 1) := by decide +kernel
theorem dX9_log_51 : decode cX9_log 51 = .ok (.getfield 53, 3) := by decide +kernel
theorem dX9_log_54 : decode cX9_log 54 = .ok (.aload_n 0, 1) := by decide +kernel
theorem dX9_log_55 : decode cX9_log 55 = .ok (.getfield 204, 3) := by decide +kernel
theorem dX9_log_58 : decode cX9_log 58 = .ok (.iload_n 2, 1) := by decide +kernel
theorem dX9_log_59 : decode cX9_log 59 = .ok (.iastore, 1) := by decide +kernel
theorem dX9_log_60 : decode cX9_log 60 = .ok (.aload_n 0, 1) := by decide +kernel
theorem dX9_log_61 : decode cX9_log 61 = .ok (.getfield 56, 3) := by decide +kernel
theorem dX9_log_64 : decode cX9_log 64 = .ok (.aload_n 0, 1) := by decide +kernel
theorem dX9_log_65 : decode cX9_log 65 = .ok (.getfield 204, 3) := by decide +kernel
theorem dX9_log_68 : decode cX9_log 68 = .ok (.iload_n 3, 1) := by decide +kernel
theorem dX9_log_69 : decode cX9_log 69 = .ok (.iastore, 1) := by decide +kernel
theorem dX9_log_70 : decode cX9_log 70 = .ok (.aload_n 0, 1) := by decide +kernel
theorem dX9_log_71 : decode cX9_log 71 = .ok (.dup, 1) := by decide +kernel
theorem dX9_log_72 : decode cX9_log 72 = .ok (.getfield 204, 3) := by decide +kernel
theorem dX9_log_75 : decode cX9_log 75 = .ok (.iconst 1, 1) := by decide +kernel
theorem dX9_log_76 : decode cX9_log 76 = .ok (.iadd, 1) := by decide +kernel
theorem dX9_log_77 : decode cX9_log 77 = .ok (.putfield 204, 3) := by decide +kernel
theorem dX9_log_80 : decode cX9_log 80 = .ok (.aload_n 0, 1) := by decide +kernel
theorem dX9_log_81 : decode cX9_log 81 = .ok (.getfield 204, 3) := by decide +kernel
theorem dX9_log_84 : decode cX9_log 84 = .ok (.iconst 1, 1) := by decide +kernel
theorem dX9_log_85 : decode cX9_log 85 = .ok (.isub, 1) := by decide +kernel
theorem dX9_log_86 : decode cX9_log 86 = .ok (.ireturn, 1) := by decide +kernel
theorem dX9_isProved_0 : decode cX9_isProved 0 = .ok (.iconst 1, 1) := by decide +kernel
theorem dX9_isProved_1 : decode cX9_isProved 1 = .ok (.istore_n 3, 1) := by decide +kernel
theorem dX9_isProved_2 : decode cX9_isProved 2 = .ok (.iconst 0, 1) := by decide +kernel
theorem dX9_isProved_3 : decode cX9_isProved 3 = .ok (.istore 4, 2) := by decide +kernel
theorem dX9_isProved_5 : decode cX9_isProved 5 = .ok (.iload 4, 2) := by decide +kernel
theorem dX9_isProved_7 : decode cX9_isProved 7 = .ok (.iconst 4, 1) := by decide +kernel
theorem dX9_isProved_8 : decode cX9_isProved 8 = .ok (.if_icmp .ge 86, 3) := by decide +kernel
theorem dX9_isProved_11 : decode cX9_isProved 11 = .ok (.iload_n 3, 1) := by decide +kernel
theorem dX9_isProved_12 : decode cX9_isProved 12 = .ok (.ifCond .eq 74, 3) := by decide +kernel
theorem dX9_isProved_15 : decode cX9_isProved 15 = .ok (.aload_n 0, 1) := by decide +kernel
theorem dX9_isProved_16 : decode cX9_isProved 16 = .ok (.aload_n 0, 1) := by decide +kernel
theorem dX9_isProved_17 : decode cX9_isProved 17 = .ok (.getfield 50, 3) := by decide +kernel
theorem dX9_isProved_20 : decode cX9_isProved 20 = .ok (.iload_n 1, 1) := by decide +kernel
theorem dX9_isProved_21 : decode cX9_isProved 21 = .ok (.iaload, 1) := by decide +kernel
theorem dX9_isProved_22 : decode cX9_isProved 22 = .ok (.iload 4, 2) := by decide +kernel
theorem dX9_isProved_24 : decode cX9_isProved 24 = .ok (.iconst 2, 1) := by decide +kernel
theorem dX9_isProved_25 : decode cX9_isProved 25 = .ok (.irem, 1) := by decide +kernel
theorem dX9_isProved_26 : decode cX9_isProved 26 = .ok (.ifCond .ne 12, 3) := by decide +kernel
theorem dX9_isProved_29 : decode cX9_isProved 29 = .ok (.aload_n 0, 1) := by decide +kernel
theorem dX9_isProved_30 : decode cX9_isProved 30 = .ok (.getfield 56, 3) := by decide +kernel
theorem dX9_isProved_33 : decode cX9_isProved 33 = .ok (.iload_n 1, 1) := by decide +kernel
theorem dX9_isProved_34 : decode cX9_isProved 34 = .ok (.iaload, 1) := by decide +kernel
theorem dX9_isProved_35 : decode cX9_isProved 35 = .ok (.goto 10, 3) := by decide +kernel
theorem dX9_isProved_38 : decode cX9_isProved 38 = .ok (.aload_n 0, 1) := by decide +kernel
theorem dX9_isProved_39 : decode cX9_isProved 39 = .ok (.getfield 56, 3) := by decide +kernel
theorem dX9_isProved_42 : decode cX9_isProved 42 = .ok (.iload_n 1, 1) := by decide +kernel
theorem dX9_isProved_43 : decode cX9_isProved 43 = .ok (.iaload, 1) := by decide +kernel
theorem dX9_isProved_44 : decode cX9_isProved 44 = .ok (.ineg, 1) := by decide +kernel
theorem dX9_isProved_45 : decode cX9_isProved 45 = .ok (.iadd, 1) := by decide +kernel
theorem dX9_isProved_46 : decode cX9_isProved 46 = .ok (.aload_n 0, 1) := by decide +kernel
theorem dX9_isProved_47 : decode cX9_isProved 47 = .ok (.getfield 53, 3) := by decide +kernel
theorem dX9_isProved_50 : decode cX9_isProved 50 = .ok (.iload_n 1, 1) := by decide +kernel
theorem dX9_isProved_51 : decode cX9_isProved 51 = .ok (.iaload, 1) := by decide +kernel
theorem dX9_isProved_52 : decode cX9_isProved 52 = .ok (.iload 4, 2) := by decide +kernel
theorem dX9_isProved_54 : decode cX9_isProved 54 = .ok (.iconst 2, 1) := by decide +kernel
theorem dX9_isProved_55 : decode cX9_isProved 55 = .ok (.if_icmp .ge 12, 3) := by decide +kernel
theorem dX9_isProved_58 : decode cX9_isProved 58 = .ok (.aload_n 0, 1) := by decide +kernel
theorem dX9_isProved_59 : decode cX9_isProved 59 = .ok (.getfield 56, 3) := by decide +kernel
theorem dX9_isProved_62 : decode cX9_isProved 62 = .ok (.iload_n 1, 1) := by decide +kernel
theorem dX9_isProved_63 : decode cX9_isProved 63 = .ok (.iaload, 1) := by decide +kernel
theorem dX9_isProved_64 : decode cX9_isProved 64 = .ok (.goto 10, 3) := by decide +kernel
theorem dX9_isProved_67 : decode cX9_isProved 67 = .ok (.aload_n 0, 1) := by decide +kernel
theorem dX9_isProved_68 : decode cX9_isProved 68 = .ok (.getfield 56, 3) := by decide +kernel
theorem dX9_isProved_71 : decode cX9_isProved 71 = .ok (.iload_n 1, 1) := by decide +kernel
theorem dX9_isProved_72 : decode cX9_isProved 72 = .ok (.iaload, 1) := by decide +kernel
theorem dX9_isProved_73 : decode cX9_isProved 73 = .ok (.ineg, 1) := by decide +kernel
theorem dX9_isProved_74 : decode cX9_isProved 74 = .ok (.iadd, 1) := by decide +kernel
theorem dX9_isProved_75 : decode cX9_isProved 75 = .ok (.iload_n 2, 1) := by decide +kernel
theorem dX9_isProved_76 : decode cX9_isProved 76 = .ok (.invokevirtual 144, 3) := by decide +kernel
theorem dX9_isProved_79 : decode cX9_isProved 79 = .ok (.ifCond .eq 7, 3) := by decide +kernel
theorem dX9_isProved_82 : decode cX9_isProved 82 = .ok (.iconst 1, 1) := by decide +kernel
theorem dX9_isProved_83 : decode cX9_isProved 83 = .ok (.goto 4, 3) := by decide +kernel
theorem dX9_isProved_86 : decode cX9_isProved 86 = .ok (.iconst 0, 1) := by decide +kernel
theorem dX9_isProved_87 : decode cX9_isProved 87 = .ok (.istore_n 3, 1) := by decide +kernel
theorem dX9_isProved_88 : decode cX9_isProved 88 = .ok (.iinc 4 1, 3) := by decide +kernel
theorem dX9_isProved_91 : decode cX9_isProved 91 = .ok (.goto (-86), 3) := by decide +kernel
theorem dX9_isProved_94 : decode cX9_isProved 94 = .ok (.iload_n 3, 1) := by decide +kernel
theorem dX9_isProved_95 : decode cX9_isProved 95 = .ok (.ireturn, 1) := by decide +kernel
theorem dX9_proves_0 : decode cX9_proves 0 = .ok (.aload_n 0, 1) := by decide +kernel
theorem dX9_proves_1 : decode cX9_proves 1 = .ok (.iconst 0, 1) := by decide +kernel
theorem dX9_proves_2 : decode cX9_proves 2 = .ok (.putfield 99, 3) := by decide +kernel
theorem dX9_proves_5 : decode cX9_proves 5 = .ok (.iload_n 1, 1) := by decide +kernel
theorem dX9_proves_6 : decode cX9_proves 6 = .ok (.i2l, 1) := by decide +kernel
theorem dX9_proves_7 : decode cX9_proves 7 = .ok (.lconst 0, 1) := by decide +kernel
theorem dX9_proves_8 : decode cX9_proves 8 = .ok (.aload_n 0, 1) := by decide +kernel
theorem dX9_proves_9 : decode cX9_proves 9 = .ok (.getfield 204, 3) := by decide +kernel
theorem dX9_proves_12 : decode cX9_proves 12 = .ok (.iconst 1, 1) := by decide +kernel
theorem dX9_proves_13 : decode cX9_proves 13 = .ok (.isub, 1) := by decide +kernel
theorem dX9_proves_14 : decode cX9_proves 14 = .ok (.i2l, 1) := by decide +kernel
theorem dX9_proves_15 : decode cX9_proves 15 = .ok (.invokestatic 104, 3) := by decide +kernel
theorem dX9_proves_18 : decode cX9_proves 18 = .ok (.ifCond .eq 11, 3) := by decide +kernel
theorem dX9_proves_21 : decode cX9_proves 21 = .ok (.aload_n 0, 1) := by decide +kernel
theorem dX9_proves_22 : decode cX9_proves 22 = .ok (.iload_n 2, 1) := by decide +kernel
theorem dX9_proves_23 : decode cX9_proves 23 = .ok (.invokevirtual 140, 3) := by decide +kernel
theorem dX9_proves_26 : decode cX9_proves 26 = .ok (.ifCond .eq 7, 3) := by decide +kernel
theorem dX9_proves_29 : decode cX9_proves 29 = .ok (.iconst (-1), 1) := by decide +kernel
theorem dX9_proves_30 : decode cX9_proves 30 = .ok (.goto 17, 3) := by decide +kernel
theorem dX9_proves_33 : decode cX9_proves 33 = .ok (.aload_n 0, 1) := by decide +kernel
theorem dX9_proves_34 : decode cX9_proves 34 = .ok (.iload_n 1, 1) := by decide +kernel
theorem dX9_proves_35 : decode cX9_proves 35 = .ok (.iload_n 2, 1) := by decide +kernel
theorem dX9_proves_36 : decode cX9_proves 36 = .ok (.invokevirtual 207, 3) := by decide +kernel
theorem dX9_proves_39 : decode cX9_proves 39 = .ok (.ifCond .eq 7, 3) := by decide +kernel
theorem dX9_proves_42 : decode cX9_proves 42 = .ok (.iconst 1, 1) := by decide +kernel
theorem dX9_proves_43 : decode cX9_proves 43 = .ok (.goto 4, 3) := by decide +kernel
theorem dX9_proves_46 : decode cX9_proves 46 = .ok (.iconst 0, 1) := by decide +kernel
theorem dX9_proves_47 : decode cX9_proves 47 = .ok (.ireturn, 1) := by decide +kernel
theorem dX9_provedOf_0 : decode cX9_provedOf 0 = .ok (.iconst 0, 1) := by decide +kernel
theorem dX9_provedOf_1 : decode cX9_provedOf 1 = .ok (.istore_n 2, 1) := by decide +kernel
theorem dX9_provedOf_2 : decode cX9_provedOf 2 = .ok (.iconst 0, 1) := by decide +kernel
theorem dX9_provedOf_3 : decode cX9_provedOf 3 = .ok (.istore_n 3, 1) := by decide +kernel
theorem dX9_provedOf_4 : decode cX9_provedOf 4 = .ok (.iload_n 3, 1) := by decide +kernel
theorem dX9_provedOf_5 : decode cX9_provedOf 5 = .ok (.aload_n 0, 1) := by decide +kernel
theorem dX9_provedOf_6 : decode cX9_provedOf 6 = .ok (.getfield 204, 3) := by decide +kernel
theorem dX9_provedOf_9 : decode cX9_provedOf 9 = .ok (.if_icmp .ge 26, 3) := by decide +kernel
theorem dX9_provedOf_12 : decode cX9_provedOf 12 = .ok (.iload_n 2, 1) := by decide +kernel
theorem dX9_provedOf_13 : decode cX9_provedOf 13 = .ok (.aload_n 0, 1) := by decide +kernel
theorem dX9_provedOf_14 : decode cX9_provedOf 14 = .ok (.iload_n 3, 1) := by decide +kernel
theorem dX9_provedOf_15 : decode cX9_provedOf 15 = .ok (.iload_n 1, 1) := by decide +kernel
theorem dX9_provedOf_16 : decode cX9_provedOf 16 = .ok (.invokevirtual 207, 3) := by decide +kernel
theorem dX9_provedOf_19 : decode cX9_provedOf 19 = .ok (.ifCond .eq 7, 3) := by decide +kernel
theorem dX9_provedOf_22 : decode cX9_provedOf 22 = .ok (.iconst 1, 1) := by decide +kernel
theorem dX9_provedOf_23 : decode cX9_provedOf 23 = .ok (.goto 4, 3) := by decide +kernel
theorem dX9_provedOf_26 : decode cX9_provedOf 26 = .ok (.iconst 0, 1) := by decide +kernel
theorem dX9_provedOf_27 : decode cX9_provedOf 27 = .ok (.iadd, 1) := by decide +kernel
theorem dX9_provedOf_28 : decode cX9_provedOf 28 = .ok (.istore_n 2, 1) := by decide +kernel
theorem dX9_provedOf_29 : decode cX9_provedOf 29 = .ok (.iinc 3 1, 3) := by decide +kernel
theorem dX9_provedOf_32 : decode cX9_provedOf 32 = .ok (.goto (-28), 3) := by decide +kernel
theorem dX9_provedOf_35 : decode cX9_provedOf 35 = .ok (.iload_n 2, 1) := by decide +kernel
theorem dX9_provedOf_36 : decode cX9_provedOf 36 = .ok (.ireturn, 1) := by decide +kernel
theorem dX9_proved_0 : decode cX9_proved 0 = .ok (.aload_n 0, 1) := by decide +kernel
theorem dX9_proved_1 : decode cX9_proved 1 = .ok (.iconst 0, 1) := by decide +kernel
theorem dX9_proved_2 : decode cX9_proved 2 = .ok (.putfield 99, 3) := by decide +kernel
theorem dX9_proved_5 : decode cX9_proved 5 = .ok (.aload_n 0, 1) := by decide +kernel
theorem dX9_proved_6 : decode cX9_proved 6 = .ok (.iload_n 1, 1) := by decide +kernel
theorem dX9_proved_7 : decode cX9_proved 7 = .ok (.invokevirtual 140, 3) := by decide +kernel
theorem dX9_proved_10 : decode cX9_proved 10 = .ok (.ifCond .eq 7, 3) := by decide +kernel
theorem dX9_proved_13 : decode cX9_proved 13 = .ok (.iconst (-1), 1) := by decide +kernel
theorem dX9_proved_14 : decode cX9_proved 14 = .ok (.goto 8, 3) := by decide +kernel
theorem dX9_proved_17 : decode cX9_proved 17 = .ok (.aload_n 0, 1) := by decide +kernel
theorem dX9_proved_18 : decode cX9_proved 18 = .ok (.iload_n 1, 1) := by decide +kernel
theorem dX9_proved_19 : decode cX9_proved 19 = .ok (.invokevirtual 210, 3) := by decide +kernel
theorem dX9_proved_22 : decode cX9_proved 22 = .ok (.ireturn, 1) := by decide +kernel
theorem dX9_missing_0 : decode cX9_missing 0 = .ok (.aload_n 0, 1) := by decide +kernel
theorem dX9_missing_1 : decode cX9_missing 1 = .ok (.iconst 0, 1) := by decide +kernel
theorem dX9_missing_2 : decode cX9_missing 2 = .ok (.putfield 99, 3) := by decide +kernel
theorem dX9_missing_5 : decode cX9_missing 5 = .ok (.iload_n 2, 1) := by decide +kernel
theorem dX9_missing_6 : decode cX9_missing 6 = .ok (.i2l, 1) := by decide +kernel
theorem dX9_missing_7 : decode cX9_missing 7 = .ok (.lconst 1, 1) := by decide +kernel
theorem dX9_missing_8 : decode cX9_missing 8 = .ok (.ldc2_w 152, 3) := by decide +kernel
theorem dX9_missing_11 : decode cX9_missing 11 = .ok (.invokestatic 104, 3) := by decide +kernel
theorem dX9_missing_14 : decode cX9_missing 14 = .ok (.ifCond .ne 6, 3) := by decide +kernel
theorem dX9_missing_17 : decode cX9_missing 17 = .ok (.bipush (-2), 2) := by decide +kernel
theorem dX9_missing_19 : decode cX9_missing 19 = .ok (.ireturn, 1) := by decide +kernel
theorem dX9_missing_20 : decode cX9_missing 20 = .ok (.iconst 0, 1) := by decide +kernel
theorem dX9_missing_21 : decode cX9_missing 21 = .ok (.istore_n 3, 1) := by decide +kernel
theorem dX9_missing_22 : decode cX9_missing 22 = .ok (.iconst 0, 1) := by decide +kernel
theorem dX9_missing_23 : decode cX9_missing 23 = .ok (.istore 4, 2) := by decide +kernel
theorem dX9_missing_25 : decode cX9_missing 25 = .ok (.iload 4, 2) := by decide +kernel
theorem dX9_missing_27 : decode cX9_missing 27 = .ok (.aload_n 0, 1) := by decide +kernel
theorem dX9_missing_28 : decode cX9_missing 28 = .ok (.getfield 108, 3) := by decide +kernel
theorem dX9_missing_31 : decode cX9_missing 31 = .ok (.if_icmp .ge 30, 3) := by decide +kernel
theorem dX9_missing_34 : decode cX9_missing 34 = .ok (.aload_n 0, 1) := by decide +kernel
theorem dX9_missing_35 : decode cX9_missing 35 = .ok (.iload 4, 2) := by decide +kernel
theorem dX9_missing_37 : decode cX9_missing 37 = .ok (.invokevirtual 210, 3) := by decide +kernel
theorem dX9_missing_40 : decode cX9_missing 40 = .ok (.iload_n 2, 1) := by decide +kernel
theorem dX9_missing_41 : decode cX9_missing 41 = .ok (.if_icmp .ge 14, 3) := by decide +kernel
theorem dX9_missing_44 : decode cX9_missing 44 = .ok (.iload_n 3, 1) := by decide +kernel
theorem dX9_missing_45 : decode cX9_missing 45 = .ok (.iload_n 1, 1) := by decide +kernel
theorem dX9_missing_46 : decode cX9_missing 46 = .ok (.if_icmp .ne 6, 3) := by decide +kernel
theorem dX9_missing_49 : decode cX9_missing 49 = .ok (.iload 4, 2) := by decide +kernel
theorem dX9_missing_51 : decode cX9_missing 51 = .ok (.ireturn, 1) := by decide +kernel
theorem dX9_missing_52 : decode cX9_missing 52 = .ok (.iinc 3 1, 3) := by decide +kernel
theorem dX9_missing_55 : decode cX9_missing 55 = .ok (.iinc 4 1, 3) := by decide +kernel
theorem dX9_missing_58 : decode cX9_missing 58 = .ok (.goto (-33), 3) := by decide +kernel
theorem dX9_missing_61 : decode cX9_missing 61 = .ok (.bipush (-9), 2) := by decide +kernel
theorem dX9_missing_63 : decode cX9_missing 63 = .ok (.ireturn, 1) := by decide +kernel
theorem dX9_mark_0 : decode cX9_mark 0 = .ok (.aload_n 0, 1) := by decide +kernel
theorem dX9_mark_1 : decode cX9_mark 1 = .ok (.iconst 0, 1) := by decide +kernel
theorem dX9_mark_2 : decode cX9_mark 2 = .ok (.putfield 99, 3) := by decide +kernel
theorem dX9_mark_5 : decode cX9_mark 5 = .ok (.aload_n 0, 1) := by decide +kernel
theorem dX9_mark_6 : decode cX9_mark 6 = .ok (.iload_n 1, 1) := by decide +kernel
theorem dX9_mark_7 : decode cX9_mark 7 = .ok (.invokevirtual 140, 3) := by decide +kernel
theorem dX9_mark_10 : decode cX9_mark 10 = .ok (.ifCond .eq 5, 3) := by decide +kernel
theorem dX9_mark_13 : decode cX9_mark 13 = .ok (.iconst (-1), 1) := by decide +kernel
theorem dX9_mark_14 : decode cX9_mark 14 = .ok (.ireturn, 1) := by decide +kernel
theorem dX9_mark_15 : decode cX9_mark 15 = .ok (.iload_n 2, 1) := by decide +kernel
theorem dX9_mark_16 : decode cX9_mark 16 = .ok (.i2l, 1) := by decide +kernel
theorem dX9_mark_17 : decode cX9_mark 17 = .ok (.lconst 0, 1) := by decide +kernel
theorem dX9_mark_18 : decode cX9_mark 18 = .ok (.ldc2_w 213, 3) := by decide +kernel
theorem dX9_mark_21 : decode cX9_mark 21 = .ok (.invokestatic 104, 3) := by decide +kernel
theorem dX9_mark_24 : decode cX9_mark 24 = .ok (.ifCond .eq 28, 3) := by decide +kernel
theorem dX9_mark_27 : decode cX9_mark 27 = .ok (.iload_n 3, 1) := by decide +kernel
theorem dX9_mark_28 : decode cX9_mark 28 = .ok (.i2l, 1) := by decide +kernel
theorem dX9_mark_29 : decode cX9_mark 29 = .ok (.lconst 0, 1) := by decide +kernel
theorem dX9_mark_30 : decode cX9_mark 30 = .ok (.ldc2_w 185, 3) := by decide +kernel
theorem dX9_mark_33 : decode cX9_mark 33 = .ok (.invokestatic 104, 3) := by decide +kernel
theorem dX9_mark_36 : decode cX9_mark 36 = .ok (.ifCond .eq 16, 3) := by decide +kernel
theorem dX9_mark_39 : decode cX9_mark 39 = .ok (.iload 4, 2) := by decide +kernel
theorem dX9_mark_41 : decode cX9_mark 41 = .ok (.i2l, 1) := by decide +kernel
theorem dX9_mark_42 : decode cX9_mark 42 = .ok (.lconst 0, 1) := by decide +kernel
theorem dX9_mark_43 : decode cX9_mark 43 = .ok (.ldc2_w 181, 3) := by decide +kernel
theorem dX9_mark_46 : decode cX9_mark 46 = .ok (.invokestatic 104, 3) := by decide +kernel
theorem dX9_mark_49 : decode cX9_mark 49 = .ok (.ifCond .ne 6, 3) := by decide +kernel
theorem dX9_mark_52 : decode cX9_mark 52 = .ok (.bipush (-2), 2) := by decide +kernel
theorem dX9_mark_54 : decode cX9_mark 54 = .ok (.ireturn, 1) := by decide +kernel
theorem dX9_mark_55 : decode cX9_mark 55 = .ok (.aload_n 0, 1) := by decide +kernel
theorem dX9_mark_56 : decode cX9_mark 56 = .ok (.getfield 215, 3) := by decide +kernel
theorem dX9_mark_59 : decode cX9_mark 59 = .ok (.bipush 40, 2) := by decide +kernel
theorem dX9_mark_61 : decode cX9_mark 61 = .ok (.if_icmp .ne 6, 3) := by decide +kernel
theorem dX9_mark_64 : decode cX9_mark 64 = .ok (.bipush (-4), 2) := by decide +kernel
theorem dX9_mark_66 : decode cX9_mark 66 = .ok (.ireturn, 1) := by decide +kernel
theorem dX9_mark_67 : decode cX9_mark 67 = .ok (.aload_n 0, 1) := by decide +kernel
theorem dX9_mark_68 : decode cX9_mark 68 = .ok (.getfield 59, 3) := by decide +kernel
theorem dX9_mark_71 : decode cX9_mark 71 = .ok (.aload_n 0, 1) := by decide +kernel
theorem dX9_mark_72 : decode cX9_mark 72 = .ok (.getfield 215, 3) := by decide +kernel
theorem dX9_mark_75 : decode cX9_mark 75 = .ok (.iload_n 1, 1) := by decide +kernel
theorem dX9_mark_76 : decode cX9_mark 76 = .ok (.iastore, 1) := by decide +kernel
theorem dX9_mark_77 : decode cX9_mark 77 = .ok (.aload_n 0, 1) := by decide +kernel
theorem dX9_mark_78 : decode cX9_mark 78 = .ok (.getfield 62, 3) := by decide +kernel
theorem dX9_mark_81 : decode cX9_mark 81 = .ok (.aload_n 0, 1) := by decide +kernel
theorem dX9_mark_82 : decode cX9_mark 82 = .ok (.getfield 215, 3) := by decide +kernel
theorem dX9_mark_85 : decode cX9_mark 85 = .ok (.iload_n 2, 1) := by decide +kernel
theorem dX9_mark_86 : decode cX9_mark 86 = .ok (.iastore, 1) := by decide +kernel
theorem dX9_mark_87 : decode cX9_mark 87 = .ok (.aload_n 0, 1) := by decide +kernel
theorem dX9_mark_88 : decode cX9_mark 88 = .ok (.getfield 65, 3) := by decide +kernel
theorem dX9_mark_91 : decode cX9_mark 91 = .ok (.aload_n 0, 1) := by decide +kernel
theorem dX9_mark_92 : decode cX9_mark 92 = .ok (.getfield 215, 3) := by decide +kernel
theorem dX9_mark_95 : decode cX9_mark 95 = .ok (.iload_n 3, 1) := by decide +kernel
theorem dX9_mark_96 : decode cX9_mark 96 = .ok (.iastore, 1) := by decide +kernel
theorem dX9_mark_97 : decode cX9_mark 97 = .ok (.aload_n 0, 1) := by decide +kernel
theorem dX9_mark_98 : decode cX9_mark 98 = .ok (.getfield 68, 3) := by decide +kernel
theorem dX9_mark_101 : decode cX9_mark 101 = .ok (.aload_n 0, 1) := by decide +kernel
theorem dX9_mark_102 : decode cX9_mark 102 = .ok (.getfield 215, 3) := by decide +kernel
theorem dX9_mark_105 : decode cX9_mark 105 = .ok (.iload 4, 2) := by decide +kernel
theorem dX9_mark_107 : decode cX9_mark 107 = .ok (.iastore, 1) := by decide +kernel
theorem dX9_mark_108 : decode cX9_mark 108 = .ok (.aload_n 0, 1) := by decide +kernel
theorem dX9_mark_109 : decode cX9_mark 109 = .ok (.dup, 1) := by decide +kernel
theorem dX9_mark_110 : decode cX9_mark 110 = .ok (.getfield 215, 3) := by decide +kernel
theorem dX9_mark_113 : decode cX9_mark 113 = .ok (.iconst 1, 1) := by decide +kernel
theorem dX9_mark_114 : decode cX9_mark 114 = .ok (.iadd, 1) := by decide +kernel
theorem dX9_mark_115 : decode cX9_mark 115 = .ok (.putfield 215, 3) := by decide +kernel
theorem dX9_mark_118 : decode cX9_mark 118 = .ok (.aload_n 0, 1) := by decide +kernel
theorem dX9_mark_119 : decode cX9_mark 119 = .ok (.getfield 215, 3) := by decide +kernel
theorem dX9_mark_122 : decode cX9_mark 122 = .ok (.iconst 1, 1) := by decide +kernel
theorem dX9_mark_123 : decode cX9_mark 123 = .ok (.isub, 1) := by decide +kernel
theorem dX9_mark_124 : decode cX9_mark 124 = .ok (.ireturn, 1) := by decide +kernel
theorem dX9_wipe_0 : decode cX9_wipe 0 = .ok (.aload_n 0, 1) := by decide +kernel
theorem dX9_wipe_1 : decode cX9_wipe 1 = .ok (.iconst 0, 1) := by decide +kernel
theorem dX9_wipe_2 : decode cX9_wipe 2 = .ok (.putfield 99, 3) := by decide +kernel
theorem dX9_wipe_5 : decode cX9_wipe 5 = .ok (.iload_n 1, 1) := by decide +kernel
theorem dX9_wipe_6 : decode cX9_wipe 6 = .ok (.i2l, 1) := by decide +kernel
theorem dX9_wipe_7 : decode cX9_wipe 7 = .ok (.lconst 0, 1) := by decide +kernel
theorem dX9_wipe_8 : decode cX9_wipe 8 = .ok (.aload_n 0, 1) := by decide +kernel
theorem dX9_wipe_9 : decode cX9_wipe 9 = .ok (.getfield 215, 3) := by decide +kernel
theorem dX9_wipe_12 : decode cX9_wipe 12 = .ok (.iconst 1, 1) := by decide +kernel
theorem dX9_wipe_13 : decode cX9_wipe 13 = .ok (.isub, 1) := by decide +kernel
theorem dX9_wipe_14 : decode cX9_wipe 14 = .ok (.i2l, 1) := by decide +kernel
theorem dX9_wipe_15 : decode cX9_wipe 15 = .ok (.invokestatic 104, 3) := by decide +kernel
theorem dX9_wipe_18 : decode cX9_wipe 18 = .ok (.ifCond .ne 5, 3) := by decide +kernel
theorem dX9_wipe_21 : decode cX9_wipe 21 = .ok (.iconst (-1), 1) := by decide +kernel
theorem dX9_wipe_22 : decode cX9_wipe 22 = .ok (.ireturn, 1) := by decide +kernel
theorem dX9_wipe_23 : decode cX9_wipe 23 = .ok (.aload_n 0, 1) := by decide +kernel
theorem dX9_wipe_24 : decode cX9_wipe 24 = .ok (.getfield 71, 3) := by decide +kernel
theorem dX9_wipe_27 : decode cX9_wipe 27 = .ok (.iload_n 1, 1) := by decide +kernel
theorem dX9_wipe_28 : decode cX9_wipe 28 = .ok (.baload, 1) := by decide +kernel
theorem dX9_wipe_29 : decode cX9_wipe 29 = .ok (.ifCond .eq 6, 3) := by decide +kernel
theorem dX9_wipe_32 : decode cX9_wipe 32 = .ok (.bipush (-3), 2) := by decide +kernel
theorem dX9_wipe_34 : decode cX9_wipe 34 = .ok (.ireturn, 1) := by decide +kernel
theorem dX9_wipe_35 : decode cX9_wipe 35 = .ok (.aload_n 0, 1) := by decide +kernel
theorem dX9_wipe_36 : decode cX9_wipe 36 = .ok (.getfield 71, 3) := by decide +kernel
theorem dX9_wipe_39 : decode cX9_wipe 39 = .ok (.iload_n 1, 1) := by decide +kernel
theorem dX9_wipe_40 : decode cX9_wipe 40 = .ok (.iconst 1, 1) := by decide +kernel
theorem dX9_wipe_41 : decode cX9_wipe 41 = .ok (.bastore, 1) := by decide +kernel
theorem dX9_wipe_42 : decode cX9_wipe 42 = .ok (.iconst 1, 1) := by decide +kernel
theorem dX9_wipe_43 : decode cX9_wipe 43 = .ok (.ireturn, 1) := by decide +kernel
theorem dX9_isOn_0 : decode cX9_isOn 0 = .ok (.aload_n 0, 1) := by decide +kernel
theorem dX9_isOn_1 : decode cX9_isOn 1 = .ok (.getfield 71, 3) := by decide +kernel
theorem dX9_isOn_4 : decode cX9_isOn 4 = .ok (.iload_n 1, 1) := by decide +kernel
theorem dX9_isOn_5 : decode cX9_isOn 5 = .ok (.baload, 1) := by decide +kernel
theorem dX9_isOn_6 : decode cX9_isOn 6 = .ok (.ifCond .ne 27, 3) := by decide +kernel
theorem dX9_isOn_9 : decode cX9_isOn 9 = .ok (.aload_n 0, 1) := by decide +kernel
theorem dX9_isOn_10 : decode cX9_isOn 10 = .ok (.getfield 59, 3) := by decide +kernel
theorem dX9_isOn_13 : decode cX9_isOn 13 = .ok (.iload_n 1, 1) := by decide +kernel
theorem dX9_isOn_14 : decode cX9_isOn 14 = .ok (.iaload, 1) := by decide +kernel
theorem dX9_isOn_15 : decode cX9_isOn 15 = .ok (.iload_n 2, 1) := by decide +kernel
theorem dX9_isOn_16 : decode cX9_isOn 16 = .ok (.if_icmp .ne 17, 3) := by decide +kernel
theorem dX9_isOn_19 : decode cX9_isOn 19 = .ok (.aload_n 0, 1) := by decide +kernel
theorem dX9_isOn_20 : decode cX9_isOn 20 = .ok (.getfield 68, 3) := by decide +kernel
theorem dX9_isOn_23 : decode cX9_isOn 23 = .ok (.iload_n 1, 1) := by decide +kernel
theorem dX9_isOn_24 : decode cX9_isOn 24 = .ok (.iaload, 1) := by decide +kernel
theorem dX9_isOn_25 : decode cX9_isOn 25 = .ok (.iload_n 3, 1) := by decide +kernel
theorem dX9_isOn_26 : decode cX9_isOn 26 = .ok (.if_icmp .ne 7, 3) := by decide +kernel
theorem dX9_isOn_29 : decode cX9_isOn 29 = .ok (.iconst 1, 1) := by decide +kernel
theorem dX9_isOn_30 : decode cX9_isOn 30 = .ok (.goto 4, 3) := by decide +kernel
theorem dX9_isOn_33 : decode cX9_isOn 33 = .ok (.iconst 0, 1) := by decide +kernel
theorem dX9_isOn_34 : decode cX9_isOn 34 = .ok (.ireturn, 1) := by decide +kernel
theorem dX9_marks_0 : decode cX9_marks 0 = .ok (.aload_n 0, 1) := by decide +kernel
theorem dX9_marks_1 : decode cX9_marks 1 = .ok (.iconst 0, 1) := by decide +kernel
theorem dX9_marks_2 : decode cX9_marks 2 = .ok (.putfield 99, 3) := by decide +kernel
theorem dX9_marks_5 : decode cX9_marks 5 = .ok (.aload_n 0, 1) := by decide +kernel
theorem dX9_marks_6 : decode cX9_marks 6 = .ok (.iload_n 1, 1) := by decide +kernel
theorem dX9_marks_7 : decode cX9_marks 7 = .ok (.invokevirtual 140, 3) := by decide +kernel
theorem dX9_marks_10 : decode cX9_marks 10 = .ok (.ifCond .eq 5, 3) := by decide +kernel
theorem dX9_marks_13 : decode cX9_marks 13 = .ok (.iconst (-1), 1) := by decide +kernel
theorem dX9_marks_14 : decode cX9_marks 14 = .ok (.ireturn, 1) := by decide +kernel
theorem dX9_marks_15 : decode cX9_marks 15 = .ok (.iload_n 2, 1) := by decide +kernel
theorem dX9_marks_16 : decode cX9_marks 16 = .ok (.i2l, 1) := by decide +kernel
theorem dX9_marks_17 : decode cX9_marks 17 = .ok (.lconst 0, 1) := by decide +kernel
theorem dX9_marks_18 : decode cX9_marks 18 = .ok (.ldc2_w 181, 3) := by decide +kernel
theorem dX9_marks_21 : decode cX9_marks 21 = .ok (.invokestatic 104, 3) := by decide +kernel
theorem dX9_marks_24 : decode cX9_marks 24 = .ok (.ifCond .ne 6, 3) := by decide +kernel
theorem dX9_marks_27 : decode cX9_marks 27 = .ok (.bipush (-2), 2) := by decide +kernel
theorem dX9_marks_29 : decode cX9_marks 29 = .ok (.ireturn, 1) := by decide +kernel
theorem dX9_marks_30 : decode cX9_marks 30 = .ok (.iconst 0, 1) := by decide +kernel
theorem dX9_marks_31 : decode cX9_marks 31 = .ok (.istore 4, 2) := by decide +kernel
theorem dX9_marks_33 : decode cX9_marks 33 = .ok (.iconst 0, 1) := by decide +kernel
theorem dX9_marks_34 : decode cX9_marks 34 = .ok (.istore 5, 2) := by decide +kernel
theorem dX9_marks_36 : decode cX9_marks 36 = .ok (.iload 5, 2) := by decide +kernel
theorem dX9_marks_38 : decode cX9_marks 38 = .ok (.aload_n 0, 1) := by decide +kernel
theorem dX9_marks_39 : decode cX9_marks 39 = .ok (.getfield 215, 3) := by decide +kernel
theorem dX9_marks_42 : decode cX9_marks 42 = .ok (.if_icmp .ge 44, 3) := by decide +kernel
theorem dX9_marks_45 : decode cX9_marks 45 = .ok (.iload 4, 2) := by decide +kernel
theorem dX9_marks_47 : decode cX9_marks 47 = .ok (.aload_n 0, 1) := by decide +kernel
theorem dX9_marks_48 : decode cX9_marks 48 = .ok (.iload 5, 2) := by decide +kernel
theorem dX9_marks_50 : decode cX9_marks 50 = .ok (.iload_n 1, 1) := by decide +kernel
theorem dX9_marks_51 : decode cX9_marks 51 = .ok (.iload_n 2, 1) := by decide +kernel
theorem dX9_marks_52 : decode cX9_marks 52 = .ok (.invokevirtual 218, 3) := by decide +kernel
theorem dX9_marks_55 : decode cX9_marks 55 = .ok (.ifCond .eq 21, 3) := by decide +kernel
theorem dX9_marks_58 : decode cX9_marks 58 = .ok (.iload_n 3, 1) := by decide +kernel
theorem dX9_marks_59 : decode cX9_marks 59 = .ok (.ifCond .eq 13, 3) := by decide +kernel
theorem dX9_marks_62 : decode cX9_marks 62 = .ok (.aload_n 0, 1) := by decide +kernel
theorem dX9_marks_63 : decode cX9_marks 63 = .ok (.getfield 65, 3) := by decide +kernel
theorem dX9_marks_66 : decode cX9_marks 66 = .ok (.iload 5, 2) := by decide +kernel
theorem dX9_marks_68 : decode cX9_marks 68 = .ok (.iaload, 1) := by decide +kernel
theorem dX9_marks_69 : decode cX9_marks 69 = .ok (.goto 8, 3) := by decide +kernel
theorem dX9_marks_72 : decode cX9_marks 72 = .ok (.iconst 1, 1) := by decide +kernel
theorem dX9_marks_73 : decode cX9_marks 73 = .ok (.goto 4, 3) := by decide +kernel
theorem dX9_marks_76 : decode cX9_marks 76 = .ok (.iconst 0, 1) := by decide +kernel
theorem dX9_marks_77 : decode cX9_marks 77 = .ok (.iadd, 1) := by decide +kernel
theorem dX9_marks_78 : decode cX9_marks 78 = .ok (.istore 4, 2) := by decide +kernel
theorem dX9_marks_80 : decode cX9_marks 80 = .ok (.iinc 5 1, 3) := by decide +kernel
theorem dX9_marks_83 : decode cX9_marks 83 = .ok (.goto (-47), 3) := by decide +kernel
theorem dX9_marks_86 : decode cX9_marks 86 = .ok (.iload 4, 2) := by decide +kernel
theorem dX9_marks_88 : decode cX9_marks 88 = .ok (.ireturn, 1) := by decide +kernel
theorem dX9_placed_0 : decode cX9_placed 0 = .ok (.iconst 0, 1) := by decide +kernel
theorem dX9_placed_1 : decode cX9_placed 1 = .ok (.istore 4, 2) := by decide +kernel
theorem dX9_placed_3 : decode cX9_placed 3 = .ok (.iconst 0, 1) := by decide +kernel
theorem dX9_placed_4 : decode cX9_placed 4 = .ok (.istore 5, 2) := by decide +kernel
theorem dX9_placed_6 : decode cX9_placed 6 = .ok (.iload 5, 2) := by decide +kernel
theorem dX9_placed_8 : decode cX9_placed 8 = .ok (.aload_n 0, 1) := by decide +kernel
theorem dX9_placed_9 : decode cX9_placed 9 = .ok (.getfield 215, 3) := by decide +kernel
theorem dX9_placed_12 : decode cX9_placed 12 = .ok (.if_icmp .ge 75, 3) := by decide +kernel
theorem dX9_placed_15 : decode cX9_placed 15 = .ok (.aload_n 0, 1) := by decide +kernel
theorem dX9_placed_16 : decode cX9_placed 16 = .ok (.iload 5, 2) := by decide +kernel
theorem dX9_placed_18 : decode cX9_placed 18 = .ok (.iload_n 1, 1) := by decide +kernel
theorem dX9_placed_19 : decode cX9_placed 19 = .ok (.iload_n 2, 1) := by decide +kernel
theorem dX9_placed_20 : decode cX9_placed 20 = .ok (.invokevirtual 218, 3) := by decide +kernel
theorem dX9_placed_23 : decode cX9_placed 23 = .ok (.ifCond .eq 58, 3) := by decide +kernel
theorem dX9_placed_26 : decode cX9_placed 26 = .ok (.iload 4, 2) := by decide +kernel
theorem dX9_placed_28 : decode cX9_placed 28 = .ok (.istore 6, 2) := by decide +kernel
theorem dX9_placed_30 : decode cX9_placed 30 = .ok (.iload 6, 2) := by decide +kernel
theorem dX9_placed_32 : decode cX9_placed 32 = .ok (.ifCond .le 35, 3) := by decide +kernel
theorem dX9_placed_35 : decode cX9_placed 35 = .ok (.aload_n 3, 1) := by decide +kernel
theorem dX9_placed_36 : decode cX9_placed 36 = .ok (.iload 6, 2) := by decide +kernel
theorem dX9_placed_38 : decode cX9_placed 38 = .ok (.iconst 1, 1) := by decide +kernel
theorem dX9_placed_39 : decode cX9_placed 39 = .ok (.isub, 1) := by decide +kernel
theorem dX9_placed_40 : decode cX9_placed 40 = .ok (.iaload, 1) := by decide +kernel
theorem dX9_placed_41 : decode cX9_placed 41 = .ok (.aload_n 0, 1) := by decide +kernel
theorem dX9_placed_42 : decode cX9_placed 42 = .ok (.getfield 62, 3) := by decide +kernel
theorem dX9_placed_45 : decode cX9_placed 45 = .ok (.iload 5, 2) := by decide +kernel
theorem dX9_placed_47 : decode cX9_placed 47 = .ok (.iaload, 1) := by decide +kernel
theorem dX9_placed_48 : decode cX9_placed 48 = .ok (.if_icmp .le 19, 3) := by decide +kernel
theorem dX9_placed_51 : decode cX9_placed 51 = .ok (.aload_n 3, 1) := by decide +kernel
theorem dX9_placed_52 : decode cX9_placed 52 = .ok (.iload 6, 2) := by decide +kernel
theorem dX9_placed_54 : decode cX9_placed 54 = .ok (.aload_n 3, 1) := by decide +kernel
theorem dX9_placed_55 : decode cX9_placed 55 = .ok (.iload 6, 2) := by decide +kernel
theorem dX9_placed_57 : decode cX9_placed 57 = .ok (.iconst 1, 1) := by decide +kernel
theorem dX9_placed_58 : decode cX9_placed 58 = .ok (.isub, 1) := by decide +kernel
theorem dX9_placed_59 : decode cX9_placed 59 = .ok (.iaload, 1) := by decide +kernel
theorem dX9_placed_60 : decode cX9_placed 60 = .ok (.iastore, 1) := by decide +kernel
theorem dX9_placed_61 : decode cX9_placed 61 = .ok (.iinc 6 (-1), 3) := by decide +kernel
theorem dX9_placed_64 : decode cX9_placed 64 = .ok (.goto (-34), 3) := by decide +kernel
theorem dX9_placed_67 : decode cX9_placed 67 = .ok (.aload_n 3, 1) := by decide +kernel
theorem dX9_placed_68 : decode cX9_placed 68 = .ok (.iload 6, 2) := by decide +kernel
theorem dX9_placed_70 : decode cX9_placed 70 = .ok (.aload_n 0, 1) := by decide +kernel
theorem dX9_placed_71 : decode cX9_placed 71 = .ok (.getfield 62, 3) := by decide +kernel
theorem dX9_placed_74 : decode cX9_placed 74 = .ok (.iload 5, 2) := by decide +kernel
theorem dX9_placed_76 : decode cX9_placed 76 = .ok (.iaload, 1) := by decide +kernel
theorem dX9_placed_77 : decode cX9_placed 77 = .ok (.iastore, 1) := by decide +kernel
theorem dX9_placed_78 : decode cX9_placed 78 = .ok (.iinc 4 1, 3) := by decide +kernel
theorem dX9_placed_81 : decode cX9_placed 81 = .ok (.iinc 5 1, 3) := by decide +kernel
theorem dX9_placed_84 : decode cX9_placed 84 = .ok (.goto (-78), 3) := by decide +kernel
theorem dX9_placed_87 : decode cX9_placed 87 = .ok (.iload 4, 2) := by decide +kernel
theorem dX9_placed_89 : decode cX9_placed 89 = .ok (.ireturn, 1) := by decide +kernel
theorem dX9_match_0 : decode cX9_match 0 = .ok (.aload_n 0, 1) := by decide +kernel
theorem dX9_match_1 : decode cX9_match 1 = .ok (.iconst 0, 1) := by decide +kernel
theorem dX9_match_2 : decode cX9_match 2 = .ok (.putfield 99, 3) := by decide +kernel
theorem dX9_match_5 : decode cX9_match 5 = .ok (.aload_n 0, 1) := by decide +kernel
theorem dX9_match_6 : decode cX9_match 6 = .ok (.iload_n 1, 1) := by decide +kernel
theorem dX9_match_7 : decode cX9_match 7 = .ok (.invokevirtual 140, 3) := by decide +kernel
theorem dX9_match_10 : decode cX9_match 10 = .ok (.ifCond .eq 5, 3) := by decide +kernel
theorem dX9_match_13 : decode cX9_match 13 = .ok (.iconst (-1), 1) := by decide +kernel
theorem dX9_match_14 : decode cX9_match 14 = .ok (.ireturn, 1) := by decide +kernel
theorem dX9_match_15 : decode cX9_match 15 = .ok (.iload_n 2, 1) := by decide +kernel
theorem dX9_match_16 : decode cX9_match 16 = .ok (.i2l, 1) := by decide +kernel
theorem dX9_match_17 : decode cX9_match 17 = .ok (.lconst 0, 1) := by decide +kernel
theorem dX9_match_18 : decode cX9_match 18 = .ok (.ldc2_w 181, 3) := by decide +kernel
theorem dX9_match_21 : decode cX9_match 21 = .ok (.invokestatic 104, 3) := by decide +kernel
theorem dX9_match_24 : decode cX9_match 24 = .ok (.ifCond .eq 28, 3) := by decide +kernel
theorem dX9_match_27 : decode cX9_match 27 = .ok (.iload_n 3, 1) := by decide +kernel
theorem dX9_match_28 : decode cX9_match 28 = .ok (.i2l, 1) := by decide +kernel
theorem dX9_match_29 : decode cX9_match 29 = .ok (.lconst 0, 1) := by decide +kernel
theorem dX9_match_30 : decode cX9_match 30 = .ok (.ldc2_w 181, 3) := by decide +kernel
theorem dX9_match_33 : decode cX9_match 33 = .ok (.invokestatic 104, 3) := by decide +kernel
theorem dX9_match_36 : decode cX9_match 36 = .ok (.ifCond .eq 16, 3) := by decide +kernel
theorem dX9_match_39 : decode cX9_match 39 = .ok (.iload 4, 2) := by decide +kernel
theorem dX9_match_41 : decode cX9_match 41 = .ok (.i2l, 1) := by decide +kernel
theorem dX9_match_42 : decode cX9_match 42 = .ok (.lconst 0, 1) := by decide +kernel
theorem dX9_match_43 : decode cX9_match 43 = .ok (.ldc2_w 213, 3) := by decide +kernel
theorem dX9_match_46 : decode cX9_match 46 = .ok (.invokestatic 104, 3) := by decide +kernel
theorem dX9_match_49 : decode cX9_match 49 = .ok (.ifCond .ne 6, 3) := by decide +kernel
theorem dX9_match_52 : decode cX9_match 52 = .ok (.bipush (-2), 2) := by decide +kernel
theorem dX9_match_54 : decode cX9_match 54 = .ok (.ireturn, 1) := by decide +kernel
theorem dX9_match_55 : decode cX9_match 55 = .ok (.iload_n 2, 1) := by decide +kernel
theorem dX9_match_56 : decode cX9_match 56 = .ok (.iload_n 3, 1) := by decide +kernel
theorem dX9_match_57 : decode cX9_match 57 = .ok (.if_icmp .ne 6, 3) := by decide +kernel
theorem dX9_match_60 : decode cX9_match 60 = .ok (.bipush (-3), 2) := by decide +kernel
theorem dX9_match_62 : decode cX9_match 62 = .ok (.ireturn, 1) := by decide +kernel
theorem dX9_match_63 : decode cX9_match 63 = .ok (.aload_n 0, 1) := by decide +kernel
theorem dX9_match_64 : decode cX9_match 64 = .ok (.iload_n 1, 1) := by decide +kernel
theorem dX9_match_65 : decode cX9_match 65 = .ok (.iload_n 2, 1) := by decide +kernel
theorem dX9_match_66 : decode cX9_match 66 = .ok (.aload_n 0, 1) := by decide +kernel
theorem dX9_match_67 : decode cX9_match 67 = .ok (.getfield 87, 3) := by decide +kernel
theorem dX9_match_70 : decode cX9_match 70 = .ok (.invokevirtual 221, 3) := by decide +kernel
theorem dX9_match_73 : decode cX9_match 73 = .ok (.istore 6, 2) := by decide +kernel
theorem dX9_match_75 : decode cX9_match 75 = .ok (.aload_n 0, 1) := by decide +kernel
theorem dX9_match_76 : decode cX9_match 76 = .ok (.iload_n 1, 1) := by decide +kernel
theorem dX9_match_77 : decode cX9_match 77 = .ok (.iload_n 3, 1) := by decide +kernel
theorem dX9_match_78 : decode cX9_match 78 = .ok (.aload_n 0, 1) := by decide +kernel
theorem dX9_match_79 : decode cX9_match 79 = .ok (.getfield 90, 3) := by decide +kernel
theorem dX9_match_82 : decode cX9_match 82 = .ok (.invokevirtual 221, 3) := by decide +kernel
theorem dX9_match_85 : decode cX9_match 85 = .ok (.istore 7, 2) := by decide +kernel
theorem dX9_match_87 : decode cX9_match 87 = .ok (.iconst 0, 1) := by decide +kernel
theorem dX9_match_88 : decode cX9_match 88 = .ok (.istore 8, 2) := by decide +kernel
theorem dX9_match_90 : decode cX9_match 90 = .ok (.iload 8, 2) := by decide +kernel
theorem dX9_match_92 : decode cX9_match 92 = .ok (.iload 6, 2) := by decide +kernel
theorem dX9_match_94 : decode cX9_match 94 = .ok (.if_icmp .gt 158, 3) := by decide +kernel
theorem dX9_match_97 : decode cX9_match 97 = .ok (.iconst 0, 1) := by decide +kernel
theorem dX9_match_98 : decode cX9_match 98 = .ok (.istore 9, 2) := by decide +kernel
theorem dX9_match_100 : decode cX9_match 100 = .ok (.iload 9, 2) := by decide +kernel
theorem dX9_match_102 : decode cX9_match 102 = .ok (.iload 7, 2) := by decide +kernel
theorem dX9_match_104 : decode cX9_match 104 = .ok (.if_icmp .gt 142, 3) := by decide +kernel
theorem dX9_match_107 : decode cX9_match 107 = .ok (.bipush 41, 2) := by decide +kernel
theorem dX9_match_109 : decode cX9_match 109 = .ok (.iload 8, 2) := by decide +kernel
theorem dX9_match_111 : decode cX9_match 111 = .ok (.imul, 1) := by decide +kernel
theorem dX9_match_112 : decode cX9_match 112 = .ok (.iload 9, 2) := by decide +kernel
theorem dX9_match_114 : decode cX9_match 114 = .ok (.iadd, 1) := by decide +kernel
theorem dX9_match_115 : decode cX9_match 115 = .ok (.istore 10, 2) := by decide +kernel
theorem dX9_match_117 : decode cX9_match 117 = .ok (.aload_n 0, 1) := by decide +kernel
theorem dX9_match_118 : decode cX9_match 118 = .ok (.getfield 93, 3) := by decide +kernel
theorem dX9_match_121 : decode cX9_match 121 = .ok (.iload 10, 2) := by decide +kernel
theorem dX9_match_123 : decode cX9_match 123 = .ok (.iconst 0, 1) := by decide +kernel
theorem dX9_match_124 : decode cX9_match 124 = .ok (.iastore, 1) := by decide +kernel
theorem dX9_match_125 : decode cX9_match 125 = .ok (.aload_n 0, 1) := by decide +kernel
theorem dX9_match_126 : decode cX9_match 126 = .ok (.getfield 96, 3) := by decide +kernel
theorem dX9_match_129 : decode cX9_match 129 = .ok (.iload 10, 2) := by decide +kernel
theorem dX9_match_131 : decode cX9_match 131 = .ok (.iconst 0, 1) := by decide +kernel
theorem dX9_match_132 : decode cX9_match 132 = .ok (.iastore, 1) := by decide +kernel
theorem dX9_match_133 : decode cX9_match 133 = .ok (.iload 8, 2) := by decide +kernel
theorem dX9_match_135 : decode cX9_match 135 = .ok (.ifCond .le 16, 3) := by decide +kernel
theorem dX9_match_138 : decode cX9_match 138 = .ok (.aload_n 0, 1) := by decide +kernel
theorem dX9_match_139 : decode cX9_match 139 = .ok (.iload 10, 2) := by decide +kernel
theorem dX9_match_141 : decode cX9_match 141 = .ok (.iload 10, 2) := by decide +kernel
theorem dX9_match_143 : decode cX9_match 143 = .ok (.bipush 41, 2) := by decide +kernel
theorem dX9_match_145 : decode cX9_match 145 = .ok (.isub, 1) := by decide +kernel
theorem dX9_match_146 : decode cX9_match 146 = .ok (.iconst 0, 1) := by decide +kernel
theorem dX9_match_147 : decode cX9_match 147 = .ok (.iconst 0, 1) := by decide +kernel
theorem dX9_match_148 : decode cX9_match 148 = .ok (.invokevirtual 225, 3) := by decide +kernel
theorem dX9_match_151 : decode cX9_match 151 = .ok (.iload 9, 2) := by decide +kernel
theorem dX9_match_153 : decode cX9_match 153 = .ok (.ifCond .le 15, 3) := by decide +kernel
theorem dX9_match_156 : decode cX9_match 156 = .ok (.aload_n 0, 1) := by decide +kernel
theorem dX9_match_157 : decode cX9_match 157 = .ok (.iload 10, 2) := by decide +kernel
theorem dX9_match_159 : decode cX9_match 159 = .ok (.iload 10, 2) := by decide +kernel
theorem dX9_match_161 : decode cX9_match 161 = .ok (.iconst 1, 1) := by decide +kernel
theorem dX9_match_162 : decode cX9_match 162 = .ok (.isub, 1) := by decide +kernel
theorem dX9_match_163 : decode cX9_match 163 = .ok (.iconst 0, 1) := by decide +kernel
theorem dX9_match_164 : decode cX9_match 164 = .ok (.iconst 0, 1) := by decide +kernel
theorem dX9_match_165 : decode cX9_match 165 = .ok (.invokevirtual 225, 3) := by decide +kernel
theorem dX9_match_168 : decode cX9_match 168 = .ok (.iload 8, 2) := by decide +kernel
theorem dX9_match_170 : decode cX9_match 170 = .ok (.ifCond .le 30, 3) := by decide +kernel
theorem dX9_match_173 : decode cX9_match 173 = .ok (.iload 9, 2) := by decide +kernel
theorem dX9_match_175 : decode cX9_match 175 = .ok (.ifCond .le 25, 3) := by decide +kernel
theorem dX9_match_178 : decode cX9_match 178 = .ok (.aload_n 0, 1) := by decide +kernel
theorem dX9_match_179 : decode cX9_match 179 = .ok (.getfield 87, 3) := by decide +kernel
theorem dX9_match_182 : decode cX9_match 182 = .ok (.iload 8, 2) := by decide +kernel
theorem dX9_match_184 : decode cX9_match 184 = .ok (.iconst 1, 1) := by decide +kernel
theorem dX9_match_185 : decode cX9_match 185 = .ok (.isub, 1) := by decide +kernel
theorem dX9_match_186 : decode cX9_match 186 = .ok (.iaload, 1) := by decide +kernel
theorem dX9_match_187 : decode cX9_match 187 = .ok (.aload_n 0, 1) := by decide +kernel
theorem dX9_match_188 : decode cX9_match 188 = .ok (.getfield 90, 3) := by decide +kernel
theorem dX9_match_191 : decode cX9_match 191 = .ok (.iload 9, 2) := by decide +kernel
theorem dX9_match_193 : decode cX9_match 193 = .ok (.iconst 1, 1) := by decide +kernel
theorem dX9_match_194 : decode cX9_match 194 = .ok (.isub, 1) := by decide +kernel
theorem dX9_match_195 : decode cX9_match 195 = .ok (.iaload, 1) := by decide +kernel
theorem dX9_match_196 : decode cX9_match 196 = .ok (.isub, 1) := by decide +kernel
theorem dX9_match_197 : decode cX9_match 197 = .ok (.goto 5, 3) := by decide +kernel
theorem dX9_match_200 : decode cX9_match 200 = .ok (.ldc 151, 2) := by decide +kernel
theorem dX9_match_202 : decode cX9_match 202 = .ok (.istore 11, 2) := by decide +kernel
theorem dX9_match_204 : decode cX9_match 204 = .ok (.iload 11, 2) := by decide +kernel
theorem dX9_match_206 : decode cX9_match 206 = .ok (.ifCond .ge 9, 3) := by decide +kernel
theorem dX9_match_209 : decode cX9_match 209 = .ok (.iload 11, 2) := by decide +kernel
theorem dX9_match_211 : decode cX9_match 211 = .ok (.ineg, 1) := by decide +kernel
theorem dX9_match_212 : decode cX9_match 212 = .ok (.goto 5, 3) := by decide +kernel
theorem dX9_match_215 : decode cX9_match 215 = .ok (.iload 11, 2) := by decide +kernel
theorem dX9_match_217 : decode cX9_match 217 = .ok (.istore 11, 2) := by decide +kernel
theorem dX9_match_219 : decode cX9_match 219 = .ok (.iload 11, 2) := by decide +kernel
theorem dX9_match_221 : decode cX9_match 221 = .ok (.iload 4, 2) := by decide +kernel
theorem dX9_match_223 : decode cX9_match 223 = .ok (.if_icmp .gt 17, 3) := by decide +kernel
theorem dX9_match_226 : decode cX9_match 226 = .ok (.aload_n 0, 1) := by decide +kernel
theorem dX9_match_227 : decode cX9_match 227 = .ok (.iload 10, 2) := by decide +kernel
theorem dX9_match_229 : decode cX9_match 229 = .ok (.iload 10, 2) := by decide +kernel
theorem dX9_match_231 : decode cX9_match 231 = .ok (.bipush 42, 2) := by decide +kernel
theorem dX9_match_233 : decode cX9_match 233 = .ok (.isub, 1) := by decide +kernel
theorem dX9_match_234 : decode cX9_match 234 = .ok (.iconst 1, 1) := by decide +kernel
theorem dX9_match_235 : decode cX9_match 235 = .ok (.iload 11, 2) := by decide +kernel
theorem dX9_match_237 : decode cX9_match 237 = .ok (.invokevirtual 225, 3) := by decide +kernel
theorem dX9_match_240 : decode cX9_match 240 = .ok (.iinc 9 1, 3) := by decide +kernel
theorem dX9_match_243 : decode cX9_match 243 = .ok (.goto (-143), 3) := by decide +kernel
theorem dX9_match_246 : decode cX9_match 246 = .ok (.iinc 8 1, 3) := by decide +kernel
theorem dX9_match_249 : decode cX9_match 249 = .ok (.goto (-159), 3) := by decide +kernel
theorem dX9_match_252 : decode cX9_match 252 = .ok (.iload 5, 2) := by decide +kernel
theorem dX9_match_254 : decode cX9_match 254 = .ok (.ifCond .eq 19, 3) := by decide +kernel
theorem dX9_match_257 : decode cX9_match 257 = .ok (.aload_n 0, 1) := by decide +kernel
theorem dX9_match_258 : decode cX9_match 258 = .ok (.getfield 96, 3) := by decide +kernel
theorem dX9_match_261 : decode cX9_match 261 = .ok (.bipush 41, 2) := by decide +kernel
theorem dX9_match_263 : decode cX9_match 263 = .ok (.iload 6, 2) := by decide +kernel
theorem dX9_match_265 : decode cX9_match 265 = .ok (.imul, 1) := by decide +kernel
theorem dX9_match_266 : decode cX9_match 266 = .ok (.iload 7, 2) := by decide +kernel
theorem dX9_match_268 : decode cX9_match 268 = .ok (.iadd, 1) := by decide +kernel
theorem dX9_match_269 : decode cX9_match 269 = .ok (.iaload, 1) := by decide +kernel
theorem dX9_match_270 : decode cX9_match 270 = .ok (.goto 16, 3) := by decide +kernel
theorem dX9_match_273 : decode cX9_match 273 = .ok (.aload_n 0, 1) := by decide +kernel
theorem dX9_match_274 : decode cX9_match 274 = .ok (.getfield 93, 3) := by decide +kernel
theorem dX9_match_277 : decode cX9_match 277 = .ok (.bipush 41, 2) := by decide +kernel
theorem dX9_match_279 : decode cX9_match 279 = .ok (.iload 6, 2) := by decide +kernel
theorem dX9_match_281 : decode cX9_match 281 = .ok (.imul, 1) := by decide +kernel
theorem dX9_match_282 : decode cX9_match 282 = .ok (.iload 7, 2) := by decide +kernel
theorem dX9_match_284 : decode cX9_match 284 = .ok (.iadd, 1) := by decide +kernel
theorem dX9_match_285 : decode cX9_match 285 = .ok (.iaload, 1) := by decide +kernel
theorem dX9_match_286 : decode cX9_match 286 = .ok (.ireturn, 1) := by decide +kernel
theorem dX9_take_0 : decode cX9_take 0 = .ok (.aload_n 0, 1) := by decide +kernel
theorem dX9_take_1 : decode cX9_take 1 = .ok (.getfield 93, 3) := by decide +kernel
theorem dX9_take_4 : decode cX9_take 4 = .ok (.iload_n 2, 1) := by decide +kernel
theorem dX9_take_5 : decode cX9_take 5 = .ok (.iaload, 1) := by decide +kernel
theorem dX9_take_6 : decode cX9_take 6 = .ok (.iload_n 3, 1) := by decide +kernel
theorem dX9_take_7 : decode cX9_take 7 = .ok (.iadd, 1) := by decide +kernel
theorem dX9_take_8 : decode cX9_take 8 = .ok (.istore 5, 2) := by decide +kernel
theorem dX9_take_10 : decode cX9_take 10 = .ok (.aload_n 0, 1) := by decide +kernel
theorem dX9_take_11 : decode cX9_take 11 = .ok (.getfield 96, 3) := by decide +kernel
theorem dX9_take_14 : decode cX9_take 14 = .ok (.iload_n 2, 1) := by decide +kernel
theorem dX9_take_15 : decode cX9_take 15 = .ok (.iaload, 1) := by decide +kernel
theorem dX9_take_16 : decode cX9_take 16 = .ok (.iload 4, 2) := by decide +kernel
theorem dX9_take_18 : decode cX9_take 18 = .ok (.iadd, 1) := by decide +kernel
theorem dX9_take_19 : decode cX9_take 19 = .ok (.istore 6, 2) := by decide +kernel
theorem dX9_take_21 : decode cX9_take 21 = .ok (.iload 5, 2) := by decide +kernel
theorem dX9_take_23 : decode cX9_take 23 = .ok (.aload_n 0, 1) := by decide +kernel
theorem dX9_take_24 : decode cX9_take 24 = .ok (.getfield 93, 3) := by decide +kernel
theorem dX9_take_27 : decode cX9_take 27 = .ok (.iload_n 1, 1) := by decide +kernel
theorem dX9_take_28 : decode cX9_take 28 = .ok (.iaload, 1) := by decide +kernel
theorem dX9_take_29 : decode cX9_take 29 = .ok (.if_icmp .gt 25, 3) := by decide +kernel
theorem dX9_take_32 : decode cX9_take 32 = .ok (.iload 5, 2) := by decide +kernel
theorem dX9_take_34 : decode cX9_take 34 = .ok (.aload_n 0, 1) := by decide +kernel
theorem dX9_take_35 : decode cX9_take 35 = .ok (.getfield 93, 3) := by decide +kernel
theorem dX9_take_38 : decode cX9_take 38 = .ok (.iload_n 1, 1) := by decide +kernel
theorem dX9_take_39 : decode cX9_take 39 = .ok (.iaload, 1) := by decide +kernel
theorem dX9_take_40 : decode cX9_take 40 = .ok (.if_icmp .ne 30, 3) := by decide +kernel
theorem dX9_take_43 : decode cX9_take 43 = .ok (.iload 6, 2) := by decide +kernel
theorem dX9_take_45 : decode cX9_take 45 = .ok (.aload_n 0, 1) := by decide +kernel
theorem dX9_take_46 : decode cX9_take 46 = .ok (.getfield 96, 3) := by decide +kernel
theorem dX9_take_49 : decode cX9_take 49 = .ok (.iload_n 1, 1) := by decide +kernel
theorem dX9_take_50 : decode cX9_take 50 = .ok (.iaload, 1) := by decide +kernel
theorem dX9_take_51 : decode cX9_take 51 = .ok (.if_icmp .ge 19, 3) := by decide +kernel
theorem dX9_take_54 : decode cX9_take 54 = .ok (.aload_n 0, 1) := by decide +kernel
theorem dX9_take_55 : decode cX9_take 55 = .ok (.getfield 93, 3) := by decide +kernel
theorem dX9_take_58 : decode cX9_take 58 = .ok (.iload_n 1, 1) := by decide +kernel
theorem dX9_take_59 : decode cX9_take 59 = .ok (.iload 5, 2) := by decide +kernel
theorem dX9_take_61 : decode cX9_take 61 = .ok (.iastore, 1) := by decide +kernel
theorem dX9_take_62 : decode cX9_take 62 = .ok (.aload_n 0, 1) := by decide +kernel
theorem dX9_take_63 : decode cX9_take 63 = .ok (.getfield 96, 3) := by decide +kernel
theorem dX9_take_66 : decode cX9_take 66 = .ok (.iload_n 1, 1) := by decide +kernel
theorem dX9_take_67 : decode cX9_take 67 = .ok (.iload 6, 2) := by decide +kernel
theorem dX9_take_69 : decode cX9_take 69 = .ok (.iastore, 1) := by decide +kernel
theorem dX9_take_70 : decode cX9_take 70 = .ok (.return_, 1) := by decide +kernel
theorem dX9_count_0 : decode cX9_count 0 = .ok (.aload_n 0, 1) := by decide +kernel
theorem dX9_count_1 : decode cX9_count 1 = .ok (.iconst 0, 1) := by decide +kernel
theorem dX9_count_2 : decode cX9_count 2 = .ok (.putfield 99, 3) := by decide +kernel
theorem dX9_count_5 : decode cX9_count 5 = .ok (.iconst 0, 1) := by decide +kernel
theorem dX9_count_6 : decode cX9_count 6 = .ok (.istore_n 2, 1) := by decide +kernel
theorem dX9_count_7 : decode cX9_count 7 = .ok (.iconst 0, 1) := by decide +kernel
theorem dX9_count_8 : decode cX9_count 8 = .ok (.istore_n 3, 1) := by decide +kernel
theorem dX9_count_9 : decode cX9_count 9 = .ok (.iload_n 3, 1) := by decide +kernel
theorem dX9_count_10 : decode cX9_count 10 = .ok (.aload_n 0, 1) := by decide +kernel
theorem dX9_count_11 : decode cX9_count 11 = .ok (.getfield 215, 3) := by decide +kernel
theorem dX9_count_14 : decode cX9_count 14 = .ok (.if_icmp .ge 26, 3) := by decide +kernel
theorem dX9_count_17 : decode cX9_count 17 = .ok (.iload_n 2, 1) := by decide +kernel
theorem dX9_count_18 : decode cX9_count 18 = .ok (.aload_n 0, 1) := by decide +kernel
theorem dX9_count_19 : decode cX9_count 19 = .ok (.getfield 71, 3) := by decide +kernel
theorem dX9_count_22 : decode cX9_count 22 = .ok (.iload_n 3, 1) := by decide +kernel
theorem dX9_count_23 : decode cX9_count 23 = .ok (.baload, 1) := by decide +kernel
theorem dX9_count_24 : decode cX9_count 24 = .ok (.ifCond .eq 7, 3) := by decide +kernel
theorem dX9_count_27 : decode cX9_count 27 = .ok (.iconst 0, 1) := by decide +kernel
theorem dX9_count_28 : decode cX9_count 28 = .ok (.goto 4, 3) := by decide +kernel
theorem dX9_count_31 : decode cX9_count 31 = .ok (.iconst 1, 1) := by decide +kernel
theorem dX9_count_32 : decode cX9_count 32 = .ok (.iadd, 1) := by decide +kernel
theorem dX9_count_33 : decode cX9_count 33 = .ok (.istore_n 2, 1) := by decide +kernel
theorem dX9_count_34 : decode cX9_count 34 = .ok (.iinc 3 1, 3) := by decide +kernel
theorem dX9_count_37 : decode cX9_count 37 = .ok (.goto (-28), 3) := by decide +kernel
theorem dX9_count_40 : decode cX9_count 40 = .ok (.iload_n 1, 1) := by decide +kernel
theorem dX9_count_41 : decode cX9_count 41 = .ok (.ifCond .ne 10, 3) := by decide +kernel
theorem dX9_count_44 : decode cX9_count 44 = .ok (.aload_n 0, 1) := by decide +kernel
theorem dX9_count_45 : decode cX9_count 45 = .ok (.getfield 108, 3) := by decide +kernel
theorem dX9_count_48 : decode cX9_count 48 = .ok (.goto 50, 3) := by decide +kernel
theorem dX9_count_51 : decode cX9_count 51 = .ok (.iload_n 1, 1) := by decide +kernel
theorem dX9_count_52 : decode cX9_count 52 = .ok (.iconst 1, 1) := by decide +kernel
theorem dX9_count_53 : decode cX9_count 53 = .ok (.if_icmp .ne 10, 3) := by decide +kernel
theorem dX9_count_56 : decode cX9_count 56 = .ok (.aload_n 0, 1) := by decide +kernel
theorem dX9_count_57 : decode cX9_count 57 = .ok (.getfield 111, 3) := by decide +kernel
theorem dX9_count_60 : decode cX9_count 60 = .ok (.goto 38, 3) := by decide +kernel
theorem dX9_count_63 : decode cX9_count 63 = .ok (.iload_n 1, 1) := by decide +kernel
theorem dX9_count_64 : decode cX9_count 64 = .ok (.iconst 2, 1) := by decide +kernel
theorem dX9_count_65 : decode cX9_count 65 = .ok (.if_icmp .ne 10, 3) := by decide +kernel
theorem dX9_count_68 : decode cX9_count 68 = .ok (.aload_n 0, 1) := by decide +kernel
theorem dX9_count_69 : decode cX9_count 69 = .ok (.getfield 166, 3) := by decide +kernel
theorem dX9_count_72 : decode cX9_count 72 = .ok (.goto 26, 3) := by decide +kernel
theorem dX9_count_75 : decode cX9_count 75 = .ok (.iload_n 1, 1) := by decide +kernel
theorem dX9_count_76 : decode cX9_count 76 = .ok (.iconst 3, 1) := by decide +kernel
theorem dX9_count_77 : decode cX9_count 77 = .ok (.if_icmp .ne 10, 3) := by decide +kernel
theorem dX9_count_80 : decode cX9_count 80 = .ok (.aload_n 0, 1) := by decide +kernel
theorem dX9_count_81 : decode cX9_count 81 = .ok (.getfield 204, 3) := by decide +kernel
theorem dX9_count_84 : decode cX9_count 84 = .ok (.goto 14, 3) := by decide +kernel
theorem dX9_count_87 : decode cX9_count 87 = .ok (.iload_n 1, 1) := by decide +kernel
theorem dX9_count_88 : decode cX9_count 88 = .ok (.iconst 4, 1) := by decide +kernel
theorem dX9_count_89 : decode cX9_count 89 = .ok (.if_icmp .ne 7, 3) := by decide +kernel
theorem dX9_count_92 : decode cX9_count 92 = .ok (.iload_n 2, 1) := by decide +kernel
theorem dX9_count_93 : decode cX9_count 93 = .ok (.goto 5, 3) := by decide +kernel
theorem dX9_count_96 : decode cX9_count 96 = .ok (.bipush (-2), 2) := by decide +kernel
theorem dX9_count_98 : decode cX9_count 98 = .ok (.ireturn, 1) := by decide +kernel
end
section
theorem dX0_init_0 : decode cX0_init 0 = .ok (.aload_n 0, 1) := by decide +kernel
theorem dX0_init_1 : decode cX0_init 1 = .ok (.invokespecial 3, 3) := by decide +kernel
theorem dX0_init_4 : decode cX0_init 4 = .ok (.aload_n 0, 1) := by decide +kernel
theorem dX0_init_5 : decode cX0_init 5 = .ok (.iconst 4, 1) := by decide +kernel
theorem dX0_init_6 : decode cX0_init 6 = .ok (.newarray .int, 2) := by decide +kernel
theorem dX0_init_8 : decode cX0_init 8 = .ok (.putfield 9, 3) := by decide +kernel
theorem dX0_init_11 : decode cX0_init 11 = .ok (.aload_n 0, 1) := by decide +kernel
theorem dX0_init_12 : decode cX0_init 12 = .ok (.iconst 4, 1) := by decide +kernel
theorem dX0_init_13 : decode cX0_init 13 = .ok (.newarray .int, 2) := by decide +kernel
theorem dX0_init_15 : decode cX0_init 15 = .ok (.putfield 15, 3) := by decide +kernel
theorem dX0_init_18 : decode cX0_init 18 = .ok (.aload_n 0, 1) := by decide +kernel
theorem dX0_init_19 : decode cX0_init 19 = .ok (.iconst 4, 1) := by decide +kernel
theorem dX0_init_20 : decode cX0_init 20 = .ok (.newarray .int, 2) := by decide +kernel
theorem dX0_init_22 : decode cX0_init 22 = .ok (.putfield 18, 3) := by decide +kernel
theorem dX0_init_25 : decode cX0_init 25 = .ok (.aload_n 0, 1) := by decide +kernel
theorem dX0_init_26 : decode cX0_init 26 = .ok (.iconst 4, 1) := by decide +kernel
theorem dX0_init_27 : decode cX0_init 27 = .ok (.newarray .int, 2) := by decide +kernel
theorem dX0_init_29 : decode cX0_init 29 = .ok (.putfield 21, 3) := by decide +kernel
theorem dX0_init_32 : decode cX0_init 32 = .ok (.return_, 1) := by decide +kernel
theorem dX0_add_0 : decode cX0_add 0 = .ok (.aload_n 0, 1) := by decide +kernel
theorem dX0_add_1 : decode cX0_add 1 = .ok (.getfield 9, 3) := by decide +kernel
theorem dX0_add_4 : decode cX0_add 4 = .ok (.aload_n 0, 1) := by decide +kernel
theorem dX0_add_5 : decode cX0_add 5 = .ok (.getfield 24, 3) := by decide +kernel
theorem dX0_add_8 : decode cX0_add 8 = .ok (.iload_n 1, 1) := by decide +kernel
theorem dX0_add_9 : decode cX0_add 9 = .ok (.iastore, 1) := by decide +kernel
theorem dX0_add_10 : decode cX0_add 10 = .ok (.aload_n 0, 1) := by decide +kernel
theorem dX0_add_11 : decode cX0_add 11 = .ok (.getfield 15, 3) := by decide +kernel
theorem dX0_add_14 : decode cX0_add 14 = .ok (.aload_n 0, 1) := by decide +kernel
theorem dX0_add_15 : decode cX0_add 15 = .ok (.getfield 24, 3) := by decide +kernel
theorem dX0_add_18 : decode cX0_add 18 = .ok (.iload_n 2, 1) := by decide +kernel
theorem dX0_add_19 : decode cX0_add 19 = .ok (.iastore, 1) := by decide +kernel
theorem dX0_add_20 : decode cX0_add 20 = .ok (.aload_n 0, 1) := by decide +kernel
theorem dX0_add_21 : decode cX0_add 21 = .ok (.getfield 18, 3) := by decide +kernel
theorem dX0_add_24 : decode cX0_add 24 = .ok (.aload_n 0, 1) := by decide +kernel
theorem dX0_add_25 : decode cX0_add 25 = .ok (.getfield 24, 3) := by decide +kernel
theorem dX0_add_28 : decode cX0_add 28 = .ok (.iload_n 3, 1) := by decide +kernel
theorem dX0_add_29 : decode cX0_add 29 = .ok (.iastore, 1) := by decide +kernel
theorem dX0_add_30 : decode cX0_add 30 = .ok (.aload_n 0, 1) := by decide +kernel
theorem dX0_add_31 : decode cX0_add 31 = .ok (.getfield 21, 3) := by decide +kernel
theorem dX0_add_34 : decode cX0_add 34 = .ok (.aload_n 0, 1) := by decide +kernel
theorem dX0_add_35 : decode cX0_add 35 = .ok (.getfield 24, 3) := by decide +kernel
theorem dX0_add_38 : decode cX0_add 38 = .ok (.iload 4, 2) := by decide +kernel
theorem dX0_add_40 : decode cX0_add 40 = .ok (.iastore, 1) := by decide +kernel
theorem dX0_add_41 : decode cX0_add 41 = .ok (.aload_n 0, 1) := by decide +kernel
theorem dX0_add_42 : decode cX0_add 42 = .ok (.dup, 1) := by decide +kernel
theorem dX0_add_43 : decode cX0_add 43 = .ok (.getfield 24, 3) := by decide +kernel
theorem dX0_add_46 : decode cX0_add 46 = .ok (.iconst 1, 1) := by decide +kernel
theorem dX0_add_47 : decode cX0_add 47 = .ok (.iadd, 1) := by decide +kernel
theorem dX0_add_48 : decode cX0_add 48 = .ok (.putfield 24, 3) := by decide +kernel
theorem dX0_add_51 : decode cX0_add 51 = .ok (.return_, 1) := by decide +kernel
theorem dX0_isShut_0 : decode cX0_isShut 0 = .ok (.iconst 0, 1) := by decide +kernel
theorem dX0_isShut_1 : decode cX0_isShut 1 = .ok (.istore 5, 2) := by decide +kernel
theorem dX0_isShut_3 : decode cX0_isShut 3 = .ok (.iload 5, 2) := by decide +kernel
theorem dX0_isShut_5 : decode cX0_isShut 5 = .ok (.aload_n 0, 1) := by decide +kernel
theorem dX0_isShut_6 : decode cX0_isShut 6 = .ok (.getfield 24, 3) := by decide +kernel
theorem dX0_isShut_9 : decode cX0_isShut 9 = .ok (.if_icmp .ge 25, 3) := by decide +kernel
theorem dX0_isShut_12 : decode cX0_isShut 12 = .ok (.aload_n 0, 1) := by decide +kernel
theorem dX0_isShut_13 : decode cX0_isShut 13 = .ok (.iload 5, 2) := by decide +kernel
theorem dX0_isShut_15 : decode cX0_isShut 15 = .ok (.iload_n 1, 1) := by decide +kernel
theorem dX0_isShut_16 : decode cX0_isShut 16 = .ok (.iload_n 2, 1) := by decide +kernel
theorem dX0_isShut_17 : decode cX0_isShut 17 = .ok (.iload_n 3, 1) := by decide +kernel
theorem dX0_isShut_18 : decode cX0_isShut 18 = .ok (.iload 4, 2) := by decide +kernel
theorem dX0_isShut_20 : decode cX0_isShut 20 = .ok (.invokevirtual 28, 3) := by decide +kernel
theorem dX0_isShut_23 : decode cX0_isShut 23 = .ok (.ifCond .eq 5, 3) := by decide +kernel
theorem dX0_isShut_26 : decode cX0_isShut 26 = .ok (.iconst 1, 1) := by decide +kernel
theorem dX0_isShut_27 : decode cX0_isShut 27 = .ok (.ireturn, 1) := by decide +kernel
theorem dX0_isShut_28 : decode cX0_isShut 28 = .ok (.iinc 5 1, 3) := by decide +kernel
theorem dX0_isShut_31 : decode cX0_isShut 31 = .ok (.goto (-28), 3) := by decide +kernel
theorem dX0_isShut_34 : decode cX0_isShut 34 = .ok (.iconst 0, 1) := by decide +kernel
theorem dX0_isShut_35 : decode cX0_isShut 35 = .ok (.ireturn, 1) := by decide +kernel
theorem dX0_goesInto_0 : decode cX0_goesInto 0 = .ok (.iload_n 2, 1) := by decide +kernel
theorem dX0_goesInto_1 : decode cX0_goesInto 1 = .ok (.iload 4, 2) := by decide +kernel
theorem dX0_goesInto_3 : decode cX0_goesInto 3 = .ok (.invokestatic 32, 3) := by decide +kernel
theorem dX0_goesInto_6 : decode cX0_goesInto 6 = .ok (.aload_n 0, 1) := by decide +kernel
theorem dX0_goesInto_7 : decode cX0_goesInto 7 = .ok (.getfield 9, 3) := by decide +kernel
theorem dX0_goesInto_10 : decode cX0_goesInto 10 = .ok (.iload_n 1, 1) := by decide +kernel
theorem dX0_goesInto_11 : decode cX0_goesInto 11 = .ok (.iaload, 1) := by decide +kernel
theorem dX0_goesInto_12 : decode cX0_goesInto 12 = .ok (.if_icmp .le 48, 3) := by decide +kernel
theorem dX0_goesInto_15 : decode cX0_goesInto 15 = .ok (.iload_n 2, 1) := by decide +kernel
theorem dX0_goesInto_16 : decode cX0_goesInto 16 = .ok (.iload 4, 2) := by decide +kernel
theorem dX0_goesInto_18 : decode cX0_goesInto 18 = .ok (.invokestatic 38, 3) := by decide +kernel
theorem dX0_goesInto_21 : decode cX0_goesInto 21 = .ok (.aload_n 0, 1) := by decide +kernel
theorem dX0_goesInto_22 : decode cX0_goesInto 22 = .ok (.getfield 18, 3) := by decide +kernel
theorem dX0_goesInto_25 : decode cX0_goesInto 25 = .ok (.iload_n 1, 1) := by decide +kernel
theorem dX0_goesInto_26 : decode cX0_goesInto 26 = .ok (.iaload, 1) := by decide +kernel
theorem dX0_goesInto_27 : decode cX0_goesInto 27 = .ok (.if_icmp .ge 33, 3) := by decide +kernel
theorem dX0_goesInto_30 : decode cX0_goesInto 30 = .ok (.iload_n 3, 1) := by decide +kernel
theorem dX0_goesInto_31 : decode cX0_goesInto 31 = .ok (.iload 5, 2) := by decide +kernel
theorem dX0_goesInto_33 : decode cX0_goesInto 33 = .ok (.invokestatic 32, 3) := by decide +kernel
theorem dX0_goesInto_36 : decode cX0_goesInto 36 = .ok (.aload_n 0, 1) := by decide +kernel
theorem dX0_goesInto_37 : decode cX0_goesInto 37 = .ok (.getfield 15, 3) := by decide +kernel
theorem dX0_goesInto_40 : decode cX0_goesInto 40 = .ok (.iload_n 1, 1) := by decide +kernel
theorem dX0_goesInto_41 : decode cX0_goesInto 41 = .ok (.iaload, 1) := by decide +kernel
theorem dX0_goesInto_42 : decode cX0_goesInto 42 = .ok (.if_icmp .le 18, 3) := by decide +kernel
theorem dX0_goesInto_45 : decode cX0_goesInto 45 = .ok (.iload_n 3, 1) := by decide +kernel
theorem dX0_goesInto_46 : decode cX0_goesInto 46 = .ok (.iload 5, 2) := by decide +kernel
theorem dX0_goesInto_48 : decode cX0_goesInto 48 = .ok (.invokestatic 38, 3) := by decide +kernel
theorem dX0_goesInto_51 : decode cX0_goesInto 51 = .ok (.aload_n 0, 1) := by decide +kernel
theorem dX0_goesInto_52 : decode cX0_goesInto 52 = .ok (.getfield 21, 3) := by decide +kernel
theorem dX0_goesInto_55 : decode cX0_goesInto 55 = .ok (.iload_n 1, 1) := by decide +kernel
theorem dX0_goesInto_56 : decode cX0_goesInto 56 = .ok (.iaload, 1) := by decide +kernel
theorem dX0_goesInto_57 : decode cX0_goesInto 57 = .ok (.if_icmp .lt 5, 3) := by decide +kernel
theorem dX0_goesInto_60 : decode cX0_goesInto 60 = .ok (.iconst 0, 1) := by decide +kernel
theorem dX0_goesInto_61 : decode cX0_goesInto 61 = .ok (.ireturn, 1) := by decide +kernel
theorem dX0_goesInto_62 : decode cX0_goesInto 62 = .ok (.iload_n 2, 1) := by decide +kernel
theorem dX0_goesInto_63 : decode cX0_goesInto 63 = .ok (.iload 4, 2) := by decide +kernel
theorem dX0_goesInto_65 : decode cX0_goesInto 65 = .ok (.if_icmp .ne 11, 3) := by decide +kernel
theorem dX0_goesInto_68 : decode cX0_goesInto 68 = .ok (.iload_n 3, 1) := by decide +kernel
theorem dX0_goesInto_69 : decode cX0_goesInto 69 = .ok (.iload 5, 2) := by decide +kernel
theorem dX0_goesInto_71 : decode cX0_goesInto 71 = .ok (.if_icmp .ne 5, 3) := by decide +kernel
theorem dX0_goesInto_74 : decode cX0_goesInto 74 = .ok (.iconst 1, 1) := by decide +kernel
theorem dX0_goesInto_75 : decode cX0_goesInto 75 = .ok (.ireturn, 1) := by decide +kernel
theorem dX0_goesInto_76 : decode cX0_goesInto 76 = .ok (.iload_n 2, 1) := by decide +kernel
theorem dX0_goesInto_77 : decode cX0_goesInto 77 = .ok (.iload_n 3, 1) := by decide +kernel
theorem dX0_goesInto_78 : decode cX0_goesInto 78 = .ok (.iload 4, 2) := by decide +kernel
theorem dX0_goesInto_80 : decode cX0_goesInto 80 = .ok (.iload 5, 2) := by decide +kernel
theorem dX0_goesInto_82 : decode cX0_goesInto 82 = .ok (.aload_n 0, 1) := by decide +kernel
theorem dX0_goesInto_83 : decode cX0_goesInto 83 = .ok (.getfield 9, 3) := by decide +kernel
theorem dX0_goesInto_86 : decode cX0_goesInto 86 = .ok (.iload_n 1, 1) := by decide +kernel
theorem dX0_goesInto_87 : decode cX0_goesInto 87 = .ok (.iaload, 1) := by decide +kernel
theorem dX0_goesInto_88 : decode cX0_goesInto 88 = .ok (.aload_n 0, 1) := by decide +kernel
theorem dX0_goesInto_89 : decode cX0_goesInto 89 = .ok (.getfield 15, 3) := by decide +kernel
theorem dX0_goesInto_92 : decode cX0_goesInto 92 = .ok (.iload_n 1, 1) := by decide +kernel
theorem dX0_goesInto_93 : decode cX0_goesInto 93 = .ok (.iaload, 1) := by decide +kernel
theorem dX0_goesInto_94 : decode cX0_goesInto 94 = .ok (.invokestatic 41, 3) := by decide +kernel
theorem dX0_goesInto_97 : decode cX0_goesInto 97 = .ok (.istore 6, 2) := by decide +kernel
theorem dX0_goesInto_99 : decode cX0_goesInto 99 = .ok (.iload_n 2, 1) := by decide +kernel
theorem dX0_goesInto_100 : decode cX0_goesInto 100 = .ok (.iload_n 3, 1) := by decide +kernel
theorem dX0_goesInto_101 : decode cX0_goesInto 101 = .ok (.iload 4, 2) := by decide +kernel
theorem dX0_goesInto_103 : decode cX0_goesInto 103 = .ok (.iload 5, 2) := by decide +kernel
theorem dX0_goesInto_105 : decode cX0_goesInto 105 = .ok (.aload_n 0, 1) := by decide +kernel
theorem dX0_goesInto_106 : decode cX0_goesInto 106 = .ok (.getfield 18, 3) := by decide +kernel
theorem dX0_goesInto_109 : decode cX0_goesInto 109 = .ok (.iload_n 1, 1) := by decide +kernel
theorem dX0_goesInto_110 : decode cX0_goesInto 110 = .ok (.iaload, 1) := by decide +kernel
theorem dX0_goesInto_111 : decode cX0_goesInto 111 = .ok (.aload_n 0, 1) := by decide +kernel
theorem dX0_goesInto_112 : decode cX0_goesInto 112 = .ok (.getfield 15, 3) := by decide +kernel
theorem dX0_goesInto_115 : decode cX0_goesInto 115 = .ok (.iload_n 1, 1) := by decide +kernel
theorem dX0_goesInto_116 : decode cX0_goesInto 116 = .ok (.iaload, 1) := by decide +kernel
theorem dX0_goesInto_117 : decode cX0_goesInto 117 = .ok (.invokestatic 41, 3) := by decide +kernel
theorem dX0_goesInto_120 : decode cX0_goesInto 120 = .ok (.istore 7, 2) := by decide +kernel
theorem dX0_goesInto_122 : decode cX0_goesInto 122 = .ok (.iload_n 2, 1) := by decide +kernel
theorem dX0_goesInto_123 : decode cX0_goesInto 123 = .ok (.iload_n 3, 1) := by decide +kernel
theorem dX0_goesInto_124 : decode cX0_goesInto 124 = .ok (.iload 4, 2) := by decide +kernel
theorem dX0_goesInto_126 : decode cX0_goesInto 126 = .ok (.iload 5, 2) := by decide +kernel
theorem dX0_goesInto_128 : decode cX0_goesInto 128 = .ok (.aload_n 0, 1) := by decide +kernel
theorem dX0_goesInto_129 : decode cX0_goesInto 129 = .ok (.getfield 18, 3) := by decide +kernel
theorem dX0_goesInto_132 : decode cX0_goesInto 132 = .ok (.iload_n 1, 1) := by decide +kernel
theorem dX0_goesInto_133 : decode cX0_goesInto 133 = .ok (.iaload, 1) := by decide +kernel
theorem dX0_goesInto_134 : decode cX0_goesInto 134 = .ok (.aload_n 0, 1) := by decide +kernel
theorem dX0_goesInto_135 : decode cX0_goesInto 135 = .ok (.getfield 21, 3) := by decide +kernel
theorem dX0_goesInto_138 : decode cX0_goesInto 138 = .ok (.iload_n 1, 1) := by decide +kernel
theorem dX0_goesInto_139 : decode cX0_goesInto 139 = .ok (.iaload, 1) := by decide +kernel
theorem dX0_goesInto_140 : decode cX0_goesInto 140 = .ok (.invokestatic 41, 3) := by decide +kernel
theorem dX0_goesInto_143 : decode cX0_goesInto 143 = .ok (.istore 8, 2) := by decide +kernel
theorem dX0_goesInto_145 : decode cX0_goesInto 145 = .ok (.iload_n 2, 1) := by decide +kernel
theorem dX0_goesInto_146 : decode cX0_goesInto 146 = .ok (.iload_n 3, 1) := by decide +kernel
theorem dX0_goesInto_147 : decode cX0_goesInto 147 = .ok (.iload 4, 2) := by decide +kernel
theorem dX0_goesInto_149 : decode cX0_goesInto 149 = .ok (.iload 5, 2) := by decide +kernel
theorem dX0_goesInto_151 : decode cX0_goesInto 151 = .ok (.aload_n 0, 1) := by decide +kernel
theorem dX0_goesInto_152 : decode cX0_goesInto 152 = .ok (.getfield 9, 3) := by decide +kernel
theorem dX0_goesInto_155 : decode cX0_goesInto 155 = .ok (.iload_n 1, 1) := by decide +kernel
theorem dX0_goesInto_156 : decode cX0_goesInto 156 = .ok (.iaload, 1) := by decide +kernel
theorem dX0_goesInto_157 : decode cX0_goesInto 157 = .ok (.aload_n 0, 1) := by decide +kernel
theorem dX0_goesInto_158 : decode cX0_goesInto 158 = .ok (.getfield 21, 3) := by decide +kernel
theorem dX0_goesInto_161 : decode cX0_goesInto 161 = .ok (.iload_n 1, 1) := by decide +kernel
theorem dX0_goesInto_162 : decode cX0_goesInto 162 = .ok (.iaload, 1) := by decide +kernel
theorem dX0_goesInto_163 : decode cX0_goesInto 163 = .ok (.invokestatic 41, 3) := by decide +kernel
theorem dX0_goesInto_166 : decode cX0_goesInto 166 = .ok (.istore 9, 2) := by decide +kernel
theorem dX0_goesInto_168 : decode cX0_goesInto 168 = .ok (.iload 6, 2) := by decide +kernel
theorem dX0_goesInto_170 : decode cX0_goesInto 170 = .ok (.iload 7, 2) := by decide +kernel
theorem dX0_goesInto_172 : decode cX0_goesInto 172 = .ok (.invokestatic 38, 3) := by decide +kernel
theorem dX0_goesInto_175 : decode cX0_goesInto 175 = .ok (.iload 8, 2) := by decide +kernel
theorem dX0_goesInto_177 : decode cX0_goesInto 177 = .ok (.iload 9, 2) := by decide +kernel
theorem dX0_goesInto_179 : decode cX0_goesInto 179 = .ok (.invokestatic 38, 3) := by decide +kernel
theorem dX0_goesInto_182 : decode cX0_goesInto 182 = .ok (.invokestatic 38, 3) := by decide +kernel
theorem dX0_goesInto_185 : decode cX0_goesInto 185 = .ok (.ifCond .ge 27, 3) := by decide +kernel
theorem dX0_goesInto_188 : decode cX0_goesInto 188 = .ok (.iload 6, 2) := by decide +kernel
theorem dX0_goesInto_190 : decode cX0_goesInto 190 = .ok (.iload 7, 2) := by decide +kernel
theorem dX0_goesInto_192 : decode cX0_goesInto 192 = .ok (.invokestatic 32, 3) := by decide +kernel
theorem dX0_goesInto_195 : decode cX0_goesInto 195 = .ok (.iload 8, 2) := by decide +kernel
theorem dX0_goesInto_197 : decode cX0_goesInto 197 = .ok (.iload 9, 2) := by decide +kernel
theorem dX0_goesInto_199 : decode cX0_goesInto 199 = .ok (.invokestatic 32, 3) := by decide +kernel
theorem dX0_goesInto_202 : decode cX0_goesInto 202 = .ok (.invokestatic 32, 3) := by decide +kernel
theorem dX0_goesInto_205 : decode cX0_goesInto 205 = .ok (.ifCond .le 7, 3) := by decide +kernel
theorem dX0_goesInto_208 : decode cX0_goesInto 208 = .ok (.iconst 1, 1) := by decide +kernel
theorem dX0_goesInto_209 : decode cX0_goesInto 209 = .ok (.goto 4, 3) := by decide +kernel
theorem dX0_goesInto_212 : decode cX0_goesInto 212 = .ok (.iconst 0, 1) := by decide +kernel
theorem dX0_goesInto_213 : decode cX0_goesInto 213 = .ok (.ireturn, 1) := by decide +kernel
theorem dX0_cost_0 : decode cX0_cost 0 = .ok (.bipush 100, 2) := by decide +kernel
theorem dX0_cost_2 : decode cX0_cost 2 = .ok (.iload_n 1, 1) := by decide +kernel
theorem dX0_cost_3 : decode cX0_cost 3 = .ok (.iload_n 1, 1) := by decide +kernel
theorem dX0_cost_4 : decode cX0_cost 4 = .ok (.imul, 1) := by decide +kernel
theorem dX0_cost_5 : decode cX0_cost 5 = .ok (.iload_n 2, 1) := by decide +kernel
theorem dX0_cost_6 : decode cX0_cost 6 = .ok (.iload_n 2, 1) := by decide +kernel
theorem dX0_cost_7 : decode cX0_cost 7 = .ok (.imul, 1) := by decide +kernel
theorem dX0_cost_8 : decode cX0_cost 8 = .ok (.iadd, 1) := by decide +kernel
theorem dX0_cost_9 : decode cX0_cost 9 = .ok (.imul, 1) := by decide +kernel
theorem dX0_cost_10 : decode cX0_cost 10 = .ok (.invokestatic 45, 3) := by decide +kernel
theorem dX0_cost_13 : decode cX0_cost 13 = .ok (.istore_n 3, 1) := by decide +kernel
theorem dX0_cost_14 : decode cX0_cost 14 = .ok (.aload_n 0, 1) := by decide +kernel
theorem dX0_cost_15 : decode cX0_cost 15 = .ok (.getfield 49, 3) := by decide +kernel
theorem dX0_cost_18 : decode cX0_cost 18 = .ok (.iload_n 1, 1) := by decide +kernel
theorem dX0_cost_19 : decode cX0_cost 19 = .ok (.imul, 1) := by decide +kernel
theorem dX0_cost_20 : decode cX0_cost 20 = .ok (.aload_n 0, 1) := by decide +kernel
theorem dX0_cost_21 : decode cX0_cost 21 = .ok (.getfield 52, 3) := by decide +kernel
theorem dX0_cost_24 : decode cX0_cost 24 = .ok (.iload_n 2, 1) := by decide +kernel
theorem dX0_cost_25 : decode cX0_cost 25 = .ok (.imul, 1) := by decide +kernel
theorem dX0_cost_26 : decode cX0_cost 26 = .ok (.iadd, 1) := by decide +kernel
theorem dX0_cost_27 : decode cX0_cost 27 = .ok (.istore 4, 2) := by decide +kernel
theorem dX0_cost_29 : decode cX0_cost 29 = .ok (.iload 4, 2) := by decide +kernel
theorem dX0_cost_31 : decode cX0_cost 31 = .ok (.ifCond .ge 14, 3) := by decide +kernel
theorem dX0_cost_34 : decode cX0_cost 34 = .ok (.iload_n 3, 1) := by decide +kernel
theorem dX0_cost_35 : decode cX0_cost 35 = .ok (.iload 4, 2) := by decide +kernel
theorem dX0_cost_37 : decode cX0_cost 37 = .ok (.ineg, 1) := by decide +kernel
theorem dX0_cost_38 : decode cX0_cost 38 = .ok (.bipush 10, 2) := by decide +kernel
theorem dX0_cost_40 : decode cX0_cost 40 = .ok (.idiv, 1) := by decide +kernel
theorem dX0_cost_41 : decode cX0_cost 41 = .ok (.iadd, 1) := by decide +kernel
theorem dX0_cost_42 : decode cX0_cost 42 = .ok (.goto 4, 3) := by decide +kernel
theorem dX0_cost_45 : decode cX0_cost 45 = .ok (.iload_n 3, 1) := by decide +kernel
theorem dX0_cost_46 : decode cX0_cost 46 = .ok (.ireturn, 1) := by decide +kernel
theorem dX0_rootUp_0 : decode cX0_rootUp 0 = .ok (.iconst 0, 1) := by decide +kernel
theorem dX0_rootUp_1 : decode cX0_rootUp 1 = .ok (.istore_n 1, 1) := by decide +kernel
theorem dX0_rootUp_2 : decode cX0_rootUp 2 = .ok (.sipush 512, 3) := by decide +kernel
theorem dX0_rootUp_5 : decode cX0_rootUp 5 = .ok (.istore_n 2, 1) := by decide +kernel
theorem dX0_rootUp_6 : decode cX0_rootUp 6 = .ok (.iload_n 2, 1) := by decide +kernel
theorem dX0_rootUp_7 : decode cX0_rootUp 7 = .ok (.ifCond .le 23, 3) := by decide +kernel
theorem dX0_rootUp_10 : decode cX0_rootUp 10 = .ok (.iload_n 1, 1) := by decide +kernel
theorem dX0_rootUp_11 : decode cX0_rootUp 11 = .ok (.iload_n 2, 1) := by decide +kernel
theorem dX0_rootUp_12 : decode cX0_rootUp 12 = .ok (.iadd, 1) := by decide +kernel
theorem dX0_rootUp_13 : decode cX0_rootUp 13 = .ok (.istore_n 3, 1) := by decide +kernel
theorem dX0_rootUp_14 : decode cX0_rootUp 14 = .ok (.iload_n 3, 1) := by decide +kernel
theorem dX0_rootUp_15 : decode cX0_rootUp 15 = .ok (.iload_n 3, 1) := by decide +kernel
theorem dX0_rootUp_16 : decode cX0_rootUp 16 = .ok (.imul, 1) := by decide +kernel
theorem dX0_rootUp_17 : decode cX0_rootUp 17 = .ok (.iload_n 0, 1) := by decide +kernel
theorem dX0_rootUp_18 : decode cX0_rootUp 18 = .ok (.if_icmp .ge 5, 3) := by decide +kernel
theorem dX0_rootUp_21 : decode cX0_rootUp 21 = .ok (.iload_n 3, 1) := by decide +kernel
theorem dX0_rootUp_22 : decode cX0_rootUp 22 = .ok (.istore_n 1, 1) := by decide +kernel
theorem dX0_rootUp_23 : decode cX0_rootUp 23 = .ok (.iload_n 2, 1) := by decide +kernel
theorem dX0_rootUp_24 : decode cX0_rootUp 24 = .ok (.iconst 2, 1) := by decide +kernel
theorem dX0_rootUp_25 : decode cX0_rootUp 25 = .ok (.idiv, 1) := by decide +kernel
theorem dX0_rootUp_26 : decode cX0_rootUp 26 = .ok (.istore_n 2, 1) := by decide +kernel
theorem dX0_rootUp_27 : decode cX0_rootUp 27 = .ok (.goto (-21), 3) := by decide +kernel
theorem dX0_rootUp_30 : decode cX0_rootUp 30 = .ok (.iload_n 0, 1) := by decide +kernel
theorem dX0_rootUp_31 : decode cX0_rootUp 31 = .ok (.ifCond .le 9, 3) := by decide +kernel
theorem dX0_rootUp_34 : decode cX0_rootUp 34 = .ok (.iload_n 1, 1) := by decide +kernel
theorem dX0_rootUp_35 : decode cX0_rootUp 35 = .ok (.iconst 1, 1) := by decide +kernel
theorem dX0_rootUp_36 : decode cX0_rootUp 36 = .ok (.iadd, 1) := by decide +kernel
theorem dX0_rootUp_37 : decode cX0_rootUp 37 = .ok (.goto 4, 3) := by decide +kernel
theorem dX0_rootUp_40 : decode cX0_rootUp 40 = .ok (.iconst 0, 1) := by decide +kernel
theorem dX0_rootUp_41 : decode cX0_rootUp 41 = .ok (.ireturn, 1) := by decide +kernel
theorem dX1_init_0 : decode cX1_init 0 = .ok (.aload_n 0, 1) := by decide +kernel
theorem dX1_init_1 : decode cX1_init 1 = .ok (.invokespecial 1, 3) := by decide +kernel
theorem dX1_init_4 : decode cX1_init 4 = .ok (.aload_n 0, 1) := by decide +kernel
theorem dX1_init_5 : decode cX1_init 5 = .ok (.sipush 1000, 3) := by decide +kernel
theorem dX1_init_8 : decode cX1_init 8 = .ok (.putfield 7, 3) := by decide +kernel
theorem dX1_init_11 : decode cX1_init 11 = .ok (.return_, 1) := by decide +kernel
theorem dX2_init_0 : decode cX2_init 0 = .ok (.aload_n 0, 1) := by decide +kernel
theorem dX2_init_1 : decode cX2_init 1 = .ok (.invokespecial 3, 3) := by decide +kernel
theorem dX2_init_4 : decode cX2_init 4 = .ok (.aload_n 0, 1) := by decide +kernel
theorem dX2_init_5 : decode cX2_init 5 = .ok (.new 9, 3) := by decide +kernel
theorem dX2_init_8 : decode cX2_init 8 = .ok (.dup, 1) := by decide +kernel
theorem dX2_init_9 : decode cX2_init 9 = .ok (.bipush 20, 2) := by decide +kernel
theorem dX2_init_11 : decode cX2_init 11 = .ok (.invokespecial 11, 3) := by decide +kernel
theorem dX2_init_14 : decode cX2_init 14 = .ok (.putfield 14, 3) := by decide +kernel
theorem dX2_init_17 : decode cX2_init 17 = .ok (.aload_n 0, 1) := by decide +kernel
theorem dX2_init_18 : decode cX2_init 18 = .ok (.bipush 20, 2) := by decide +kernel
theorem dX2_init_20 : decode cX2_init 20 = .ok (.newarray .int, 2) := by decide +kernel
theorem dX2_init_22 : decode cX2_init 22 = .ok (.putfield 20, 3) := by decide +kernel
theorem dX2_init_25 : decode cX2_init 25 = .ok (.return_, 1) := by decide +kernel
theorem dX2_add_0 : decode cX2_add 0 = .ok (.aload_n 0, 1) := by decide +kernel
theorem dX2_add_1 : decode cX2_add 1 = .ok (.getfield 20, 3) := by decide +kernel
theorem dX2_add_4 : decode cX2_add 4 = .ok (.aload_n 0, 1) := by decide +kernel
theorem dX2_add_5 : decode cX2_add 5 = .ok (.getfield 14, 3) := by decide +kernel
theorem dX2_add_8 : decode cX2_add 8 = .ok (.getfield 24, 3) := by decide +kernel
theorem dX2_add_11 : decode cX2_add 11 = .ok (.iload_n 3, 1) := by decide +kernel
theorem dX2_add_12 : decode cX2_add 12 = .ok (.iastore, 1) := by decide +kernel
theorem dX2_add_13 : decode cX2_add 13 = .ok (.aload_n 0, 1) := by decide +kernel
theorem dX2_add_14 : decode cX2_add 14 = .ok (.getfield 14, 3) := by decide +kernel
theorem dX2_add_17 : decode cX2_add 17 = .ok (.iload_n 1, 1) := by decide +kernel
theorem dX2_add_18 : decode cX2_add 18 = .ok (.iload_n 2, 1) := by decide +kernel
theorem dX2_add_19 : decode cX2_add 19 = .ok (.invokevirtual 28, 3) := by decide +kernel
theorem dX2_add_22 : decode cX2_add 22 = .ok (.ireturn, 1) := by decide +kernel
theorem dX2_isProof_0 : decode cX2_isProof 0 = .ok (.aload_n 0, 1) := by decide +kernel
theorem dX2_isProof_1 : decode cX2_isProof 1 = .ok (.getfield 14, 3) := by decide +kernel
theorem dX2_isProof_4 : decode cX2_isProof 4 = .ok (.getfield 32, 3) := by decide +kernel
theorem dX2_isProof_7 : decode cX2_isProof 7 = .ok (.iload_n 1, 1) := by decide +kernel
theorem dX2_isProof_8 : decode cX2_isProof 8 = .ok (.iaload, 1) := by decide +kernel
theorem dX2_isProof_9 : decode cX2_isProof 9 = .ok (.istore 4, 2) := by decide +kernel
theorem dX2_isProof_11 : decode cX2_isProof 11 = .ok (.aload_n 0, 1) := by decide +kernel
theorem dX2_isProof_12 : decode cX2_isProof 12 = .ok (.getfield 14, 3) := by decide +kernel
theorem dX2_isProof_15 : decode cX2_isProof 15 = .ok (.getfield 35, 3) := by decide +kernel
theorem dX2_isProof_18 : decode cX2_isProof 18 = .ok (.iload_n 1, 1) := by decide +kernel
theorem dX2_isProof_19 : decode cX2_isProof 19 = .ok (.iaload, 1) := by decide +kernel
theorem dX2_isProof_20 : decode cX2_isProof 20 = .ok (.istore 5, 2) := by decide +kernel
theorem dX2_isProof_22 : decode cX2_isProof 22 = .ok (.aload_n 0, 1) := by decide +kernel
theorem dX2_isProof_23 : decode cX2_isProof 23 = .ok (.getfield 20, 3) := by decide +kernel
theorem dX2_isProof_26 : decode cX2_isProof 26 = .ok (.iload_n 1, 1) := by decide +kernel
theorem dX2_isProof_27 : decode cX2_isProof 27 = .ok (.iaload, 1) := by decide +kernel
theorem dX2_isProof_28 : decode cX2_isProof 28 = .ok (.istore 6, 2) := by decide +kernel
theorem dX2_isProof_30 : decode cX2_isProof 30 = .ok (.aload_n 2, 1) := by decide +kernel
theorem dX2_isProof_31 : decode cX2_isProof 31 = .ok (.iload 4, 2) := by decide +kernel
theorem dX2_isProof_33 : decode cX2_isProof 33 = .ok (.iload 6, 2) := by decide +kernel
theorem dX2_isProof_35 : decode cX2_isProof 35 = .ok (.isub, 1) := by decide +kernel
theorem dX2_isProof_36 : decode cX2_isProof 36 = .ok (.iload 5, 2) := by decide +kernel
theorem dX2_isProof_38 : decode cX2_isProof 38 = .ok (.iload 6, 2) := by decide +kernel
theorem dX2_isProof_40 : decode cX2_isProof 40 = .ok (.isub, 1) := by decide +kernel
theorem dX2_isProof_41 : decode cX2_isProof 41 = .ok (.iload_n 3, 1) := by decide +kernel
theorem dX2_isProof_42 : decode cX2_isProof 42 = .ok (.invokevirtual 38, 3) := by decide +kernel
theorem dX2_isProof_45 : decode cX2_isProof 45 = .ok (.ifCond .eq 61, 3) := by decide +kernel
theorem dX2_isProof_48 : decode cX2_isProof 48 = .ok (.aload_n 2, 1) := by decide +kernel
theorem dX2_isProof_49 : decode cX2_isProof 49 = .ok (.iload 4, 2) := by decide +kernel
theorem dX2_isProof_51 : decode cX2_isProof 51 = .ok (.iload 6, 2) := by decide +kernel
theorem dX2_isProof_53 : decode cX2_isProof 53 = .ok (.iadd, 1) := by decide +kernel
theorem dX2_isProof_54 : decode cX2_isProof 54 = .ok (.iload 5, 2) := by decide +kernel
theorem dX2_isProof_56 : decode cX2_isProof 56 = .ok (.iload 6, 2) := by decide +kernel
theorem dX2_isProof_58 : decode cX2_isProof 58 = .ok (.isub, 1) := by decide +kernel
theorem dX2_isProof_59 : decode cX2_isProof 59 = .ok (.iload_n 3, 1) := by decide +kernel
theorem dX2_isProof_60 : decode cX2_isProof 60 = .ok (.invokevirtual 38, 3) := by decide +kernel
theorem dX2_isProof_63 : decode cX2_isProof 63 = .ok (.ifCond .eq 43, 3) := by decide +kernel
theorem dX2_isProof_66 : decode cX2_isProof 66 = .ok (.aload_n 2, 1) := by decide +kernel
theorem dX2_isProof_67 : decode cX2_isProof 67 = .ok (.iload 4, 2) := by decide +kernel
theorem dX2_isProof_69 : decode cX2_isProof 69 = .ok (.iload 6, 2) := by decide +kernel
theorem dX2_isProof_71 : decode cX2_isProof 71 = .ok (.isub, 1) := by decide +kernel
theorem dX2_isProof_72 : decode cX2_isProof 72 = .ok (.iload 5, 2) := by decide +kernel
theorem dX2_isProof_74 : decode cX2_isProof 74 = .ok (.iload 6, 2) := by decide +kernel
theorem dX2_isProof_76 : decode cX2_isProof 76 = .ok (.iadd, 1) := by decide +kernel
theorem dX2_isProof_77 : decode cX2_isProof 77 = .ok (.iload_n 3, 1) := by decide +kernel
theorem dX2_isProof_78 : decode cX2_isProof 78 = .ok (.invokevirtual 38, 3) := by decide +kernel
theorem dX2_isProof_81 : decode cX2_isProof 81 = .ok (.ifCond .eq 25, 3) := by decide +kernel
theorem dX2_isProof_84 : decode cX2_isProof 84 = .ok (.aload_n 2, 1) := by decide +kernel
theorem dX2_isProof_85 : decode cX2_isProof 85 = .ok (.iload 4, 2) := by decide +kernel
theorem dX2_isProof_87 : decode cX2_isProof 87 = .ok (.iload 6, 2) := by decide +kernel
theorem dX2_isProof_89 : decode cX2_isProof 89 = .ok (.iadd, 1) := by decide +kernel
theorem dX2_isProof_90 : decode cX2_isProof 90 = .ok (.iload 5, 2) := by decide +kernel
theorem dX2_isProof_92 : decode cX2_isProof 92 = .ok (.iload 6, 2) := by decide +kernel
theorem dX2_isProof_94 : decode cX2_isProof 94 = .ok (.iadd, 1) := by decide +kernel
theorem dX2_isProof_95 : decode cX2_isProof 95 = .ok (.iload_n 3, 1) := by decide +kernel
theorem dX2_isProof_96 : decode cX2_isProof 96 = .ok (.invokevirtual 38, 3) := by decide +kernel
theorem dX2_isProof_99 : decode cX2_isProof 99 = .ok (.ifCond .eq 7, 3) := by decide +kernel
theorem dX2_isProof_102 : decode cX2_isProof 102 = .ok (.iconst 1, 1) := by decide +kernel
theorem dX2_isProof_103 : decode cX2_isProof 103 = .ok (.goto 4, 3) := by decide +kernel
theorem dX2_isProof_106 : decode cX2_isProof 106 = .ok (.iconst 0, 1) := by decide +kernel
theorem dX2_isProof_107 : decode cX2_isProof 107 = .ok (.ireturn, 1) := by decide +kernel
theorem dX2_proofs_0 : decode cX2_proofs 0 = .ok (.iconst 0, 1) := by decide +kernel
theorem dX2_proofs_1 : decode cX2_proofs 1 = .ok (.istore 4, 2) := by decide +kernel
theorem dX2_proofs_3 : decode cX2_proofs 3 = .ok (.iconst 0, 1) := by decide +kernel
theorem dX2_proofs_4 : decode cX2_proofs 4 = .ok (.istore 5, 2) := by decide +kernel
theorem dX2_proofs_6 : decode cX2_proofs 6 = .ok (.iload 5, 2) := by decide +kernel
theorem dX2_proofs_8 : decode cX2_proofs 8 = .ok (.aload_n 0, 1) := by decide +kernel
theorem dX2_proofs_9 : decode cX2_proofs 9 = .ok (.getfield 14, 3) := by decide +kernel
theorem dX2_proofs_12 : decode cX2_proofs 12 = .ok (.getfield 24, 3) := by decide +kernel
theorem dX2_proofs_15 : decode cX2_proofs 15 = .ok (.if_icmp .ge 29, 3) := by decide +kernel
theorem dX2_proofs_18 : decode cX2_proofs 18 = .ok (.iload 4, 2) := by decide +kernel
theorem dX2_proofs_20 : decode cX2_proofs 20 = .ok (.iload_n 3, 1) := by decide +kernel
theorem dX2_proofs_21 : decode cX2_proofs 21 = .ok (.if_icmp .ge 23, 3) := by decide +kernel
theorem dX2_proofs_24 : decode cX2_proofs 24 = .ok (.aload_n 0, 1) := by decide +kernel
theorem dX2_proofs_25 : decode cX2_proofs 25 = .ok (.iload 5, 2) := by decide +kernel
theorem dX2_proofs_27 : decode cX2_proofs 27 = .ok (.aload_n 1, 1) := by decide +kernel
theorem dX2_proofs_28 : decode cX2_proofs 28 = .ok (.iload_n 2, 1) := by decide +kernel
theorem dX2_proofs_29 : decode cX2_proofs 29 = .ok (.invokevirtual 44, 3) := by decide +kernel
theorem dX2_proofs_32 : decode cX2_proofs 32 = .ok (.ifCond .eq 6, 3) := by decide +kernel
theorem dX2_proofs_35 : decode cX2_proofs 35 = .ok (.iinc 4 1, 3) := by decide +kernel
theorem dX2_proofs_38 : decode cX2_proofs 38 = .ok (.iinc 5 1, 3) := by decide +kernel
theorem dX2_proofs_41 : decode cX2_proofs 41 = .ok (.goto (-35), 3) := by decide +kernel
theorem dX2_proofs_44 : decode cX2_proofs 44 = .ok (.iload 4, 2) := by decide +kernel
theorem dX2_proofs_46 : decode cX2_proofs 46 = .ok (.ireturn, 1) := by decide +kernel
theorem dX3_init_0 : decode cX3_init 0 = .ok (.aload_n 0, 1) := by decide +kernel
theorem dX3_init_1 : decode cX3_init 1 = .ok (.invokespecial 3, 3) := by decide +kernel
theorem dX3_init_4 : decode cX3_init 4 = .ok (.aload_n 0, 1) := by decide +kernel
theorem dX3_init_5 : decode cX3_init 5 = .ok (.bipush 12, 2) := by decide +kernel
theorem dX3_init_7 : decode cX3_init 7 = .ok (.newarray .int, 2) := by decide +kernel
theorem dX3_init_9 : decode cX3_init 9 = .ok (.putfield 9, 3) := by decide +kernel
theorem dX3_init_12 : decode cX3_init 12 = .ok (.return_, 1) := by decide +kernel
theorem dX3_watch_0 : decode cX3_watch 0 = .ok (.aload_n 0, 1) := by decide +kernel
theorem dX3_watch_1 : decode cX3_watch 1 = .ok (.aload_n 1, 1) := by decide +kernel
theorem dX3_watch_2 : decode cX3_watch 2 = .ok (.getfield 15, 3) := by decide +kernel
theorem dX3_watch_5 : decode cX3_watch 5 = .ok (.putfield 21, 3) := by decide +kernel
theorem dX3_watch_8 : decode cX3_watch 8 = .ok (.iconst 0, 1) := by decide +kernel
theorem dX3_watch_9 : decode cX3_watch 9 = .ok (.istore_n 3, 1) := by decide +kernel
theorem dX3_watch_10 : decode cX3_watch 10 = .ok (.iload_n 3, 1) := by decide +kernel
theorem dX3_watch_11 : decode cX3_watch 11 = .ok (.aload_n 0, 1) := by decide +kernel
theorem dX3_watch_12 : decode cX3_watch 12 = .ok (.getfield 21, 3) := by decide +kernel
theorem dX3_watch_15 : decode cX3_watch 15 = .ok (.if_icmp .ge 69, 3) := by decide +kernel
theorem dX3_watch_18 : decode cX3_watch 18 = .ok (.iconst 0, 1) := by decide +kernel
theorem dX3_watch_19 : decode cX3_watch 19 = .ok (.istore 4, 2) := by decide +kernel
theorem dX3_watch_21 : decode cX3_watch 21 = .ok (.iconst 0, 1) := by decide +kernel
theorem dX3_watch_22 : decode cX3_watch 22 = .ok (.istore 5, 2) := by decide +kernel
theorem dX3_watch_24 : decode cX3_watch 24 = .ok (.iload 5, 2) := by decide +kernel
theorem dX3_watch_26 : decode cX3_watch 26 = .ok (.aload_n 2, 1) := by decide +kernel
theorem dX3_watch_27 : decode cX3_watch 27 = .ok (.getfield 24, 3) := by decide +kernel
theorem dX3_watch_30 : decode cX3_watch 30 = .ok (.if_icmp .ge 40, 3) := by decide +kernel
theorem dX3_watch_33 : decode cX3_watch 33 = .ok (.aload_n 1, 1) := by decide +kernel
theorem dX3_watch_34 : decode cX3_watch 34 = .ok (.aload_n 2, 1) := by decide +kernel
theorem dX3_watch_35 : decode cX3_watch 35 = .ok (.getfield 27, 3) := by decide +kernel
theorem dX3_watch_38 : decode cX3_watch 38 = .ok (.iload 5, 2) := by decide +kernel
theorem dX3_watch_40 : decode cX3_watch 40 = .ok (.iaload, 1) := by decide +kernel
theorem dX3_watch_41 : decode cX3_watch 41 = .ok (.aload_n 2, 1) := by decide +kernel
theorem dX3_watch_42 : decode cX3_watch 42 = .ok (.getfield 30, 3) := by decide +kernel
theorem dX3_watch_45 : decode cX3_watch 45 = .ok (.iload 5, 2) := by decide +kernel
theorem dX3_watch_47 : decode cX3_watch 47 = .ok (.iaload, 1) := by decide +kernel
theorem dX3_watch_48 : decode cX3_watch 48 = .ok (.iload_n 3, 1) := by decide +kernel
theorem dX3_watch_49 : decode cX3_watch 49 = .ok (.invokevirtual 33, 3) := by decide +kernel
theorem dX3_watch_52 : decode cX3_watch 52 = .ok (.ifCond .eq 12, 3) := by decide +kernel
theorem dX3_watch_55 : decode cX3_watch 55 = .ok (.iload 4, 2) := by decide +kernel
theorem dX3_watch_57 : decode cX3_watch 57 = .ok (.iconst 1, 1) := by decide +kernel
theorem dX3_watch_58 : decode cX3_watch 58 = .ok (.iload 5, 2) := by decide +kernel
theorem dX3_watch_60 : decode cX3_watch 60 = .ok (.ishl, 1) := by decide +kernel
theorem dX3_watch_61 : decode cX3_watch 61 = .ok (.ior, 1) := by decide +kernel
theorem dX3_watch_62 : decode cX3_watch 62 = .ok (.istore 4, 2) := by decide +kernel
theorem dX3_watch_64 : decode cX3_watch 64 = .ok (.iinc 5 1, 3) := by decide +kernel
theorem dX3_watch_67 : decode cX3_watch 67 = .ok (.goto (-43), 3) := by decide +kernel
theorem dX3_watch_70 : decode cX3_watch 70 = .ok (.aload_n 0, 1) := by decide +kernel
theorem dX3_watch_71 : decode cX3_watch 71 = .ok (.getfield 9, 3) := by decide +kernel
theorem dX3_watch_74 : decode cX3_watch 74 = .ok (.iload_n 3, 1) := by decide +kernel
theorem dX3_watch_75 : decode cX3_watch 75 = .ok (.iload 4, 2) := by decide +kernel
theorem dX3_watch_77 : decode cX3_watch 77 = .ok (.iastore, 1) := by decide +kernel
theorem dX3_watch_78 : decode cX3_watch 78 = .ok (.iinc 3 1, 3) := by decide +kernel
theorem dX3_watch_81 : decode cX3_watch 81 = .ok (.goto (-71), 3) := by decide +kernel
theorem dX3_watch_84 : decode cX3_watch 84 = .ok (.return_, 1) := by decide +kernel
theorem dX3_leastTimes_0 : decode cX3_leastTimes 0 = .ok (.ldc 39, 2) := by decide +kernel
theorem dX3_leastTimes_2 : decode cX3_leastTimes 2 = .ok (.istore_n 2, 1) := by decide +kernel
theorem dX3_leastTimes_3 : decode cX3_leastTimes 3 = .ok (.iconst 0, 1) := by decide +kernel
theorem dX3_leastTimes_4 : decode cX3_leastTimes 4 = .ok (.istore_n 3, 1) := by decide +kernel
theorem dX3_leastTimes_5 : decode cX3_leastTimes 5 = .ok (.iload_n 3, 1) := by decide +kernel
theorem dX3_leastTimes_6 : decode cX3_leastTimes 6 = .ok (.aload_n 0, 1) := by decide +kernel
theorem dX3_leastTimes_7 : decode cX3_leastTimes 7 = .ok (.getfield 21, 3) := by decide +kernel
theorem dX3_leastTimes_10 : decode cX3_leastTimes 10 = .ok (.if_icmp .ge 25, 3) := by decide +kernel
theorem dX3_leastTimes_13 : decode cX3_leastTimes 13 = .ok (.iload_n 2, 1) := by decide +kernel
theorem dX3_leastTimes_14 : decode cX3_leastTimes 14 = .ok (.aload_n 0, 1) := by decide +kernel
theorem dX3_leastTimes_15 : decode cX3_leastTimes 15 = .ok (.getfield 9, 3) := by decide +kernel
theorem dX3_leastTimes_18 : decode cX3_leastTimes 18 = .ok (.iload_n 3, 1) := by decide +kernel
theorem dX3_leastTimes_19 : decode cX3_leastTimes 19 = .ok (.iaload, 1) := by decide +kernel
theorem dX3_leastTimes_20 : decode cX3_leastTimes 20 = .ok (.iload_n 1, 1) := by decide +kernel
theorem dX3_leastTimes_21 : decode cX3_leastTimes 21 = .ok (.iand, 1) := by decide +kernel
theorem dX3_leastTimes_22 : decode cX3_leastTimes 22 = .ok (.invokestatic 40, 3) := by decide +kernel
theorem dX3_leastTimes_25 : decode cX3_leastTimes 25 = .ok (.invokestatic 44, 3) := by decide +kernel
theorem dX3_leastTimes_28 : decode cX3_leastTimes 28 = .ok (.istore_n 2, 1) := by decide +kernel
theorem dX3_leastTimes_29 : decode cX3_leastTimes 29 = .ok (.iinc 3 1, 3) := by decide +kernel
theorem dX3_leastTimes_32 : decode cX3_leastTimes 32 = .ok (.goto (-27), 3) := by decide +kernel
theorem dX3_leastTimes_35 : decode cX3_leastTimes 35 = .ok (.iload_n 2, 1) := by decide +kernel
theorem dX3_leastTimes_36 : decode cX3_leastTimes 36 = .ok (.ireturn, 1) := by decide +kernel
theorem dX3_smallestCover_0 : decode cX3_smallestCover 0 = .ok (.bipush (-9), 2) := by decide +kernel
theorem dX3_smallestCover_2 : decode cX3_smallestCover 2 = .ok (.istore_n 3, 1) := by decide +kernel
theorem dX3_smallestCover_3 : decode cX3_smallestCover 3 = .ok (.bipush 11, 2) := by decide +kernel
theorem dX3_smallestCover_5 : decode cX3_smallestCover 5 = .ok (.istore 4, 2) := by decide +kernel
theorem dX3_smallestCover_7 : decode cX3_smallestCover 7 = .ok (.iconst 0, 1) := by decide +kernel
theorem dX3_smallestCover_8 : decode cX3_smallestCover 8 = .ok (.istore 5, 2) := by decide +kernel
theorem dX3_smallestCover_10 : decode cX3_smallestCover 10 = .ok (.iload 5, 2) := by decide +kernel
theorem dX3_smallestCover_12 : decode cX3_smallestCover 12 = .ok (.iload_n 2, 1) := by decide +kernel
theorem dX3_smallestCover_13 : decode cX3_smallestCover 13 = .ok (.if_icmp .ge 40, 3) := by decide +kernel
theorem dX3_smallestCover_16 : decode cX3_smallestCover 16 = .ok (.iload 5, 2) := by decide +kernel
theorem dX3_smallestCover_18 : decode cX3_smallestCover 18 = .ok (.invokestatic 40, 3) := by decide +kernel
theorem dX3_smallestCover_21 : decode cX3_smallestCover 21 = .ok (.istore 6, 2) := by decide +kernel
theorem dX3_smallestCover_23 : decode cX3_smallestCover 23 = .ok (.iload 6, 2) := by decide +kernel
theorem dX3_smallestCover_25 : decode cX3_smallestCover 25 = .ok (.iload 4, 2) := by decide +kernel
theorem dX3_smallestCover_27 : decode cX3_smallestCover 27 = .ok (.if_icmp .ge 20, 3) := by decide +kernel
theorem dX3_smallestCover_30 : decode cX3_smallestCover 30 = .ok (.aload_n 0, 1) := by decide +kernel
theorem dX3_smallestCover_31 : decode cX3_smallestCover 31 = .ok (.iload 5, 2) := by decide +kernel
theorem dX3_smallestCover_33 : decode cX3_smallestCover 33 = .ok (.invokevirtual 50, 3) := by decide +kernel
theorem dX3_smallestCover_36 : decode cX3_smallestCover 36 = .ok (.iload_n 1, 1) := by decide +kernel
theorem dX3_smallestCover_37 : decode cX3_smallestCover 37 = .ok (.if_icmp .lt 10, 3) := by decide +kernel
theorem dX3_smallestCover_40 : decode cX3_smallestCover 40 = .ok (.iload 5, 2) := by decide +kernel
theorem dX3_smallestCover_42 : decode cX3_smallestCover 42 = .ok (.istore_n 3, 1) := by decide +kernel
theorem dX3_smallestCover_43 : decode cX3_smallestCover 43 = .ok (.iload 6, 2) := by decide +kernel
theorem dX3_smallestCover_45 : decode cX3_smallestCover 45 = .ok (.istore 4, 2) := by decide +kernel
theorem dX3_smallestCover_47 : decode cX3_smallestCover 47 = .ok (.iinc 5 1, 3) := by decide +kernel
theorem dX3_smallestCover_50 : decode cX3_smallestCover 50 = .ok (.goto (-40), 3) := by decide +kernel
theorem dX3_smallestCover_53 : decode cX3_smallestCover 53 = .ok (.iload_n 3, 1) := by decide +kernel
theorem dX3_smallestCover_54 : decode cX3_smallestCover 54 = .ok (.ireturn, 1) := by decide +kernel
theorem dX4_init_0 : decode cX4_init 0 = .ok (.aload_n 0, 1) := by decide +kernel
theorem dX4_init_1 : decode cX4_init 1 = .ok (.invokespecial 3, 3) := by decide +kernel
theorem dX4_init_4 : decode cX4_init 4 = .ok (.aload_n 0, 1) := by decide +kernel
theorem dX4_init_5 : decode cX4_init 5 = .ok (.bipush 40, 2) := by decide +kernel
theorem dX4_init_7 : decode cX4_init 7 = .ok (.newarray .int, 2) := by decide +kernel
theorem dX4_init_9 : decode cX4_init 9 = .ok (.putfield 9, 3) := by decide +kernel
theorem dX4_init_12 : decode cX4_init 12 = .ok (.aload_n 0, 1) := by decide +kernel
theorem dX4_init_13 : decode cX4_init 13 = .ok (.bipush 40, 2) := by decide +kernel
theorem dX4_init_15 : decode cX4_init 15 = .ok (.newarray .int, 2) := by decide +kernel
theorem dX4_init_17 : decode cX4_init 17 = .ok (.putfield 15, 3) := by decide +kernel
theorem dX4_init_20 : decode cX4_init 20 = .ok (.aload_n 0, 1) := by decide +kernel
theorem dX4_init_21 : decode cX4_init 21 = .ok (.bipush 40, 2) := by decide +kernel
theorem dX4_init_23 : decode cX4_init 23 = .ok (.newarray .int, 2) := by decide +kernel
theorem dX4_init_25 : decode cX4_init 25 = .ok (.putfield 18, 3) := by decide +kernel
theorem dX4_init_28 : decode cX4_init 28 = .ok (.aload_n 0, 1) := by decide +kernel
theorem dX4_init_29 : decode cX4_init 29 = .ok (.bipush 40, 2) := by decide +kernel
theorem dX4_init_31 : decode cX4_init 31 = .ok (.newarray .int, 2) := by decide +kernel
theorem dX4_init_33 : decode cX4_init 33 = .ok (.putfield 21, 3) := by decide +kernel
theorem dX4_init_36 : decode cX4_init 36 = .ok (.aload_n 0, 1) := by decide +kernel
theorem dX4_init_37 : decode cX4_init 37 = .ok (.bipush 40, 2) := by decide +kernel
theorem dX4_init_39 : decode cX4_init 39 = .ok (.newarray .boolean, 2) := by decide +kernel
theorem dX4_init_41 : decode cX4_init 41 = .ok (.putfield 24, 3) := by decide +kernel
theorem dX4_init_44 : decode cX4_init 44 = .ok (.aload_n 0, 1) := by decide +kernel
theorem dX4_init_45 : decode cX4_init 45 = .ok (.bipush 40, 2) := by decide +kernel
theorem dX4_init_47 : decode cX4_init 47 = .ok (.newarray .int, 2) := by decide +kernel
theorem dX4_init_49 : decode cX4_init 49 = .ok (.putfield 28, 3) := by decide +kernel
theorem dX4_init_52 : decode cX4_init 52 = .ok (.aload_n 0, 1) := by decide +kernel
theorem dX4_init_53 : decode cX4_init 53 = .ok (.bipush 40, 2) := by decide +kernel
theorem dX4_init_55 : decode cX4_init 55 = .ok (.newarray .int, 2) := by decide +kernel
theorem dX4_init_57 : decode cX4_init 57 = .ok (.putfield 31, 3) := by decide +kernel
theorem dX4_init_60 : decode cX4_init 60 = .ok (.aload_n 0, 1) := by decide +kernel
theorem dX4_init_61 : decode cX4_init 61 = .ok (.bipush 41, 2) := by decide +kernel
theorem dX4_init_63 : decode cX4_init 63 = .ok (.newarray .int, 2) := by decide +kernel
theorem dX4_init_65 : decode cX4_init 65 = .ok (.putfield 34, 3) := by decide +kernel
theorem dX4_init_68 : decode cX4_init 68 = .ok (.return_, 1) := by decide +kernel
theorem dX4_add_0 : decode cX4_add 0 = .ok (.aload_n 0, 1) := by decide +kernel
theorem dX4_add_1 : decode cX4_add 1 = .ok (.getfield 9, 3) := by decide +kernel
theorem dX4_add_4 : decode cX4_add 4 = .ok (.aload_n 0, 1) := by decide +kernel
theorem dX4_add_5 : decode cX4_add 5 = .ok (.getfield 37, 3) := by decide +kernel
theorem dX4_add_8 : decode cX4_add 8 = .ok (.iload_n 1, 1) := by decide +kernel
theorem dX4_add_9 : decode cX4_add 9 = .ok (.iastore, 1) := by decide +kernel
theorem dX4_add_10 : decode cX4_add 10 = .ok (.aload_n 0, 1) := by decide +kernel
theorem dX4_add_11 : decode cX4_add 11 = .ok (.getfield 15, 3) := by decide +kernel
theorem dX4_add_14 : decode cX4_add 14 = .ok (.aload_n 0, 1) := by decide +kernel
theorem dX4_add_15 : decode cX4_add 15 = .ok (.getfield 37, 3) := by decide +kernel
theorem dX4_add_18 : decode cX4_add 18 = .ok (.iload_n 2, 1) := by decide +kernel
theorem dX4_add_19 : decode cX4_add 19 = .ok (.iastore, 1) := by decide +kernel
theorem dX4_add_20 : decode cX4_add 20 = .ok (.aload_n 0, 1) := by decide +kernel
theorem dX4_add_21 : decode cX4_add 21 = .ok (.getfield 18, 3) := by decide +kernel
theorem dX4_add_24 : decode cX4_add 24 = .ok (.aload_n 0, 1) := by decide +kernel
theorem dX4_add_25 : decode cX4_add 25 = .ok (.getfield 37, 3) := by decide +kernel
theorem dX4_add_28 : decode cX4_add 28 = .ok (.iload_n 3, 1) := by decide +kernel
theorem dX4_add_29 : decode cX4_add 29 = .ok (.iastore, 1) := by decide +kernel
theorem dX4_add_30 : decode cX4_add 30 = .ok (.aload_n 0, 1) := by decide +kernel
theorem dX4_add_31 : decode cX4_add 31 = .ok (.getfield 21, 3) := by decide +kernel
theorem dX4_add_34 : decode cX4_add 34 = .ok (.aload_n 0, 1) := by decide +kernel
theorem dX4_add_35 : decode cX4_add 35 = .ok (.getfield 37, 3) := by decide +kernel
theorem dX4_add_38 : decode cX4_add 38 = .ok (.iload 4, 2) := by decide +kernel
theorem dX4_add_40 : decode cX4_add 40 = .ok (.iastore, 1) := by decide +kernel
theorem dX4_add_41 : decode cX4_add 41 = .ok (.aload_n 0, 1) := by decide +kernel
theorem dX4_add_42 : decode cX4_add 42 = .ok (.dup, 1) := by decide +kernel
theorem dX4_add_43 : decode cX4_add 43 = .ok (.getfield 37, 3) := by decide +kernel
theorem dX4_add_46 : decode cX4_add 46 = .ok (.iconst 1, 1) := by decide +kernel
theorem dX4_add_47 : decode cX4_add 47 = .ok (.iadd, 1) := by decide +kernel
theorem dX4_add_48 : decode cX4_add 48 = .ok (.putfield 37, 3) := by decide +kernel
theorem dX4_add_51 : decode cX4_add 51 = .ok (.aload_n 0, 1) := by decide +kernel
theorem dX4_add_52 : decode cX4_add 52 = .ok (.getfield 37, 3) := by decide +kernel
theorem dX4_add_55 : decode cX4_add 55 = .ok (.iconst 1, 1) := by decide +kernel
theorem dX4_add_56 : decode cX4_add 56 = .ok (.isub, 1) := by decide +kernel
theorem dX4_add_57 : decode cX4_add 57 = .ok (.ireturn, 1) := by decide +kernel
theorem dX4_present_0 : decode cX4_present 0 = .ok (.iconst 0, 1) := by decide +kernel
theorem dX4_present_1 : decode cX4_present 1 = .ok (.istore_n 1, 1) := by decide +kernel
theorem dX4_present_2 : decode cX4_present 2 = .ok (.iconst 0, 1) := by decide +kernel
theorem dX4_present_3 : decode cX4_present 3 = .ok (.istore_n 2, 1) := by decide +kernel
theorem dX4_present_4 : decode cX4_present 4 = .ok (.iload_n 2, 1) := by decide +kernel
theorem dX4_present_5 : decode cX4_present 5 = .ok (.aload_n 0, 1) := by decide +kernel
theorem dX4_present_6 : decode cX4_present 6 = .ok (.getfield 37, 3) := by decide +kernel
theorem dX4_present_9 : decode cX4_present 9 = .ok (.if_icmp .ge 21, 3) := by decide +kernel
theorem dX4_present_12 : decode cX4_present 12 = .ok (.aload_n 0, 1) := by decide +kernel
theorem dX4_present_13 : decode cX4_present 13 = .ok (.getfield 24, 3) := by decide +kernel
theorem dX4_present_16 : decode cX4_present 16 = .ok (.iload_n 2, 1) := by decide +kernel
theorem dX4_present_17 : decode cX4_present 17 = .ok (.baload, 1) := by decide +kernel
theorem dX4_present_18 : decode cX4_present 18 = .ok (.ifCond .ne 6, 3) := by decide +kernel
theorem dX4_present_21 : decode cX4_present 21 = .ok (.iinc 1 1, 3) := by decide +kernel
theorem dX4_present_24 : decode cX4_present 24 = .ok (.iinc 2 1, 3) := by decide +kernel
theorem dX4_present_27 : decode cX4_present 27 = .ok (.goto (-23), 3) := by decide +kernel
theorem dX4_present_30 : decode cX4_present 30 = .ok (.iload_n 1, 1) := by decide +kernel
theorem dX4_present_31 : decode cX4_present 31 = .ok (.ireturn, 1) := by decide +kernel
theorem dX4_isOf_0 : decode cX4_isOf 0 = .ok (.aload_n 0, 1) := by decide +kernel
theorem dX4_isOf_1 : decode cX4_isOf 1 = .ok (.getfield 24, 3) := by decide +kernel
theorem dX4_isOf_4 : decode cX4_isOf 4 = .ok (.iload_n 1, 1) := by decide +kernel
theorem dX4_isOf_5 : decode cX4_isOf 5 = .ok (.baload, 1) := by decide +kernel
theorem dX4_isOf_6 : decode cX4_isOf 6 = .ok (.ifCond .ne 27, 3) := by decide +kernel
theorem dX4_isOf_9 : decode cX4_isOf 9 = .ok (.aload_n 0, 1) := by decide +kernel
theorem dX4_isOf_10 : decode cX4_isOf 10 = .ok (.getfield 9, 3) := by decide +kernel
theorem dX4_isOf_13 : decode cX4_isOf 13 = .ok (.iload_n 1, 1) := by decide +kernel
theorem dX4_isOf_14 : decode cX4_isOf 14 = .ok (.iaload, 1) := by decide +kernel
theorem dX4_isOf_15 : decode cX4_isOf 15 = .ok (.iload_n 2, 1) := by decide +kernel
theorem dX4_isOf_16 : decode cX4_isOf 16 = .ok (.if_icmp .ne 17, 3) := by decide +kernel
theorem dX4_isOf_19 : decode cX4_isOf 19 = .ok (.aload_n 0, 1) := by decide +kernel
theorem dX4_isOf_20 : decode cX4_isOf 20 = .ok (.getfield 21, 3) := by decide +kernel
theorem dX4_isOf_23 : decode cX4_isOf 23 = .ok (.iload_n 1, 1) := by decide +kernel
theorem dX4_isOf_24 : decode cX4_isOf 24 = .ok (.iaload, 1) := by decide +kernel
theorem dX4_isOf_25 : decode cX4_isOf 25 = .ok (.iload_n 3, 1) := by decide +kernel
theorem dX4_isOf_26 : decode cX4_isOf 26 = .ok (.if_icmp .ne 7, 3) := by decide +kernel
theorem dX4_isOf_29 : decode cX4_isOf 29 = .ok (.iconst 1, 1) := by decide +kernel
theorem dX4_isOf_30 : decode cX4_isOf 30 = .ok (.goto 4, 3) := by decide +kernel
theorem dX4_isOf_33 : decode cX4_isOf 33 = .ok (.iconst 0, 1) := by decide +kernel
theorem dX4_isOf_34 : decode cX4_isOf 34 = .ok (.ireturn, 1) := by decide +kernel
theorem dX4_sum_0 : decode cX4_sum 0 = .ok (.iconst 0, 1) := by decide +kernel
theorem dX4_sum_1 : decode cX4_sum 1 = .ok (.istore 4, 2) := by decide +kernel
theorem dX4_sum_3 : decode cX4_sum 3 = .ok (.iconst 0, 1) := by decide +kernel
theorem dX4_sum_4 : decode cX4_sum 4 = .ok (.istore 5, 2) := by decide +kernel
theorem dX4_sum_6 : decode cX4_sum 6 = .ok (.iload 5, 2) := by decide +kernel
theorem dX4_sum_8 : decode cX4_sum 8 = .ok (.aload_n 0, 1) := by decide +kernel
theorem dX4_sum_9 : decode cX4_sum 9 = .ok (.getfield 37, 3) := by decide +kernel
theorem dX4_sum_12 : decode cX4_sum 12 = .ok (.if_icmp .ge 40, 3) := by decide +kernel
theorem dX4_sum_15 : decode cX4_sum 15 = .ok (.aload_n 0, 1) := by decide +kernel
theorem dX4_sum_16 : decode cX4_sum 16 = .ok (.iload 5, 2) := by decide +kernel
theorem dX4_sum_18 : decode cX4_sum 18 = .ok (.iload_n 1, 1) := by decide +kernel
theorem dX4_sum_19 : decode cX4_sum 19 = .ok (.iload_n 2, 1) := by decide +kernel
theorem dX4_sum_20 : decode cX4_sum 20 = .ok (.invokevirtual 41, 3) := by decide +kernel
theorem dX4_sum_23 : decode cX4_sum 23 = .ok (.ifCond .eq 23, 3) := by decide +kernel
theorem dX4_sum_26 : decode cX4_sum 26 = .ok (.iload 4, 2) := by decide +kernel
theorem dX4_sum_28 : decode cX4_sum 28 = .ok (.iload_n 3, 1) := by decide +kernel
theorem dX4_sum_29 : decode cX4_sum 29 = .ok (.ifCond .eq 13, 3) := by decide +kernel
theorem dX4_sum_32 : decode cX4_sum 32 = .ok (.aload_n 0, 1) := by decide +kernel
theorem dX4_sum_33 : decode cX4_sum 33 = .ok (.getfield 18, 3) := by decide +kernel
theorem dX4_sum_36 : decode cX4_sum 36 = .ok (.iload 5, 2) := by decide +kernel
theorem dX4_sum_38 : decode cX4_sum 38 = .ok (.iaload, 1) := by decide +kernel
theorem dX4_sum_39 : decode cX4_sum 39 = .ok (.goto 4, 3) := by decide +kernel
theorem dX4_sum_42 : decode cX4_sum 42 = .ok (.iconst 1, 1) := by decide +kernel
theorem dX4_sum_43 : decode cX4_sum 43 = .ok (.iadd, 1) := by decide +kernel
theorem dX4_sum_44 : decode cX4_sum 44 = .ok (.istore 4, 2) := by decide +kernel
theorem dX4_sum_46 : decode cX4_sum 46 = .ok (.iinc 5 1, 3) := by decide +kernel
theorem dX4_sum_49 : decode cX4_sum 49 = .ok (.goto (-43), 3) := by decide +kernel
theorem dX4_sum_52 : decode cX4_sum 52 = .ok (.iload 4, 2) := by decide +kernel
theorem dX4_sum_54 : decode cX4_sum 54 = .ok (.ireturn, 1) := by decide +kernel
theorem dX4_pairUp_0 : decode cX4_pairUp 0 = .ok (.aload_n 0, 1) := by decide +kernel
theorem dX4_pairUp_1 : decode cX4_pairUp 1 = .ok (.iload_n 1, 1) := by decide +kernel
theorem dX4_pairUp_2 : decode cX4_pairUp 2 = .ok (.iload_n 2, 1) := by decide +kernel
theorem dX4_pairUp_3 : decode cX4_pairUp 3 = .ok (.aload_n 0, 1) := by decide +kernel
theorem dX4_pairUp_4 : decode cX4_pairUp 4 = .ok (.getfield 28, 3) := by decide +kernel
theorem dX4_pairUp_7 : decode cX4_pairUp 7 = .ok (.invokevirtual 45, 3) := by decide +kernel
theorem dX4_pairUp_10 : decode cX4_pairUp 10 = .ok (.istore 5, 2) := by decide +kernel
theorem dX4_pairUp_12 : decode cX4_pairUp 12 = .ok (.aload_n 0, 1) := by decide +kernel
theorem dX4_pairUp_13 : decode cX4_pairUp 13 = .ok (.iload_n 1, 1) := by decide +kernel
theorem dX4_pairUp_14 : decode cX4_pairUp 14 = .ok (.iload_n 3, 1) := by decide +kernel
theorem dX4_pairUp_15 : decode cX4_pairUp 15 = .ok (.aload_n 0, 1) := by decide +kernel
theorem dX4_pairUp_16 : decode cX4_pairUp 16 = .ok (.getfield 31, 3) := by decide +kernel
theorem dX4_pairUp_19 : decode cX4_pairUp 19 = .ok (.invokevirtual 45, 3) := by decide +kernel
theorem dX4_pairUp_22 : decode cX4_pairUp 22 = .ok (.istore 6, 2) := by decide +kernel
theorem dX4_pairUp_24 : decode cX4_pairUp 24 = .ok (.iconst 0, 1) := by decide +kernel
theorem dX4_pairUp_25 : decode cX4_pairUp 25 = .ok (.istore 7, 2) := by decide +kernel
theorem dX4_pairUp_27 : decode cX4_pairUp 27 = .ok (.iload 7, 2) := by decide +kernel
theorem dX4_pairUp_29 : decode cX4_pairUp 29 = .ok (.iload 6, 2) := by decide +kernel
theorem dX4_pairUp_31 : decode cX4_pairUp 31 = .ok (.if_icmp .gt 17, 3) := by decide +kernel
theorem dX4_pairUp_34 : decode cX4_pairUp 34 = .ok (.aload_n 0, 1) := by decide +kernel
theorem dX4_pairUp_35 : decode cX4_pairUp 35 = .ok (.getfield 34, 3) := by decide +kernel
theorem dX4_pairUp_38 : decode cX4_pairUp 38 = .ok (.iload 7, 2) := by decide +kernel
theorem dX4_pairUp_40 : decode cX4_pairUp 40 = .ok (.iconst 0, 1) := by decide +kernel
theorem dX4_pairUp_41 : decode cX4_pairUp 41 = .ok (.iastore, 1) := by decide +kernel
theorem dX4_pairUp_42 : decode cX4_pairUp 42 = .ok (.iinc 7 1, 3) := by decide +kernel
theorem dX4_pairUp_45 : decode cX4_pairUp 45 = .ok (.goto (-18), 3) := by decide +kernel
theorem dX4_pairUp_48 : decode cX4_pairUp 48 = .ok (.iconst 0, 1) := by decide +kernel
theorem dX4_pairUp_49 : decode cX4_pairUp 49 = .ok (.istore 7, 2) := by decide +kernel
theorem dX4_pairUp_51 : decode cX4_pairUp 51 = .ok (.iload 7, 2) := by decide +kernel
theorem dX4_pairUp_53 : decode cX4_pairUp 53 = .ok (.iload 5, 2) := by decide +kernel
theorem dX4_pairUp_55 : decode cX4_pairUp 55 = .ok (.if_icmp .ge 24, 3) := by decide +kernel
theorem dX4_pairUp_58 : decode cX4_pairUp 58 = .ok (.aload_n 0, 1) := by decide +kernel
theorem dX4_pairUp_59 : decode cX4_pairUp 59 = .ok (.aload_n 0, 1) := by decide +kernel
theorem dX4_pairUp_60 : decode cX4_pairUp 60 = .ok (.getfield 28, 3) := by decide +kernel
theorem dX4_pairUp_63 : decode cX4_pairUp 63 = .ok (.iload 7, 2) := by decide +kernel
theorem dX4_pairUp_65 : decode cX4_pairUp 65 = .ok (.iaload, 1) := by decide +kernel
theorem dX4_pairUp_66 : decode cX4_pairUp 66 = .ok (.iload 6, 2) := by decide +kernel
theorem dX4_pairUp_68 : decode cX4_pairUp 68 = .ok (.iload 4, 2) := by decide +kernel
theorem dX4_pairUp_70 : decode cX4_pairUp 70 = .ok (.invokevirtual 49, 3) := by decide +kernel
theorem dX4_pairUp_73 : decode cX4_pairUp 73 = .ok (.iinc 7 1, 3) := by decide +kernel
theorem dX4_pairUp_76 : decode cX4_pairUp 76 = .ok (.goto (-25), 3) := by decide +kernel
theorem dX4_pairUp_79 : decode cX4_pairUp 79 = .ok (.aload_n 0, 1) := by decide +kernel
theorem dX4_pairUp_80 : decode cX4_pairUp 80 = .ok (.aload_n 0, 1) := by decide +kernel
theorem dX4_pairUp_81 : decode cX4_pairUp 81 = .ok (.getfield 34, 3) := by decide +kernel
theorem dX4_pairUp_84 : decode cX4_pairUp 84 = .ok (.iload 6, 2) := by decide +kernel
theorem dX4_pairUp_86 : decode cX4_pairUp 86 = .ok (.iaload, 1) := by decide +kernel
theorem dX4_pairUp_87 : decode cX4_pairUp 87 = .ok (.ldc 53, 2) := by decide +kernel
theorem dX4_pairUp_89 : decode cX4_pairUp 89 = .ok (.iadd, 1) := by decide +kernel
theorem dX4_pairUp_90 : decode cX4_pairUp 90 = .ok (.iconst 1, 1) := by decide +kernel
theorem dX4_pairUp_91 : decode cX4_pairUp 91 = .ok (.isub, 1) := by decide +kernel
theorem dX4_pairUp_92 : decode cX4_pairUp 92 = .ok (.ldc 53, 2) := by decide +kernel
theorem dX4_pairUp_94 : decode cX4_pairUp 94 = .ok (.idiv, 1) := by decide +kernel
theorem dX4_pairUp_95 : decode cX4_pairUp 95 = .ok (.putfield 54, 3) := by decide +kernel
theorem dX4_pairUp_98 : decode cX4_pairUp 98 = .ok (.aload_n 0, 1) := by decide +kernel
theorem dX4_pairUp_99 : decode cX4_pairUp 99 = .ok (.aload_n 0, 1) := by decide +kernel
theorem dX4_pairUp_100 : decode cX4_pairUp 100 = .ok (.getfield 54, 3) := by decide +kernel
theorem dX4_pairUp_103 : decode cX4_pairUp 103 = .ok (.ldc 53, 2) := by decide +kernel
theorem dX4_pairUp_105 : decode cX4_pairUp 105 = .ok (.imul, 1) := by decide +kernel
theorem dX4_pairUp_106 : decode cX4_pairUp 106 = .ok (.aload_n 0, 1) := by decide +kernel
theorem dX4_pairUp_107 : decode cX4_pairUp 107 = .ok (.getfield 34, 3) := by decide +kernel
theorem dX4_pairUp_110 : decode cX4_pairUp 110 = .ok (.iload 6, 2) := by decide +kernel
theorem dX4_pairUp_112 : decode cX4_pairUp 112 = .ok (.iaload, 1) := by decide +kernel
theorem dX4_pairUp_113 : decode cX4_pairUp 113 = .ok (.isub, 1) := by decide +kernel
theorem dX4_pairUp_114 : decode cX4_pairUp 114 = .ok (.putfield 57, 3) := by decide +kernel
theorem dX4_pairUp_117 : decode cX4_pairUp 117 = .ok (.return_, 1) := by decide +kernel
theorem dX4_sortPlaces_0 : decode cX4_sortPlaces 0 = .ok (.iconst 0, 1) := by decide +kernel
theorem dX4_sortPlaces_1 : decode cX4_sortPlaces 1 = .ok (.istore 4, 2) := by decide +kernel
theorem dX4_sortPlaces_3 : decode cX4_sortPlaces 3 = .ok (.iconst 0, 1) := by decide +kernel
theorem dX4_sortPlaces_4 : decode cX4_sortPlaces 4 = .ok (.istore 5, 2) := by decide +kernel
theorem dX4_sortPlaces_6 : decode cX4_sortPlaces 6 = .ok (.iload 5, 2) := by decide +kernel
theorem dX4_sortPlaces_8 : decode cX4_sortPlaces 8 = .ok (.aload_n 0, 1) := by decide +kernel
theorem dX4_sortPlaces_9 : decode cX4_sortPlaces 9 = .ok (.getfield 37, 3) := by decide +kernel
theorem dX4_sortPlaces_12 : decode cX4_sortPlaces 12 = .ok (.if_icmp .ge 75, 3) := by decide +kernel
theorem dX4_sortPlaces_15 : decode cX4_sortPlaces 15 = .ok (.aload_n 0, 1) := by decide +kernel
theorem dX4_sortPlaces_16 : decode cX4_sortPlaces 16 = .ok (.iload 5, 2) := by decide +kernel
theorem dX4_sortPlaces_18 : decode cX4_sortPlaces 18 = .ok (.iload_n 1, 1) := by decide +kernel
theorem dX4_sortPlaces_19 : decode cX4_sortPlaces 19 = .ok (.iload_n 2, 1) := by decide +kernel
theorem dX4_sortPlaces_20 : decode cX4_sortPlaces 20 = .ok (.invokevirtual 41, 3) := by decide +kernel
theorem dX4_sortPlaces_23 : decode cX4_sortPlaces 23 = .ok (.ifCond .eq 58, 3) := by decide +kernel
theorem dX4_sortPlaces_26 : decode cX4_sortPlaces 26 = .ok (.iload 4, 2) := by decide +kernel
theorem dX4_sortPlaces_28 : decode cX4_sortPlaces 28 = .ok (.istore 6, 2) := by decide +kernel
theorem dX4_sortPlaces_30 : decode cX4_sortPlaces 30 = .ok (.iload 6, 2) := by decide +kernel
theorem dX4_sortPlaces_32 : decode cX4_sortPlaces 32 = .ok (.ifCond .le 35, 3) := by decide +kernel
theorem dX4_sortPlaces_35 : decode cX4_sortPlaces 35 = .ok (.aload_n 3, 1) := by decide +kernel
theorem dX4_sortPlaces_36 : decode cX4_sortPlaces 36 = .ok (.iload 6, 2) := by decide +kernel
theorem dX4_sortPlaces_38 : decode cX4_sortPlaces 38 = .ok (.iconst 1, 1) := by decide +kernel
theorem dX4_sortPlaces_39 : decode cX4_sortPlaces 39 = .ok (.isub, 1) := by decide +kernel
theorem dX4_sortPlaces_40 : decode cX4_sortPlaces 40 = .ok (.iaload, 1) := by decide +kernel
theorem dX4_sortPlaces_41 : decode cX4_sortPlaces 41 = .ok (.aload_n 0, 1) := by decide +kernel
theorem dX4_sortPlaces_42 : decode cX4_sortPlaces 42 = .ok (.getfield 15, 3) := by decide +kernel
theorem dX4_sortPlaces_45 : decode cX4_sortPlaces 45 = .ok (.iload 5, 2) := by decide +kernel
theorem dX4_sortPlaces_47 : decode cX4_sortPlaces 47 = .ok (.iaload, 1) := by decide +kernel
theorem dX4_sortPlaces_48 : decode cX4_sortPlaces 48 = .ok (.if_icmp .le 19, 3) := by decide +kernel
theorem dX4_sortPlaces_51 : decode cX4_sortPlaces 51 = .ok (.aload_n 3, 1) := by decide +kernel
theorem dX4_sortPlaces_52 : decode cX4_sortPlaces 52 = .ok (.iload 6, 2) := by decide +kernel
theorem dX4_sortPlaces_54 : decode cX4_sortPlaces 54 = .ok (.aload_n 3, 1) := by decide +kernel
theorem dX4_sortPlaces_55 : decode cX4_sortPlaces 55 = .ok (.iload 6, 2) := by decide +kernel
theorem dX4_sortPlaces_57 : decode cX4_sortPlaces 57 = .ok (.iconst 1, 1) := by decide +kernel
theorem dX4_sortPlaces_58 : decode cX4_sortPlaces 58 = .ok (.isub, 1) := by decide +kernel
theorem dX4_sortPlaces_59 : decode cX4_sortPlaces 59 = .ok (.iaload, 1) := by decide +kernel
theorem dX4_sortPlaces_60 : decode cX4_sortPlaces 60 = .ok (.iastore, 1) := by decide +kernel
theorem dX4_sortPlaces_61 : decode cX4_sortPlaces 61 = .ok (.iinc 6 (-1), 3) := by decide +kernel
theorem dX4_sortPlaces_64 : decode cX4_sortPlaces 64 = .ok (.goto (-34), 3) := by decide +kernel
theorem dX4_sortPlaces_67 : decode cX4_sortPlaces 67 = .ok (.aload_n 3, 1) := by decide +kernel
theorem dX4_sortPlaces_68 : decode cX4_sortPlaces 68 = .ok (.iload 6, 2) := by decide +kernel
theorem dX4_sortPlaces_70 : decode cX4_sortPlaces 70 = .ok (.aload_n 0, 1) := by decide +kernel
theorem dX4_sortPlaces_71 : decode cX4_sortPlaces 71 = .ok (.getfield 15, 3) := by decide +kernel
theorem dX4_sortPlaces_74 : decode cX4_sortPlaces 74 = .ok (.iload 5, 2) := by decide +kernel
theorem dX4_sortPlaces_76 : decode cX4_sortPlaces 76 = .ok (.iaload, 1) := by decide +kernel
theorem dX4_sortPlaces_77 : decode cX4_sortPlaces 77 = .ok (.iastore, 1) := by decide +kernel
theorem dX4_sortPlaces_78 : decode cX4_sortPlaces 78 = .ok (.iinc 4 1, 3) := by decide +kernel
theorem dX4_sortPlaces_81 : decode cX4_sortPlaces 81 = .ok (.iinc 5 1, 3) := by decide +kernel
theorem dX4_sortPlaces_84 : decode cX4_sortPlaces 84 = .ok (.goto (-78), 3) := by decide +kernel
theorem dX4_sortPlaces_87 : decode cX4_sortPlaces 87 = .ok (.iload 4, 2) := by decide +kernel
theorem dX4_sortPlaces_89 : decode cX4_sortPlaces 89 = .ok (.ireturn, 1) := by decide +kernel
theorem dX4_addPlace_0 : decode cX4_addPlace 0 = .ok (.aload_n 0, 1) := by decide +kernel
theorem dX4_addPlace_1 : decode cX4_addPlace 1 = .ok (.getfield 34, 3) := by decide +kernel
theorem dX4_addPlace_4 : decode cX4_addPlace 4 = .ok (.iconst 0, 1) := by decide +kernel
theorem dX4_addPlace_5 : decode cX4_addPlace 5 = .ok (.iaload, 1) := by decide +kernel
theorem dX4_addPlace_6 : decode cX4_addPlace 6 = .ok (.istore 4, 2) := by decide +kernel
theorem dX4_addPlace_8 : decode cX4_addPlace 8 = .ok (.iconst 1, 1) := by decide +kernel
theorem dX4_addPlace_9 : decode cX4_addPlace 9 = .ok (.istore 5, 2) := by decide +kernel
theorem dX4_addPlace_11 : decode cX4_addPlace 11 = .ok (.iload 5, 2) := by decide +kernel
theorem dX4_addPlace_13 : decode cX4_addPlace 13 = .ok (.iload_n 2, 1) := by decide +kernel
theorem dX4_addPlace_14 : decode cX4_addPlace 14 = .ok (.if_icmp .gt 90, 3) := by decide +kernel
theorem dX4_addPlace_17 : decode cX4_addPlace 17 = .ok (.aload_n 0, 1) := by decide +kernel
theorem dX4_addPlace_18 : decode cX4_addPlace 18 = .ok (.getfield 34, 3) := by decide +kernel
theorem dX4_addPlace_21 : decode cX4_addPlace 21 = .ok (.iload 5, 2) := by decide +kernel
theorem dX4_addPlace_23 : decode cX4_addPlace 23 = .ok (.iaload, 1) := by decide +kernel
theorem dX4_addPlace_24 : decode cX4_addPlace 24 = .ok (.istore 6, 2) := by decide +kernel
theorem dX4_addPlace_26 : decode cX4_addPlace 26 = .ok (.iload_n 1, 1) := by decide +kernel
theorem dX4_addPlace_27 : decode cX4_addPlace 27 = .ok (.aload_n 0, 1) := by decide +kernel
theorem dX4_addPlace_28 : decode cX4_addPlace 28 = .ok (.getfield 31, 3) := by decide +kernel
theorem dX4_addPlace_31 : decode cX4_addPlace 31 = .ok (.iload 5, 2) := by decide +kernel
theorem dX4_addPlace_33 : decode cX4_addPlace 33 = .ok (.iconst 1, 1) := by decide +kernel
theorem dX4_addPlace_34 : decode cX4_addPlace 34 = .ok (.isub, 1) := by decide +kernel
theorem dX4_addPlace_35 : decode cX4_addPlace 35 = .ok (.iaload, 1) := by decide +kernel
theorem dX4_addPlace_36 : decode cX4_addPlace 36 = .ok (.isub, 1) := by decide +kernel
theorem dX4_addPlace_37 : decode cX4_addPlace 37 = .ok (.invokestatic 60, 3) := by decide +kernel
theorem dX4_addPlace_40 : decode cX4_addPlace 40 = .ok (.istore 7, 2) := by decide +kernel
theorem dX4_addPlace_42 : decode cX4_addPlace 42 = .ok (.aload_n 0, 1) := by decide +kernel
theorem dX4_addPlace_43 : decode cX4_addPlace 43 = .ok (.getfield 34, 3) := by decide +kernel
theorem dX4_addPlace_46 : decode cX4_addPlace 46 = .ok (.iload 5, 2) := by decide +kernel
theorem dX4_addPlace_48 : decode cX4_addPlace 48 = .ok (.iload 6, 2) := by decide +kernel
theorem dX4_addPlace_50 : decode cX4_addPlace 50 = .ok (.aload_n 0, 1) := by decide +kernel
theorem dX4_addPlace_51 : decode cX4_addPlace 51 = .ok (.getfield 34, 3) := by decide +kernel
theorem dX4_addPlace_54 : decode cX4_addPlace 54 = .ok (.iload 5, 2) := by decide +kernel
theorem dX4_addPlace_56 : decode cX4_addPlace 56 = .ok (.iconst 1, 1) := by decide +kernel
theorem dX4_addPlace_57 : decode cX4_addPlace 57 = .ok (.isub, 1) := by decide +kernel
theorem dX4_addPlace_58 : decode cX4_addPlace 58 = .ok (.iaload, 1) := by decide +kernel
theorem dX4_addPlace_59 : decode cX4_addPlace 59 = .ok (.invokestatic 66, 3) := by decide +kernel
theorem dX4_addPlace_62 : decode cX4_addPlace 62 = .ok (.iastore, 1) := by decide +kernel
theorem dX4_addPlace_63 : decode cX4_addPlace 63 = .ok (.iload 7, 2) := by decide +kernel
theorem dX4_addPlace_65 : decode cX4_addPlace 65 = .ok (.iload_n 3, 1) := by decide +kernel
theorem dX4_addPlace_66 : decode cX4_addPlace 66 = .ok (.if_icmp .gt 28, 3) := by decide +kernel
theorem dX4_addPlace_69 : decode cX4_addPlace 69 = .ok (.aload_n 0, 1) := by decide +kernel
theorem dX4_addPlace_70 : decode cX4_addPlace 70 = .ok (.getfield 34, 3) := by decide +kernel
theorem dX4_addPlace_73 : decode cX4_addPlace 73 = .ok (.iload 5, 2) := by decide +kernel
theorem dX4_addPlace_75 : decode cX4_addPlace 75 = .ok (.aload_n 0, 1) := by decide +kernel
theorem dX4_addPlace_76 : decode cX4_addPlace 76 = .ok (.getfield 34, 3) := by decide +kernel
theorem dX4_addPlace_79 : decode cX4_addPlace 79 = .ok (.iload 5, 2) := by decide +kernel
theorem dX4_addPlace_81 : decode cX4_addPlace 81 = .ok (.iaload, 1) := by decide +kernel
theorem dX4_addPlace_82 : decode cX4_addPlace 82 = .ok (.iload 4, 2) := by decide +kernel
theorem dX4_addPlace_84 : decode cX4_addPlace 84 = .ok (.ldc 53, 2) := by decide +kernel
theorem dX4_addPlace_86 : decode cX4_addPlace 86 = .ok (.iadd, 1) := by decide +kernel
theorem dX4_addPlace_87 : decode cX4_addPlace 87 = .ok (.iload 7, 2) := by decide +kernel
theorem dX4_addPlace_89 : decode cX4_addPlace 89 = .ok (.isub, 1) := by decide +kernel
theorem dX4_addPlace_90 : decode cX4_addPlace 90 = .ok (.invokestatic 66, 3) := by decide +kernel
theorem dX4_addPlace_93 : decode cX4_addPlace 93 = .ok (.iastore, 1) := by decide +kernel
theorem dX4_addPlace_94 : decode cX4_addPlace 94 = .ok (.iload 6, 2) := by decide +kernel
theorem dX4_addPlace_96 : decode cX4_addPlace 96 = .ok (.istore 4, 2) := by decide +kernel
theorem dX4_addPlace_98 : decode cX4_addPlace 98 = .ok (.iinc 5 1, 3) := by decide +kernel
theorem dX4_addPlace_101 : decode cX4_addPlace 101 = .ok (.goto (-90), 3) := by decide +kernel
theorem dX4_addPlace_104 : decode cX4_addPlace 104 = .ok (.return_, 1) := by decide +kernel
theorem dX5_init_0 : decode cX5_init 0 = .ok (.aload_n 0, 1) := by decide +kernel
theorem dX5_init_1 : decode cX5_init 1 = .ok (.invokespecial 1, 3) := by decide +kernel
theorem dX5_init_4 : decode cX5_init 4 = .ok (.aload_n 0, 1) := by decide +kernel
theorem dX5_init_5 : decode cX5_init 5 = .ok (.iload_n 1, 1) := by decide +kernel
theorem dX5_init_6 : decode cX5_init 6 = .ok (.newarray .int, 2) := by decide +kernel
theorem dX5_init_8 : decode cX5_init 8 = .ok (.putfield 7, 3) := by decide +kernel
theorem dX5_init_11 : decode cX5_init 11 = .ok (.aload_n 0, 1) := by decide +kernel
theorem dX5_init_12 : decode cX5_init 12 = .ok (.iload_n 1, 1) := by decide +kernel
theorem dX5_init_13 : decode cX5_init 13 = .ok (.newarray .int, 2) := by decide +kernel
theorem dX5_init_15 : decode cX5_init 15 = .ok (.putfield 13, 3) := by decide +kernel
theorem dX5_init_18 : decode cX5_init 18 = .ok (.return_, 1) := by decide +kernel
theorem dX5_add_0 : decode cX5_add 0 = .ok (.aload_n 0, 1) := by decide +kernel
theorem dX5_add_1 : decode cX5_add 1 = .ok (.getfield 7, 3) := by decide +kernel
theorem dX5_add_4 : decode cX5_add 4 = .ok (.aload_n 0, 1) := by decide +kernel
theorem dX5_add_5 : decode cX5_add 5 = .ok (.getfield 16, 3) := by decide +kernel
theorem dX5_add_8 : decode cX5_add 8 = .ok (.iload_n 1, 1) := by decide +kernel
theorem dX5_add_9 : decode cX5_add 9 = .ok (.iastore, 1) := by decide +kernel
theorem dX5_add_10 : decode cX5_add 10 = .ok (.aload_n 0, 1) := by decide +kernel
theorem dX5_add_11 : decode cX5_add 11 = .ok (.getfield 13, 3) := by decide +kernel
theorem dX5_add_14 : decode cX5_add 14 = .ok (.aload_n 0, 1) := by decide +kernel
theorem dX5_add_15 : decode cX5_add 15 = .ok (.getfield 16, 3) := by decide +kernel
theorem dX5_add_18 : decode cX5_add 18 = .ok (.iload_n 2, 1) := by decide +kernel
theorem dX5_add_19 : decode cX5_add 19 = .ok (.iastore, 1) := by decide +kernel
theorem dX5_add_20 : decode cX5_add 20 = .ok (.aload_n 0, 1) := by decide +kernel
theorem dX5_add_21 : decode cX5_add 21 = .ok (.dup, 1) := by decide +kernel
theorem dX5_add_22 : decode cX5_add 22 = .ok (.getfield 16, 3) := by decide +kernel
theorem dX5_add_25 : decode cX5_add 25 = .ok (.iconst 1, 1) := by decide +kernel
theorem dX5_add_26 : decode cX5_add 26 = .ok (.iadd, 1) := by decide +kernel
theorem dX5_add_27 : decode cX5_add 27 = .ok (.putfield 16, 3) := by decide +kernel
theorem dX5_add_30 : decode cX5_add 30 = .ok (.aload_n 0, 1) := by decide +kernel
theorem dX5_add_31 : decode cX5_add 31 = .ok (.getfield 16, 3) := by decide +kernel
theorem dX5_add_34 : decode cX5_add 34 = .ok (.iconst 1, 1) := by decide +kernel
theorem dX5_add_35 : decode cX5_add 35 = .ok (.isub, 1) := by decide +kernel
theorem dX5_add_36 : decode cX5_add 36 = .ok (.ireturn, 1) := by decide +kernel
theorem dX6_init_0 : decode cX6_init 0 = .ok (.aload_n 0, 1) := by decide +kernel
theorem dX6_init_1 : decode cX6_init 1 = .ok (.invokespecial 5, 3) := by decide +kernel
theorem dX6_init_4 : decode cX6_init 4 = .ok (.aload_n 0, 1) := by decide +kernel
theorem dX6_init_5 : decode cX6_init 5 = .ok (.bipush 121, 2) := by decide +kernel
theorem dX6_init_7 : decode cX6_init 7 = .ok (.newarray .int, 2) := by decide +kernel
theorem dX6_init_9 : decode cX6_init 9 = .ok (.putfield 11, 3) := by decide +kernel
theorem dX6_init_12 : decode cX6_init 12 = .ok (.aload_n 0, 1) := by decide +kernel
theorem dX6_init_13 : decode cX6_init 13 = .ok (.sipush 10240, 3) := by decide +kernel
theorem dX6_init_16 : decode cX6_init 16 = .ok (.newarray .int, 2) := by decide +kernel
theorem dX6_init_18 : decode cX6_init 18 = .ok (.putfield 15, 3) := by decide +kernel
theorem dX6_init_21 : decode cX6_init 21 = .ok (.aload_n 0, 1) := by decide +kernel
theorem dX6_init_22 : decode cX6_init 22 = .ok (.sipush 1024, 3) := by decide +kernel
theorem dX6_init_25 : decode cX6_init 25 = .ok (.newarray .int, 2) := by decide +kernel
theorem dX6_init_27 : decode cX6_init 27 = .ok (.putfield 18, 3) := by decide +kernel
theorem dX6_init_30 : decode cX6_init 30 = .ok (.aload_n 0, 1) := by decide +kernel
theorem dX6_init_31 : decode cX6_init 31 = .ok (.sipush 1024, 3) := by decide +kernel
theorem dX6_init_34 : decode cX6_init 34 = .ok (.newarray .int, 2) := by decide +kernel
theorem dX6_init_36 : decode cX6_init 36 = .ok (.putfield 21, 3) := by decide +kernel
theorem dX6_init_39 : decode cX6_init 39 = .ok (.aload_n 0, 1) := by decide +kernel
theorem dX6_init_40 : decode cX6_init 40 = .ok (.aload_n 1, 1) := by decide +kernel
theorem dX6_init_41 : decode cX6_init 41 = .ok (.putfield 24, 3) := by decide +kernel
theorem dX6_init_44 : decode cX6_init 44 = .ok (.aload_n 0, 1) := by decide +kernel
theorem dX6_init_45 : decode cX6_init 45 = .ok (.aload_n 2, 1) := by decide +kernel
theorem dX6_init_46 : decode cX6_init 46 = .ok (.putfield 28, 3) := by decide +kernel
theorem dX6_init_49 : decode cX6_init 49 = .ok (.aload_n 0, 1) := by decide +kernel
theorem dX6_init_50 : decode cX6_init 50 = .ok (.aload_n 3, 1) := by decide +kernel
theorem dX6_init_51 : decode cX6_init 51 = .ok (.putfield 32, 3) := by decide +kernel
theorem dX6_init_54 : decode cX6_init 54 = .ok (.return_, 1) := by decide +kernel
theorem dX6_forget_0 : decode cX6_forget 0 = .ok (.aload_n 0, 1) := by decide +kernel
theorem dX6_forget_1 : decode cX6_forget 1 = .ok (.iconst 0, 1) := by decide +kernel
theorem dX6_forget_2 : decode cX6_forget 2 = .ok (.putfield 36, 3) := by decide +kernel
theorem dX6_forget_5 : decode cX6_forget 5 = .ok (.aload_n 0, 1) := by decide +kernel
theorem dX6_forget_6 : decode cX6_forget 6 = .ok (.iconst 0, 1) := by decide +kernel
theorem dX6_forget_7 : decode cX6_forget 7 = .ok (.putfield 40, 3) := by decide +kernel
theorem dX6_forget_10 : decode cX6_forget 10 = .ok (.return_, 1) := by decide +kernel
theorem dX6_learn_0 : decode cX6_learn 0 = .ok (.iload_n 1, 1) := by decide +kernel
theorem dX6_learn_1 : decode cX6_learn 1 = .ok (.aload_n 0, 1) := by decide +kernel
theorem dX6_learn_2 : decode cX6_learn 2 = .ok (.getfield 36, 3) := by decide +kernel
theorem dX6_learn_5 : decode cX6_learn 5 = .ok (.iconst (-1), 1) := by decide +kernel
theorem dX6_learn_6 : decode cX6_learn 6 = .ok (.ixor, 1) := by decide +kernel
theorem dX6_learn_7 : decode cX6_learn 7 = .ok (.iand, 1) := by decide +kernel
theorem dX6_learn_8 : decode cX6_learn 8 = .ok (.ifCond .ne 4, 3) := by decide +kernel
theorem dX6_learn_11 : decode cX6_learn 11 = .ok (.return_, 1) := by decide +kernel
theorem dX6_learn_12 : decode cX6_learn 12 = .ok (.aload_n 0, 1) := by decide +kernel
theorem dX6_learn_13 : decode cX6_learn 13 = .ok (.iload_n 1, 1) := by decide +kernel
theorem dX6_learn_14 : decode cX6_learn 14 = .ok (.sipush 1024, 3) := by decide +kernel
theorem dX6_learn_17 : decode cX6_learn 17 = .ok (.ior, 1) := by decide +kernel
theorem dX6_learn_18 : decode cX6_learn 18 = .ok (.invokevirtual 43, 3) := by decide +kernel
theorem dX6_learn_21 : decode cX6_learn 21 = .ok (.iconst 1, 1) := by decide +kernel
theorem dX6_learn_22 : decode cX6_learn 22 = .ok (.istore_n 2, 1) := by decide +kernel
theorem dX6_learn_23 : decode cX6_learn 23 = .ok (.iload_n 2, 1) := by decide +kernel
theorem dX6_learn_24 : decode cX6_learn 24 = .ok (.iload_n 1, 1) := by decide +kernel
theorem dX6_learn_25 : decode cX6_learn 25 = .ok (.if_icmp .gt 35, 3) := by decide +kernel
theorem dX6_learn_28 : decode cX6_learn 28 = .ok (.iload_n 2, 1) := by decide +kernel
theorem dX6_learn_29 : decode cX6_learn 29 = .ok (.iload_n 1, 1) := by decide +kernel
theorem dX6_learn_30 : decode cX6_learn 30 = .ok (.iconst (-1), 1) := by decide +kernel
theorem dX6_learn_31 : decode cX6_learn 31 = .ok (.ixor, 1) := by decide +kernel
theorem dX6_learn_32 : decode cX6_learn 32 = .ok (.iand, 1) := by decide +kernel
theorem dX6_learn_33 : decode cX6_learn 33 = .ok (.ifCond .ne 21, 3) := by decide +kernel
theorem dX6_learn_36 : decode cX6_learn 36 = .ok (.aload_n 0, 1) := by decide +kernel
theorem dX6_learn_37 : decode cX6_learn 37 = .ok (.iload_n 2, 1) := by decide +kernel
theorem dX6_learn_38 : decode cX6_learn 38 = .ok (.invokevirtual 47, 3) := by decide +kernel
theorem dX6_learn_41 : decode cX6_learn 41 = .ok (.aload_n 0, 1) := by decide +kernel
theorem dX6_learn_42 : decode cX6_learn 42 = .ok (.getfield 18, 3) := by decide +kernel
theorem dX6_learn_45 : decode cX6_learn 45 = .ok (.iload_n 2, 1) := by decide +kernel
theorem dX6_learn_46 : decode cX6_learn 46 = .ok (.aload_n 0, 1) := by decide +kernel
theorem dX6_learn_47 : decode cX6_learn 47 = .ok (.bipush 10, 2) := by decide +kernel
theorem dX6_learn_49 : decode cX6_learn 49 = .ok (.iload_n 2, 1) := by decide +kernel
theorem dX6_learn_50 : decode cX6_learn 50 = .ok (.invokevirtual 50, 3) := by decide +kernel
theorem dX6_learn_53 : decode cX6_learn 53 = .ok (.iastore, 1) := by decide +kernel
theorem dX6_learn_54 : decode cX6_learn 54 = .ok (.iinc 2 1, 3) := by decide +kernel
theorem dX6_learn_57 : decode cX6_learn 57 = .ok (.goto (-34), 3) := by decide +kernel
theorem dX6_learn_60 : decode cX6_learn 60 = .ok (.aload_n 0, 1) := by decide +kernel
theorem dX6_learn_61 : decode cX6_learn 61 = .ok (.iload_n 1, 1) := by decide +kernel
theorem dX6_learn_62 : decode cX6_learn 62 = .ok (.putfield 36, 3) := by decide +kernel
theorem dX6_learn_65 : decode cX6_learn 65 = .ok (.aload_n 0, 1) := by decide +kernel
theorem dX6_learn_66 : decode cX6_learn 66 = .ok (.iconst 0, 1) := by decide +kernel
theorem dX6_learn_67 : decode cX6_learn 67 = .ok (.putfield 40, 3) := by decide +kernel
theorem dX6_learn_70 : decode cX6_learn 70 = .ok (.return_, 1) := by decide +kernel
theorem dX6_measureLegs_0 : decode cX6_measureLegs 0 = .ok (.iconst 0, 1) := by decide +kernel
theorem dX6_measureLegs_1 : decode cX6_measureLegs 1 = .ok (.istore_n 2, 1) := by decide +kernel
theorem dX6_measureLegs_2 : decode cX6_measureLegs 2 = .ok (.iload_n 2, 1) := by decide +kernel
theorem dX6_measureLegs_3 : decode cX6_measureLegs 3 = .ok (.bipush 11, 2) := by decide +kernel
theorem dX6_measureLegs_5 : decode cX6_measureLegs 5 = .ok (.if_icmp .ge 125, 3) := by decide +kernel
theorem dX6_measureLegs_8 : decode cX6_measureLegs 8 = .ok (.iconst 0, 1) := by decide +kernel
theorem dX6_measureLegs_9 : decode cX6_measureLegs 9 = .ok (.istore_n 3, 1) := by decide +kernel
theorem dX6_measureLegs_10 : decode cX6_measureLegs 10 = .ok (.iload_n 3, 1) := by decide +kernel
theorem dX6_measureLegs_11 : decode cX6_measureLegs 11 = .ok (.bipush 11, 2) := by decide +kernel
theorem dX6_measureLegs_13 : decode cX6_measureLegs 13 = .ok (.if_icmp .ge 111, 3) := by decide +kernel
theorem dX6_measureLegs_16 : decode cX6_measureLegs 16 = .ok (.iload_n 2, 1) := by decide +kernel
theorem dX6_measureLegs_17 : decode cX6_measureLegs 17 = .ok (.iload_n 3, 1) := by decide +kernel
theorem dX6_measureLegs_18 : decode cX6_measureLegs 18 = .ok (.if_icmp .eq 100, 3) := by decide +kernel
theorem dX6_measureLegs_21 : decode cX6_measureLegs 21 = .ok (.iload_n 1, 1) := by decide +kernel
theorem dX6_measureLegs_22 : decode cX6_measureLegs 22 = .ok (.iload_n 2, 1) := by decide +kernel
theorem dX6_measureLegs_23 : decode cX6_measureLegs 23 = .ok (.invokestatic 54, 3) := by decide +kernel
theorem dX6_measureLegs_26 : decode cX6_measureLegs 26 = .ok (.ifCond .eq 92, 3) := by decide +kernel
theorem dX6_measureLegs_29 : decode cX6_measureLegs 29 = .ok (.iload_n 1, 1) := by decide +kernel
theorem dX6_measureLegs_30 : decode cX6_measureLegs 30 = .ok (.iload_n 3, 1) := by decide +kernel
theorem dX6_measureLegs_31 : decode cX6_measureLegs 31 = .ok (.invokestatic 54, 3) := by decide +kernel
theorem dX6_measureLegs_34 : decode cX6_measureLegs 34 = .ok (.ifCond .eq 84, 3) := by decide +kernel
theorem dX6_measureLegs_37 : decode cX6_measureLegs 37 = .ok (.aload_n 0, 1) := by decide +kernel
theorem dX6_measureLegs_38 : decode cX6_measureLegs 38 = .ok (.iload_n 2, 1) := by decide +kernel
theorem dX6_measureLegs_39 : decode cX6_measureLegs 39 = .ok (.invokevirtual 58, 3) := by decide +kernel
theorem dX6_measureLegs_42 : decode cX6_measureLegs 42 = .ok (.istore 4, 2) := by decide +kernel
theorem dX6_measureLegs_44 : decode cX6_measureLegs 44 = .ok (.aload_n 0, 1) := by decide +kernel
theorem dX6_measureLegs_45 : decode cX6_measureLegs 45 = .ok (.iload_n 2, 1) := by decide +kernel
theorem dX6_measureLegs_46 : decode cX6_measureLegs 46 = .ok (.invokevirtual 62, 3) := by decide +kernel
theorem dX6_measureLegs_49 : decode cX6_measureLegs 49 = .ok (.istore 5, 2) := by decide +kernel
theorem dX6_measureLegs_51 : decode cX6_measureLegs 51 = .ok (.aload_n 0, 1) := by decide +kernel
theorem dX6_measureLegs_52 : decode cX6_measureLegs 52 = .ok (.getfield 28, 3) := by decide +kernel
theorem dX6_measureLegs_55 : decode cX6_measureLegs 55 = .ok (.iload 4, 2) := by decide +kernel
theorem dX6_measureLegs_57 : decode cX6_measureLegs 57 = .ok (.iload 5, 2) := by decide +kernel
theorem dX6_measureLegs_59 : decode cX6_measureLegs 59 = .ok (.aload_n 0, 1) := by decide +kernel
theorem dX6_measureLegs_60 : decode cX6_measureLegs 60 = .ok (.iload_n 3, 1) := by decide +kernel
theorem dX6_measureLegs_61 : decode cX6_measureLegs 61 = .ok (.invokevirtual 58, 3) := by decide +kernel
theorem dX6_measureLegs_64 : decode cX6_measureLegs 64 = .ok (.aload_n 0, 1) := by decide +kernel
theorem dX6_measureLegs_65 : decode cX6_measureLegs 65 = .ok (.iload_n 3, 1) := by decide +kernel
theorem dX6_measureLegs_66 : decode cX6_measureLegs 66 = .ok (.invokevirtual 62, 3) := by decide +kernel
theorem dX6_measureLegs_69 : decode cX6_measureLegs 69 = .ok (.invokevirtual 65, 3) := by decide +kernel
theorem dX6_measureLegs_72 : decode cX6_measureLegs 72 = .ok (.istore 6, 2) := by decide +kernel
theorem dX6_measureLegs_74 : decode cX6_measureLegs 74 = .ok (.aload_n 0, 1) := by decide +kernel
theorem dX6_measureLegs_75 : decode cX6_measureLegs 75 = .ok (.getfield 11, 3) := by decide +kernel
theorem dX6_measureLegs_78 : decode cX6_measureLegs 78 = .ok (.iload_n 2, 1) := by decide +kernel
theorem dX6_measureLegs_79 : decode cX6_measureLegs 79 = .ok (.bipush 11, 2) := by decide +kernel
theorem dX6_measureLegs_81 : decode cX6_measureLegs 81 = .ok (.imul, 1) := by decide +kernel
theorem dX6_measureLegs_82 : decode cX6_measureLegs 82 = .ok (.iload_n 3, 1) := by decide +kernel
theorem dX6_measureLegs_83 : decode cX6_measureLegs 83 = .ok (.iadd, 1) := by decide +kernel
theorem dX6_measureLegs_84 : decode cX6_measureLegs 84 = .ok (.iload 6, 2) := by decide +kernel
theorem dX6_measureLegs_86 : decode cX6_measureLegs 86 = .ok (.ifCond .eq 8, 3) := by decide +kernel
theorem dX6_measureLegs_89 : decode cX6_measureLegs 89 = .ok (.ldc 71, 2) := by decide +kernel
theorem dX6_measureLegs_91 : decode cX6_measureLegs 91 = .ok (.goto 26, 3) := by decide +kernel
theorem dX6_measureLegs_94 : decode cX6_measureLegs 94 = .ok (.aload_n 0, 1) := by decide +kernel
theorem dX6_measureLegs_95 : decode cX6_measureLegs 95 = .ok (.getfield 28, 3) := by decide +kernel
theorem dX6_measureLegs_98 : decode cX6_measureLegs 98 = .ok (.aload_n 0, 1) := by decide +kernel
theorem dX6_measureLegs_99 : decode cX6_measureLegs 99 = .ok (.iload_n 3, 1) := by decide +kernel
theorem dX6_measureLegs_100 : decode cX6_measureLegs 100 = .ok (.invokevirtual 58, 3) := by decide +kernel
theorem dX6_measureLegs_103 : decode cX6_measureLegs 103 = .ok (.iload 4, 2) := by decide +kernel
theorem dX6_measureLegs_105 : decode cX6_measureLegs 105 = .ok (.isub, 1) := by decide +kernel
theorem dX6_measureLegs_106 : decode cX6_measureLegs 106 = .ok (.aload_n 0, 1) := by decide +kernel
theorem dX6_measureLegs_107 : decode cX6_measureLegs 107 = .ok (.iload_n 3, 1) := by decide +kernel
theorem dX6_measureLegs_108 : decode cX6_measureLegs 108 = .ok (.invokevirtual 62, 3) := by decide +kernel
theorem dX6_measureLegs_111 : decode cX6_measureLegs 111 = .ok (.iload 5, 2) := by decide +kernel
theorem dX6_measureLegs_113 : decode cX6_measureLegs 113 = .ok (.isub, 1) := by decide +kernel
theorem dX6_measureLegs_114 : decode cX6_measureLegs 114 = .ok (.invokevirtual 72, 3) := by decide +kernel
theorem dX6_measureLegs_117 : decode cX6_measureLegs 117 = .ok (.iastore, 1) := by decide +kernel
theorem dX6_measureLegs_118 : decode cX6_measureLegs 118 = .ok (.iinc 3 1, 3) := by decide +kernel
theorem dX6_measureLegs_121 : decode cX6_measureLegs 121 = .ok (.goto (-111), 3) := by decide +kernel
theorem dX6_measureLegs_124 : decode cX6_measureLegs 124 = .ok (.iinc 2 1, 3) := by decide +kernel
theorem dX6_measureLegs_127 : decode cX6_measureLegs 127 = .ok (.goto (-125), 3) := by decide +kernel
theorem dX6_measureLegs_130 : decode cX6_measureLegs 130 = .ok (.return_, 1) := by decide +kernel
theorem dX6_xOf_0 : decode cX6_xOf 0 = .ok (.iload_n 1, 1) := by decide +kernel
theorem dX6_xOf_1 : decode cX6_xOf 1 = .ok (.bipush 10, 2) := by decide +kernel
theorem dX6_xOf_3 : decode cX6_xOf 3 = .ok (.if_icmp .ne 13, 3) := by decide +kernel
theorem dX6_xOf_6 : decode cX6_xOf 6 = .ok (.aload_n 0, 1) := by decide +kernel
theorem dX6_xOf_7 : decode cX6_xOf 7 = .ok (.getfield 32, 3) := by decide +kernel
theorem dX6_xOf_10 : decode cX6_xOf 10 = .ok (.getfield 75, 3) := by decide +kernel
theorem dX6_xOf_13 : decode cX6_xOf 13 = .ok (.goto 12, 3) := by decide +kernel
theorem dX6_xOf_16 : decode cX6_xOf 16 = .ok (.aload_n 0, 1) := by decide +kernel
theorem dX6_xOf_17 : decode cX6_xOf 17 = .ok (.getfield 24, 3) := by decide +kernel
theorem dX6_xOf_20 : decode cX6_xOf 20 = .ok (.getfield 80, 3) := by decide +kernel
theorem dX6_xOf_23 : decode cX6_xOf 23 = .ok (.iload_n 1, 1) := by decide +kernel
theorem dX6_xOf_24 : decode cX6_xOf 24 = .ok (.iaload, 1) := by decide +kernel
theorem dX6_xOf_25 : decode cX6_xOf 25 = .ok (.ireturn, 1) := by decide +kernel
theorem dX6_yOf_0 : decode cX6_yOf 0 = .ok (.iload_n 1, 1) := by decide +kernel
theorem dX6_yOf_1 : decode cX6_yOf 1 = .ok (.bipush 10, 2) := by decide +kernel
theorem dX6_yOf_3 : decode cX6_yOf 3 = .ok (.if_icmp .ne 13, 3) := by decide +kernel
theorem dX6_yOf_6 : decode cX6_yOf 6 = .ok (.aload_n 0, 1) := by decide +kernel
theorem dX6_yOf_7 : decode cX6_yOf 7 = .ok (.getfield 32, 3) := by decide +kernel
theorem dX6_yOf_10 : decode cX6_yOf 10 = .ok (.getfield 85, 3) := by decide +kernel
theorem dX6_yOf_13 : decode cX6_yOf 13 = .ok (.goto 12, 3) := by decide +kernel
theorem dX6_yOf_16 : decode cX6_yOf 16 = .ok (.aload_n 0, 1) := by decide +kernel
theorem dX6_yOf_17 : decode cX6_yOf 17 = .ok (.getfield 24, 3) := by decide +kernel
theorem dX6_yOf_20 : decode cX6_yOf 20 = .ok (.getfield 88, 3) := by decide +kernel
theorem dX6_yOf_23 : decode cX6_yOf 23 = .ok (.iload_n 1, 1) := by decide +kernel
theorem dX6_yOf_24 : decode cX6_yOf 24 = .ok (.iaload, 1) := by decide +kernel
theorem dX6_yOf_25 : decode cX6_yOf 25 = .ok (.ireturn, 1) := by decide +kernel
theorem dX6_fillTails_0 : decode cX6_fillTails 0 = .ok (.iconst 0, 1) := by decide +kernel
theorem dX6_fillTails_1 : decode cX6_fillTails 1 = .ok (.istore_n 2, 1) := by decide +kernel
theorem dX6_fillTails_2 : decode cX6_fillTails 2 = .ok (.iload_n 2, 1) := by decide +kernel
theorem dX6_fillTails_3 : decode cX6_fillTails 3 = .ok (.bipush 10, 2) := by decide +kernel
theorem dX6_fillTails_5 : decode cX6_fillTails 5 = .ok (.if_icmp .ge 48, 3) := by decide +kernel
theorem dX6_fillTails_8 : decode cX6_fillTails 8 = .ok (.iload_n 1, 1) := by decide +kernel
theorem dX6_fillTails_9 : decode cX6_fillTails 9 = .ok (.iload_n 2, 1) := by decide +kernel
theorem dX6_fillTails_10 : decode cX6_fillTails 10 = .ok (.invokestatic 54, 3) := by decide +kernel
theorem dX6_fillTails_13 : decode cX6_fillTails 13 = .ok (.ifCond .eq 34, 3) := by decide +kernel
theorem dX6_fillTails_16 : decode cX6_fillTails 16 = .ok (.aload_n 0, 1) := by decide +kernel
theorem dX6_fillTails_17 : decode cX6_fillTails 17 = .ok (.getfield 15, 3) := by decide +kernel
theorem dX6_fillTails_20 : decode cX6_fillTails 20 = .ok (.iload_n 1, 1) := by decide +kernel
theorem dX6_fillTails_21 : decode cX6_fillTails 21 = .ok (.bipush 10, 2) := by decide +kernel
theorem dX6_fillTails_23 : decode cX6_fillTails 23 = .ok (.imul, 1) := by decide +kernel
theorem dX6_fillTails_24 : decode cX6_fillTails 24 = .ok (.iload_n 2, 1) := by decide +kernel
theorem dX6_fillTails_25 : decode cX6_fillTails 25 = .ok (.iadd, 1) := by decide +kernel
theorem dX6_fillTails_26 : decode cX6_fillTails 26 = .ok (.aload_n 0, 1) := by decide +kernel
theorem dX6_fillTails_27 : decode cX6_fillTails 27 = .ok (.getfield 32, 3) := by decide +kernel
theorem dX6_fillTails_30 : decode cX6_fillTails 30 = .ok (.getfield 91, 3) := by decide +kernel
theorem dX6_fillTails_33 : decode cX6_fillTails 33 = .ok (.aload_n 0, 1) := by decide +kernel
theorem dX6_fillTails_34 : decode cX6_fillTails 34 = .ok (.iload_n 2, 1) := by decide +kernel
theorem dX6_fillTails_35 : decode cX6_fillTails 35 = .ok (.iload_n 1, 1) := by decide +kernel
theorem dX6_fillTails_36 : decode cX6_fillTails 36 = .ok (.iconst 1, 1) := by decide +kernel
theorem dX6_fillTails_37 : decode cX6_fillTails 37 = .ok (.iload_n 2, 1) := by decide +kernel
theorem dX6_fillTails_38 : decode cX6_fillTails 38 = .ok (.ishl, 1) := by decide +kernel
theorem dX6_fillTails_39 : decode cX6_fillTails 39 = .ok (.iconst (-1), 1) := by decide +kernel
theorem dX6_fillTails_40 : decode cX6_fillTails 40 = .ok (.ixor, 1) := by decide +kernel
theorem dX6_fillTails_41 : decode cX6_fillTails 41 = .ok (.iand, 1) := by decide +kernel
theorem dX6_fillTails_42 : decode cX6_fillTails 42 = .ok (.invokevirtual 50, 3) := by decide +kernel
theorem dX6_fillTails_45 : decode cX6_fillTails 45 = .ok (.iadd, 1) := by decide +kernel
theorem dX6_fillTails_46 : decode cX6_fillTails 46 = .ok (.iastore, 1) := by decide +kernel
theorem dX6_fillTails_47 : decode cX6_fillTails 47 = .ok (.iinc 2 1, 3) := by decide +kernel
theorem dX6_fillTails_50 : decode cX6_fillTails 50 = .ok (.goto (-48), 3) := by decide +kernel
theorem dX6_fillTails_53 : decode cX6_fillTails 53 = .ok (.return_, 1) := by decide +kernel
theorem dX6_costFrom_0 : decode cX6_costFrom 0 = .ok (.iload_n 2, 1) := by decide +kernel
theorem dX6_costFrom_1 : decode cX6_costFrom 1 = .ok (.ifCond .ne 16, 3) := by decide +kernel
theorem dX6_costFrom_4 : decode cX6_costFrom 4 = .ok (.aload_n 0, 1) := by decide +kernel
theorem dX6_costFrom_5 : decode cX6_costFrom 5 = .ok (.getfield 11, 3) := by decide +kernel
theorem dX6_costFrom_8 : decode cX6_costFrom 8 = .ok (.iload_n 1, 1) := by decide +kernel
theorem dX6_costFrom_9 : decode cX6_costFrom 9 = .ok (.bipush 11, 2) := by decide +kernel
theorem dX6_costFrom_11 : decode cX6_costFrom 11 = .ok (.imul, 1) := by decide +kernel
theorem dX6_costFrom_12 : decode cX6_costFrom 12 = .ok (.bipush 10, 2) := by decide +kernel
theorem dX6_costFrom_14 : decode cX6_costFrom 14 = .ok (.iadd, 1) := by decide +kernel
theorem dX6_costFrom_15 : decode cX6_costFrom 15 = .ok (.iaload, 1) := by decide +kernel
theorem dX6_costFrom_16 : decode cX6_costFrom 16 = .ok (.ireturn, 1) := by decide +kernel
theorem dX6_costFrom_17 : decode cX6_costFrom 17 = .ok (.ldc 71, 2) := by decide +kernel
theorem dX6_costFrom_19 : decode cX6_costFrom 19 = .ok (.istore_n 3, 1) := by decide +kernel
theorem dX6_costFrom_20 : decode cX6_costFrom 20 = .ok (.iconst 0, 1) := by decide +kernel
theorem dX6_costFrom_21 : decode cX6_costFrom 21 = .ok (.istore 4, 2) := by decide +kernel
theorem dX6_costFrom_23 : decode cX6_costFrom 23 = .ok (.iload 4, 2) := by decide +kernel
theorem dX6_costFrom_25 : decode cX6_costFrom 25 = .ok (.bipush 10, 2) := by decide +kernel
theorem dX6_costFrom_27 : decode cX6_costFrom 27 = .ok (.if_icmp .ge 31, 3) := by decide +kernel
theorem dX6_costFrom_30 : decode cX6_costFrom 30 = .ok (.iload_n 2, 1) := by decide +kernel
theorem dX6_costFrom_31 : decode cX6_costFrom 31 = .ok (.iload 4, 2) := by decide +kernel
theorem dX6_costFrom_33 : decode cX6_costFrom 33 = .ok (.invokestatic 54, 3) := by decide +kernel
theorem dX6_costFrom_36 : decode cX6_costFrom 36 = .ok (.ifCond .eq 16, 3) := by decide +kernel
theorem dX6_costFrom_39 : decode cX6_costFrom 39 = .ok (.iload_n 3, 1) := by decide +kernel
theorem dX6_costFrom_40 : decode cX6_costFrom 40 = .ok (.aload_n 0, 1) := by decide +kernel
theorem dX6_costFrom_41 : decode cX6_costFrom 41 = .ok (.iload_n 1, 1) := by decide +kernel
theorem dX6_costFrom_42 : decode cX6_costFrom 42 = .ok (.iload_n 2, 1) := by decide +kernel
theorem dX6_costFrom_43 : decode cX6_costFrom 43 = .ok (.iload 4, 2) := by decide +kernel
theorem dX6_costFrom_45 : decode cX6_costFrom 45 = .ok (.invokevirtual 94, 3) := by decide +kernel
theorem dX6_costFrom_48 : decode cX6_costFrom 48 = .ok (.invokestatic 98, 3) := by decide +kernel
theorem dX6_costFrom_51 : decode cX6_costFrom 51 = .ok (.istore_n 3, 1) := by decide +kernel
theorem dX6_costFrom_52 : decode cX6_costFrom 52 = .ok (.iinc 4 1, 3) := by decide +kernel
theorem dX6_costFrom_55 : decode cX6_costFrom 55 = .ok (.goto (-32), 3) := by decide +kernel
theorem dX6_costFrom_58 : decode cX6_costFrom 58 = .ok (.iload_n 3, 1) := by decide +kernel
theorem dX6_costFrom_59 : decode cX6_costFrom 59 = .ok (.ireturn, 1) := by decide +kernel
theorem dX6_costBy_0 : decode cX6_costBy 0 = .ok (.aload_n 0, 1) := by decide +kernel
theorem dX6_costBy_1 : decode cX6_costBy 1 = .ok (.getfield 11, 3) := by decide +kernel
theorem dX6_costBy_4 : decode cX6_costBy 4 = .ok (.iload_n 1, 1) := by decide +kernel
theorem dX6_costBy_5 : decode cX6_costBy 5 = .ok (.bipush 11, 2) := by decide +kernel
theorem dX6_costBy_7 : decode cX6_costBy 7 = .ok (.imul, 1) := by decide +kernel
theorem dX6_costBy_8 : decode cX6_costBy 8 = .ok (.iload_n 3, 1) := by decide +kernel
theorem dX6_costBy_9 : decode cX6_costBy 9 = .ok (.iadd, 1) := by decide +kernel
theorem dX6_costBy_10 : decode cX6_costBy 10 = .ok (.iaload, 1) := by decide +kernel
theorem dX6_costBy_11 : decode cX6_costBy 11 = .ok (.aload_n 0, 1) := by decide +kernel
theorem dX6_costBy_12 : decode cX6_costBy 12 = .ok (.getfield 15, 3) := by decide +kernel
theorem dX6_costBy_15 : decode cX6_costBy 15 = .ok (.iload_n 2, 1) := by decide +kernel
theorem dX6_costBy_16 : decode cX6_costBy 16 = .ok (.bipush 10, 2) := by decide +kernel
theorem dX6_costBy_18 : decode cX6_costBy 18 = .ok (.imul, 1) := by decide +kernel
theorem dX6_costBy_19 : decode cX6_costBy 19 = .ok (.iload_n 3, 1) := by decide +kernel
theorem dX6_costBy_20 : decode cX6_costBy 20 = .ok (.iadd, 1) := by decide +kernel
theorem dX6_costBy_21 : decode cX6_costBy 21 = .ok (.iaload, 1) := by decide +kernel
theorem dX6_costBy_22 : decode cX6_costBy 22 = .ok (.iadd, 1) := by decide +kernel
theorem dX6_costBy_23 : decode cX6_costBy 23 = .ok (.ireturn, 1) := by decide +kernel
theorem dX6_roundCost_0 : decode cX6_roundCost 0 = .ok (.aload_n 0, 1) := by decide +kernel
theorem dX6_roundCost_1 : decode cX6_roundCost 1 = .ok (.iload_n 1, 1) := by decide +kernel
theorem dX6_roundCost_2 : decode cX6_roundCost 2 = .ok (.invokevirtual 103, 3) := by decide +kernel
theorem dX6_roundCost_5 : decode cX6_roundCost 5 = .ok (.ifCond .eq 12, 3) := by decide +kernel
theorem dX6_roundCost_8 : decode cX6_roundCost 8 = .ok (.aload_n 0, 1) := by decide +kernel
theorem dX6_roundCost_9 : decode cX6_roundCost 9 = .ok (.getfield 18, 3) := by decide +kernel
theorem dX6_roundCost_12 : decode cX6_roundCost 12 = .ok (.iload_n 1, 1) := by decide +kernel
theorem dX6_roundCost_13 : decode cX6_roundCost 13 = .ok (.iaload, 1) := by decide +kernel
theorem dX6_roundCost_14 : decode cX6_roundCost 14 = .ok (.goto 5, 3) := by decide +kernel
theorem dX6_roundCost_17 : decode cX6_roundCost 17 = .ok (.bipush (-9), 2) := by decide +kernel
theorem dX6_roundCost_19 : decode cX6_roundCost 19 = .ok (.ireturn, 1) := by decide +kernel
theorem dX6_hasRound_0 : decode cX6_hasRound 0 = .ok (.iload_n 1, 1) := by decide +kernel
theorem dX6_hasRound_1 : decode cX6_hasRound 1 = .ok (.ifCond .eq 18, 3) := by decide +kernel
theorem dX6_hasRound_4 : decode cX6_hasRound 4 = .ok (.aload_n 0, 1) := by decide +kernel
theorem dX6_hasRound_5 : decode cX6_hasRound 5 = .ok (.getfield 18, 3) := by decide +kernel
theorem dX6_hasRound_8 : decode cX6_hasRound 8 = .ok (.iload_n 1, 1) := by decide +kernel
theorem dX6_hasRound_9 : decode cX6_hasRound 9 = .ok (.iaload, 1) := by decide +kernel
theorem dX6_hasRound_10 : decode cX6_hasRound 10 = .ok (.ldc 71, 2) := by decide +kernel
theorem dX6_hasRound_12 : decode cX6_hasRound 12 = .ok (.if_icmp .ge 7, 3) := by decide +kernel
theorem dX6_hasRound_15 : decode cX6_hasRound 15 = .ok (.iconst 1, 1) := by decide +kernel
theorem dX6_hasRound_16 : decode cX6_hasRound 16 = .ok (.goto 4, 3) := by decide +kernel
theorem dX6_hasRound_19 : decode cX6_hasRound 19 = .ok (.iconst 0, 1) := by decide +kernel
theorem dX6_hasRound_20 : decode cX6_hasRound 20 = .ok (.ireturn, 1) := by decide +kernel
theorem dX6_viewAt_0 : decode cX6_viewAt 0 = .ok (.aload_n 0, 1) := by decide +kernel
theorem dX6_viewAt_1 : decode cX6_viewAt 1 = .ok (.iload_n 1, 1) := by decide +kernel
theorem dX6_viewAt_2 : decode cX6_viewAt 2 = .ok (.invokevirtual 103, 3) := by decide +kernel
theorem dX6_viewAt_5 : decode cX6_viewAt 5 = .ok (.ifCond .eq 15, 3) := by decide +kernel
theorem dX6_viewAt_8 : decode cX6_viewAt 8 = .ok (.iload_n 2, 1) := by decide +kernel
theorem dX6_viewAt_9 : decode cX6_viewAt 9 = .ok (.ifCond .lt 11, 3) := by decide +kernel
theorem dX6_viewAt_12 : decode cX6_viewAt 12 = .ok (.iload_n 2, 1) := by decide +kernel
theorem dX6_viewAt_13 : decode cX6_viewAt 13 = .ok (.iload_n 1, 1) := by decide +kernel
theorem dX6_viewAt_14 : decode cX6_viewAt 14 = .ok (.invokestatic 107, 3) := by decide +kernel
theorem dX6_viewAt_17 : decode cX6_viewAt 17 = .ok (.if_icmp .lt 6, 3) := by decide +kernel
theorem dX6_viewAt_20 : decode cX6_viewAt 20 = .ok (.bipush (-9), 2) := by decide +kernel
theorem dX6_viewAt_22 : decode cX6_viewAt 22 = .ok (.ireturn, 1) := by decide +kernel
theorem dX6_viewAt_23 : decode cX6_viewAt 23 = .ok (.bipush 10, 2) := by decide +kernel
theorem dX6_viewAt_25 : decode cX6_viewAt 25 = .ok (.istore_n 3, 1) := by decide +kernel
theorem dX6_viewAt_26 : decode cX6_viewAt 26 = .ok (.iload_n 1, 1) := by decide +kernel
theorem dX6_viewAt_27 : decode cX6_viewAt 27 = .ok (.istore 4, 2) := by decide +kernel
theorem dX6_viewAt_29 : decode cX6_viewAt 29 = .ok (.iconst 0, 1) := by decide +kernel
theorem dX6_viewAt_30 : decode cX6_viewAt 30 = .ok (.istore 5, 2) := by decide +kernel
theorem dX6_viewAt_32 : decode cX6_viewAt 32 = .ok (.iload 5, 2) := by decide +kernel
theorem dX6_viewAt_34 : decode cX6_viewAt 34 = .ok (.iload_n 2, 1) := by decide +kernel
theorem dX6_viewAt_35 : decode cX6_viewAt 35 = .ok (.if_icmp .gt 27, 3) := by decide +kernel
theorem dX6_viewAt_38 : decode cX6_viewAt 38 = .ok (.aload_n 0, 1) := by decide +kernel
theorem dX6_viewAt_39 : decode cX6_viewAt 39 = .ok (.iload_n 3, 1) := by decide +kernel
theorem dX6_viewAt_40 : decode cX6_viewAt 40 = .ok (.iload 4, 2) := by decide +kernel
theorem dX6_viewAt_42 : decode cX6_viewAt 42 = .ok (.invokevirtual 112, 3) := by decide +kernel
theorem dX6_viewAt_45 : decode cX6_viewAt 45 = .ok (.istore_n 3, 1) := by decide +kernel
theorem dX6_viewAt_46 : decode cX6_viewAt 46 = .ok (.iload 4, 2) := by decide +kernel
theorem dX6_viewAt_48 : decode cX6_viewAt 48 = .ok (.iconst 1, 1) := by decide +kernel
theorem dX6_viewAt_49 : decode cX6_viewAt 49 = .ok (.iload_n 3, 1) := by decide +kernel
theorem dX6_viewAt_50 : decode cX6_viewAt 50 = .ok (.ishl, 1) := by decide +kernel
theorem dX6_viewAt_51 : decode cX6_viewAt 51 = .ok (.iconst (-1), 1) := by decide +kernel
theorem dX6_viewAt_52 : decode cX6_viewAt 52 = .ok (.ixor, 1) := by decide +kernel
theorem dX6_viewAt_53 : decode cX6_viewAt 53 = .ok (.iand, 1) := by decide +kernel
theorem dX6_viewAt_54 : decode cX6_viewAt 54 = .ok (.istore 4, 2) := by decide +kernel
theorem dX6_viewAt_56 : decode cX6_viewAt 56 = .ok (.iinc 5 1, 3) := by decide +kernel
theorem dX6_viewAt_59 : decode cX6_viewAt 59 = .ok (.goto (-27), 3) := by decide +kernel
theorem dX6_viewAt_62 : decode cX6_viewAt 62 = .ok (.iload_n 3, 1) := by decide +kernel
theorem dX6_viewAt_63 : decode cX6_viewAt 63 = .ok (.ireturn, 1) := by decide +kernel
theorem dX6_nextView_0 : decode cX6_nextView 0 = .ok (.iconst 0, 1) := by decide +kernel
theorem dX6_nextView_1 : decode cX6_nextView 1 = .ok (.istore_n 3, 1) := by decide +kernel
theorem dX6_nextView_2 : decode cX6_nextView 2 = .ok (.ldc 115, 2) := by decide +kernel
theorem dX6_nextView_4 : decode cX6_nextView 4 = .ok (.istore 4, 2) := by decide +kernel
theorem dX6_nextView_6 : decode cX6_nextView 6 = .ok (.iconst 0, 1) := by decide +kernel
theorem dX6_nextView_7 : decode cX6_nextView 7 = .ok (.istore 5, 2) := by decide +kernel
theorem dX6_nextView_9 : decode cX6_nextView 9 = .ok (.iload 5, 2) := by decide +kernel
theorem dX6_nextView_11 : decode cX6_nextView 11 = .ok (.bipush 10, 2) := by decide +kernel
theorem dX6_nextView_13 : decode cX6_nextView 13 = .ok (.if_icmp .ge 44, 3) := by decide +kernel
theorem dX6_nextView_16 : decode cX6_nextView 16 = .ok (.iload_n 2, 1) := by decide +kernel
theorem dX6_nextView_17 : decode cX6_nextView 17 = .ok (.iload 5, 2) := by decide +kernel
theorem dX6_nextView_19 : decode cX6_nextView 19 = .ok (.invokestatic 54, 3) := by decide +kernel
theorem dX6_nextView_22 : decode cX6_nextView 22 = .ok (.ifCond .eq 29, 3) := by decide +kernel
theorem dX6_nextView_25 : decode cX6_nextView 25 = .ok (.aload_n 0, 1) := by decide +kernel
theorem dX6_nextView_26 : decode cX6_nextView 26 = .ok (.iload_n 1, 1) := by decide +kernel
theorem dX6_nextView_27 : decode cX6_nextView 27 = .ok (.iload_n 2, 1) := by decide +kernel
theorem dX6_nextView_28 : decode cX6_nextView 28 = .ok (.iload 5, 2) := by decide +kernel
theorem dX6_nextView_30 : decode cX6_nextView 30 = .ok (.invokevirtual 94, 3) := by decide +kernel
theorem dX6_nextView_33 : decode cX6_nextView 33 = .ok (.iload 4, 2) := by decide +kernel
theorem dX6_nextView_35 : decode cX6_nextView 35 = .ok (.if_icmp .ge 16, 3) := by decide +kernel
theorem dX6_nextView_38 : decode cX6_nextView 38 = .ok (.iload 5, 2) := by decide +kernel
theorem dX6_nextView_40 : decode cX6_nextView 40 = .ok (.istore_n 3, 1) := by decide +kernel
theorem dX6_nextView_41 : decode cX6_nextView 41 = .ok (.aload_n 0, 1) := by decide +kernel
theorem dX6_nextView_42 : decode cX6_nextView 42 = .ok (.iload_n 1, 1) := by decide +kernel
theorem dX6_nextView_43 : decode cX6_nextView 43 = .ok (.iload_n 2, 1) := by decide +kernel
theorem dX6_nextView_44 : decode cX6_nextView 44 = .ok (.iload 5, 2) := by decide +kernel
theorem dX6_nextView_46 : decode cX6_nextView 46 = .ok (.invokevirtual 94, 3) := by decide +kernel
theorem dX6_nextView_49 : decode cX6_nextView 49 = .ok (.istore 4, 2) := by decide +kernel
theorem dX6_nextView_51 : decode cX6_nextView 51 = .ok (.iinc 5 1, 3) := by decide +kernel
theorem dX6_nextView_54 : decode cX6_nextView 54 = .ok (.goto (-45), 3) := by decide +kernel
theorem dX6_nextView_57 : decode cX6_nextView 57 = .ok (.iload_n 3, 1) := by decide +kernel
theorem dX6_nextView_58 : decode cX6_nextView 58 = .ok (.ireturn, 1) := by decide +kernel
theorem dX6_fewestTrips_0 : decode cX6_fewestTrips 0 = .ok (.aload_n 0, 1) := by decide +kernel
theorem dX6_fewestTrips_1 : decode cX6_fewestTrips 1 = .ok (.iload_n 1, 1) := by decide +kernel
theorem dX6_fewestTrips_2 : decode cX6_fewestTrips 2 = .ok (.invokevirtual 116, 3) := by decide +kernel
theorem dX6_fewestTrips_5 : decode cX6_fewestTrips 5 = .ok (.aload_n 0, 1) := by decide +kernel
theorem dX6_fewestTrips_6 : decode cX6_fewestTrips 6 = .ok (.getfield 21, 3) := by decide +kernel
theorem dX6_fewestTrips_9 : decode cX6_fewestTrips 9 = .ok (.iload_n 1, 1) := by decide +kernel
theorem dX6_fewestTrips_10 : decode cX6_fewestTrips 10 = .ok (.iaload, 1) := by decide +kernel
theorem dX6_fewestTrips_11 : decode cX6_fewestTrips 11 = .ok (.ldc 119, 2) := by decide +kernel
theorem dX6_fewestTrips_13 : decode cX6_fewestTrips 13 = .ok (.if_icmp .ge 15, 3) := by decide +kernel
theorem dX6_fewestTrips_16 : decode cX6_fewestTrips 16 = .ok (.aload_n 0, 1) := by decide +kernel
theorem dX6_fewestTrips_17 : decode cX6_fewestTrips 17 = .ok (.getfield 21, 3) := by decide +kernel
theorem dX6_fewestTrips_20 : decode cX6_fewestTrips 20 = .ok (.iload_n 1, 1) := by decide +kernel
theorem dX6_fewestTrips_21 : decode cX6_fewestTrips 21 = .ok (.iaload, 1) := by decide +kernel
theorem dX6_fewestTrips_22 : decode cX6_fewestTrips 22 = .ok (.ldc 71, 2) := by decide +kernel
theorem dX6_fewestTrips_24 : decode cX6_fewestTrips 24 = .ok (.idiv, 1) := by decide +kernel
theorem dX6_fewestTrips_25 : decode cX6_fewestTrips 25 = .ok (.goto 5, 3) := by decide +kernel
theorem dX6_fewestTrips_28 : decode cX6_fewestTrips 28 = .ok (.bipush (-9), 2) := by decide +kernel
theorem dX6_fewestTrips_30 : decode cX6_fewestTrips 30 = .ok (.ireturn, 1) := by decide +kernel
theorem dX6_cheapestTrips_0 : decode cX6_cheapestTrips 0 = .ok (.aload_n 0, 1) := by decide +kernel
theorem dX6_cheapestTrips_1 : decode cX6_cheapestTrips 1 = .ok (.iload_n 1, 1) := by decide +kernel
theorem dX6_cheapestTrips_2 : decode cX6_cheapestTrips 2 = .ok (.invokevirtual 116, 3) := by decide +kernel
theorem dX6_cheapestTrips_5 : decode cX6_cheapestTrips 5 = .ok (.aload_n 0, 1) := by decide +kernel
theorem dX6_cheapestTrips_6 : decode cX6_cheapestTrips 6 = .ok (.getfield 21, 3) := by decide +kernel
theorem dX6_cheapestTrips_9 : decode cX6_cheapestTrips 9 = .ok (.iload_n 1, 1) := by decide +kernel
theorem dX6_cheapestTrips_10 : decode cX6_cheapestTrips 10 = .ok (.iaload, 1) := by decide +kernel
theorem dX6_cheapestTrips_11 : decode cX6_cheapestTrips 11 = .ok (.ldc 119, 2) := by decide +kernel
theorem dX6_cheapestTrips_13 : decode cX6_cheapestTrips 13 = .ok (.if_icmp .ge 15, 3) := by decide +kernel
theorem dX6_cheapestTrips_16 : decode cX6_cheapestTrips 16 = .ok (.aload_n 0, 1) := by decide +kernel
theorem dX6_cheapestTrips_17 : decode cX6_cheapestTrips 17 = .ok (.getfield 21, 3) := by decide +kernel
theorem dX6_cheapestTrips_20 : decode cX6_cheapestTrips 20 = .ok (.iload_n 1, 1) := by decide +kernel
theorem dX6_cheapestTrips_21 : decode cX6_cheapestTrips 21 = .ok (.iaload, 1) := by decide +kernel
theorem dX6_cheapestTrips_22 : decode cX6_cheapestTrips 22 = .ok (.ldc 71, 2) := by decide +kernel
theorem dX6_cheapestTrips_24 : decode cX6_cheapestTrips 24 = .ok (.irem, 1) := by decide +kernel
theorem dX6_cheapestTrips_25 : decode cX6_cheapestTrips 25 = .ok (.goto 5, 3) := by decide +kernel
theorem dX6_cheapestTrips_28 : decode cX6_cheapestTrips 28 = .ok (.bipush (-9), 2) := by decide +kernel
theorem dX6_cheapestTrips_30 : decode cX6_cheapestTrips 30 = .ok (.ireturn, 1) := by decide +kernel
theorem dX6_splitUp_0 : decode cX6_splitUp 0 = .ok (.iload_n 1, 1) := by decide +kernel
theorem dX6_splitUp_1 : decode cX6_splitUp 1 = .ok (.aload_n 0, 1) := by decide +kernel
theorem dX6_splitUp_2 : decode cX6_splitUp 2 = .ok (.getfield 40, 3) := by decide +kernel
theorem dX6_splitUp_5 : decode cX6_splitUp 5 = .ok (.iconst (-1), 1) := by decide +kernel
theorem dX6_splitUp_6 : decode cX6_splitUp 6 = .ok (.ixor, 1) := by decide +kernel
theorem dX6_splitUp_7 : decode cX6_splitUp 7 = .ok (.iand, 1) := by decide +kernel
theorem dX6_splitUp_8 : decode cX6_splitUp 8 = .ok (.ifCond .ne 4, 3) := by decide +kernel
theorem dX6_splitUp_11 : decode cX6_splitUp 11 = .ok (.return_, 1) := by decide +kernel
theorem dX6_splitUp_12 : decode cX6_splitUp 12 = .ok (.iconst 1, 1) := by decide +kernel
theorem dX6_splitUp_13 : decode cX6_splitUp 13 = .ok (.istore_n 2, 1) := by decide +kernel
theorem dX6_splitUp_14 : decode cX6_splitUp 14 = .ok (.iload_n 2, 1) := by decide +kernel
theorem dX6_splitUp_15 : decode cX6_splitUp 15 = .ok (.iload_n 1, 1) := by decide +kernel
theorem dX6_splitUp_16 : decode cX6_splitUp 16 = .ok (.if_icmp .gt 28, 3) := by decide +kernel
theorem dX6_splitUp_19 : decode cX6_splitUp 19 = .ok (.iload_n 2, 1) := by decide +kernel
theorem dX6_splitUp_20 : decode cX6_splitUp 20 = .ok (.iload_n 1, 1) := by decide +kernel
theorem dX6_splitUp_21 : decode cX6_splitUp 21 = .ok (.iconst (-1), 1) := by decide +kernel
theorem dX6_splitUp_22 : decode cX6_splitUp 22 = .ok (.ixor, 1) := by decide +kernel
theorem dX6_splitUp_23 : decode cX6_splitUp 23 = .ok (.iand, 1) := by decide +kernel
theorem dX6_splitUp_24 : decode cX6_splitUp 24 = .ok (.ifCond .ne 14, 3) := by decide +kernel
theorem dX6_splitUp_27 : decode cX6_splitUp 27 = .ok (.aload_n 0, 1) := by decide +kernel
theorem dX6_splitUp_28 : decode cX6_splitUp 28 = .ok (.getfield 21, 3) := by decide +kernel
theorem dX6_splitUp_31 : decode cX6_splitUp 31 = .ok (.iload_n 2, 1) := by decide +kernel
theorem dX6_splitUp_32 : decode cX6_splitUp 32 = .ok (.aload_n 0, 1) := by decide +kernel
theorem dX6_splitUp_33 : decode cX6_splitUp 33 = .ok (.iload_n 2, 1) := by decide +kernel
theorem dX6_splitUp_34 : decode cX6_splitUp 34 = .ok (.invokevirtual 120, 3) := by decide +kernel
theorem dX6_splitUp_37 : decode cX6_splitUp 37 = .ok (.iastore, 1) := by decide +kernel
theorem dX6_splitUp_38 : decode cX6_splitUp 38 = .ok (.iinc 2 1, 3) := by decide +kernel
theorem dX6_splitUp_41 : decode cX6_splitUp 41 = .ok (.goto (-27), 3) := by decide +kernel
theorem dX6_splitUp_44 : decode cX6_splitUp 44 = .ok (.aload_n 0, 1) := by decide +kernel
theorem dX6_splitUp_45 : decode cX6_splitUp 45 = .ok (.iload_n 1, 1) := by decide +kernel
theorem dX6_splitUp_46 : decode cX6_splitUp 46 = .ok (.putfield 40, 3) := by decide +kernel
theorem dX6_splitUp_49 : decode cX6_splitUp 49 = .ok (.return_, 1) := by decide +kernel
theorem dX6_bestSplit_0 : decode cX6_bestSplit 0 = .ok (.iload_n 1, 1) := by decide +kernel
theorem dX6_bestSplit_1 : decode cX6_bestSplit 1 = .ok (.iload_n 1, 1) := by decide +kernel
theorem dX6_bestSplit_2 : decode cX6_bestSplit 2 = .ok (.ineg, 1) := by decide +kernel
theorem dX6_bestSplit_3 : decode cX6_bestSplit 3 = .ok (.iand, 1) := by decide +kernel
theorem dX6_bestSplit_4 : decode cX6_bestSplit 4 = .ok (.istore_n 2, 1) := by decide +kernel
theorem dX6_bestSplit_5 : decode cX6_bestSplit 5 = .ok (.iload_n 1, 1) := by decide +kernel
theorem dX6_bestSplit_6 : decode cX6_bestSplit 6 = .ok (.iload_n 2, 1) := by decide +kernel
theorem dX6_bestSplit_7 : decode cX6_bestSplit 7 = .ok (.iconst (-1), 1) := by decide +kernel
theorem dX6_bestSplit_8 : decode cX6_bestSplit 8 = .ok (.ixor, 1) := by decide +kernel
theorem dX6_bestSplit_9 : decode cX6_bestSplit 9 = .ok (.iand, 1) := by decide +kernel
theorem dX6_bestSplit_10 : decode cX6_bestSplit 10 = .ok (.istore_n 3, 1) := by decide +kernel
theorem dX6_bestSplit_11 : decode cX6_bestSplit 11 = .ok (.iconst 1, 1) := by decide +kernel
theorem dX6_bestSplit_12 : decode cX6_bestSplit 12 = .ok (.iload_n 3, 1) := by decide +kernel
theorem dX6_bestSplit_13 : decode cX6_bestSplit 13 = .ok (.invokestatic 107, 3) := by decide +kernel
theorem dX6_bestSplit_16 : decode cX6_bestSplit 16 = .ok (.ishl, 1) := by decide +kernel
theorem dX6_bestSplit_17 : decode cX6_bestSplit 17 = .ok (.istore 4, 2) := by decide +kernel
theorem dX6_bestSplit_19 : decode cX6_bestSplit 19 = .ok (.ldc 119, 2) := by decide +kernel
theorem dX6_bestSplit_21 : decode cX6_bestSplit 21 = .ok (.istore 5, 2) := by decide +kernel
theorem dX6_bestSplit_23 : decode cX6_bestSplit 23 = .ok (.iconst 0, 1) := by decide +kernel
theorem dX6_bestSplit_24 : decode cX6_bestSplit 24 = .ok (.istore 6, 2) := by decide +kernel
theorem dX6_bestSplit_26 : decode cX6_bestSplit 26 = .ok (.iconst 0, 1) := by decide +kernel
theorem dX6_bestSplit_27 : decode cX6_bestSplit 27 = .ok (.istore 7, 2) := by decide +kernel
theorem dX6_bestSplit_29 : decode cX6_bestSplit 29 = .ok (.iload 7, 2) := by decide +kernel
theorem dX6_bestSplit_31 : decode cX6_bestSplit 31 = .ok (.iload 4, 2) := by decide +kernel
theorem dX6_bestSplit_33 : decode cX6_bestSplit 33 = .ok (.if_icmp .ge 64, 3) := by decide +kernel
theorem dX6_bestSplit_36 : decode cX6_bestSplit 36 = .ok (.aload_n 0, 1) := by decide +kernel
theorem dX6_bestSplit_37 : decode cX6_bestSplit 37 = .ok (.getfield 18, 3) := by decide +kernel
theorem dX6_bestSplit_40 : decode cX6_bestSplit 40 = .ok (.iload_n 2, 1) := by decide +kernel
theorem dX6_bestSplit_41 : decode cX6_bestSplit 41 = .ok (.iload 6, 2) := by decide +kernel
theorem dX6_bestSplit_43 : decode cX6_bestSplit 43 = .ok (.ior, 1) := by decide +kernel
theorem dX6_bestSplit_44 : decode cX6_bestSplit 44 = .ok (.iaload, 1) := by decide +kernel
theorem dX6_bestSplit_45 : decode cX6_bestSplit 45 = .ok (.istore 8, 2) := by decide +kernel
theorem dX6_bestSplit_47 : decode cX6_bestSplit 47 = .ok (.iload 8, 2) := by decide +kernel
theorem dX6_bestSplit_49 : decode cX6_bestSplit 49 = .ok (.aload_n 0, 1) := by decide +kernel
theorem dX6_bestSplit_50 : decode cX6_bestSplit 50 = .ok (.getfield 32, 3) := by decide +kernel
theorem dX6_bestSplit_53 : decode cX6_bestSplit 53 = .ok (.getfield 123, 3) := by decide +kernel
theorem dX6_bestSplit_56 : decode cX6_bestSplit 56 = .ok (.if_icmp .gt 27, 3) := by decide +kernel
theorem dX6_bestSplit_59 : decode cX6_bestSplit 59 = .ok (.iload 5, 2) := by decide +kernel
theorem dX6_bestSplit_61 : decode cX6_bestSplit 61 = .ok (.ldc 71, 2) := by decide +kernel
theorem dX6_bestSplit_63 : decode cX6_bestSplit 63 = .ok (.iload 8, 2) := by decide +kernel
theorem dX6_bestSplit_65 : decode cX6_bestSplit 65 = .ok (.iadd, 1) := by decide +kernel
theorem dX6_bestSplit_66 : decode cX6_bestSplit 66 = .ok (.aload_n 0, 1) := by decide +kernel
theorem dX6_bestSplit_67 : decode cX6_bestSplit 67 = .ok (.getfield 21, 3) := by decide +kernel
theorem dX6_bestSplit_70 : decode cX6_bestSplit 70 = .ok (.iload_n 3, 1) := by decide +kernel
theorem dX6_bestSplit_71 : decode cX6_bestSplit 71 = .ok (.iload 6, 2) := by decide +kernel
theorem dX6_bestSplit_73 : decode cX6_bestSplit 73 = .ok (.iconst (-1), 1) := by decide +kernel
theorem dX6_bestSplit_74 : decode cX6_bestSplit 74 = .ok (.ixor, 1) := by decide +kernel
theorem dX6_bestSplit_75 : decode cX6_bestSplit 75 = .ok (.iand, 1) := by decide +kernel
theorem dX6_bestSplit_76 : decode cX6_bestSplit 76 = .ok (.iaload, 1) := by decide +kernel
theorem dX6_bestSplit_77 : decode cX6_bestSplit 77 = .ok (.iadd, 1) := by decide +kernel
theorem dX6_bestSplit_78 : decode cX6_bestSplit 78 = .ok (.invokestatic 98, 3) := by decide +kernel
theorem dX6_bestSplit_81 : decode cX6_bestSplit 81 = .ok (.istore 5, 2) := by decide +kernel
theorem dX6_bestSplit_83 : decode cX6_bestSplit 83 = .ok (.iload 6, 2) := by decide +kernel
theorem dX6_bestSplit_85 : decode cX6_bestSplit 85 = .ok (.iload_n 3, 1) := by decide +kernel
theorem dX6_bestSplit_86 : decode cX6_bestSplit 86 = .ok (.isub, 1) := by decide +kernel
theorem dX6_bestSplit_87 : decode cX6_bestSplit 87 = .ok (.iload_n 3, 1) := by decide +kernel
theorem dX6_bestSplit_88 : decode cX6_bestSplit 88 = .ok (.iand, 1) := by decide +kernel
theorem dX6_bestSplit_89 : decode cX6_bestSplit 89 = .ok (.istore 6, 2) := by decide +kernel
theorem dX6_bestSplit_91 : decode cX6_bestSplit 91 = .ok (.iinc 7 1, 3) := by decide +kernel
theorem dX6_bestSplit_94 : decode cX6_bestSplit 94 = .ok (.goto (-65), 3) := by decide +kernel
theorem dX6_bestSplit_97 : decode cX6_bestSplit 97 = .ok (.iload 5, 2) := by decide +kernel
theorem dX6_bestSplit_99 : decode cX6_bestSplit 99 = .ok (.ireturn, 1) := by decide +kernel
theorem dX7_init_0 : decode cX7_init 0 = .ok (.aload_n 0, 1) := by decide +kernel
theorem dX7_init_1 : decode cX7_init 1 = .ok (.invokespecial 3, 3) := by decide +kernel
theorem dX7_init_4 : decode cX7_init 4 = .ok (.aload_n 0, 1) := by decide +kernel
theorem dX7_init_5 : decode cX7_init 5 = .ok (.bipush 12, 2) := by decide +kernel
theorem dX7_init_7 : decode cX7_init 7 = .ok (.newarray .int, 2) := by decide +kernel
theorem dX7_init_9 : decode cX7_init 9 = .ok (.putfield 9, 3) := by decide +kernel
theorem dX7_init_12 : decode cX7_init 12 = .ok (.aload_n 0, 1) := by decide +kernel
theorem dX7_init_13 : decode cX7_init 13 = .ok (.bipush 12, 2) := by decide +kernel
theorem dX7_init_15 : decode cX7_init 15 = .ok (.newarray .int, 2) := by decide +kernel
theorem dX7_init_17 : decode cX7_init 17 = .ok (.putfield 15, 3) := by decide +kernel
theorem dX7_init_20 : decode cX7_init 20 = .ok (.aload_n 0, 1) := by decide +kernel
theorem dX7_init_21 : decode cX7_init 21 = .ok (.bipush 12, 2) := by decide +kernel
theorem dX7_init_23 : decode cX7_init 23 = .ok (.newarray .int, 2) := by decide +kernel
theorem dX7_init_25 : decode cX7_init 25 = .ok (.putfield 18, 3) := by decide +kernel
theorem dX7_init_28 : decode cX7_init 28 = .ok (.aload_n 0, 1) := by decide +kernel
theorem dX7_init_29 : decode cX7_init 29 = .ok (.bipush 12, 2) := by decide +kernel
theorem dX7_init_31 : decode cX7_init 31 = .ok (.newarray .int, 2) := by decide +kernel
theorem dX7_init_33 : decode cX7_init 33 = .ok (.putfield 21, 3) := by decide +kernel
theorem dX7_init_36 : decode cX7_init 36 = .ok (.aload_n 0, 1) := by decide +kernel
theorem dX7_init_37 : decode cX7_init 37 = .ok (.bipush 30, 2) := by decide +kernel
theorem dX7_init_39 : decode cX7_init 39 = .ok (.putfield 24, 3) := by decide +kernel
theorem dX7_init_42 : decode cX7_init 42 = .ok (.aload_n 0, 1) := by decide +kernel
theorem dX7_init_43 : decode cX7_init 43 = .ok (.bipush 25, 2) := by decide +kernel
theorem dX7_init_45 : decode cX7_init 45 = .ok (.putfield 28, 3) := by decide +kernel
theorem dX7_init_48 : decode cX7_init 48 = .ok (.return_, 1) := by decide +kernel
theorem dX7_add_0 : decode cX7_add 0 = .ok (.aload_n 0, 1) := by decide +kernel
theorem dX7_add_1 : decode cX7_add 1 = .ok (.getfield 9, 3) := by decide +kernel
theorem dX7_add_4 : decode cX7_add 4 = .ok (.aload_n 0, 1) := by decide +kernel
theorem dX7_add_5 : decode cX7_add 5 = .ok (.getfield 31, 3) := by decide +kernel
theorem dX7_add_8 : decode cX7_add 8 = .ok (.iload_n 1, 1) := by decide +kernel
theorem dX7_add_9 : decode cX7_add 9 = .ok (.iastore, 1) := by decide +kernel
theorem dX7_add_10 : decode cX7_add 10 = .ok (.aload_n 0, 1) := by decide +kernel
theorem dX7_add_11 : decode cX7_add 11 = .ok (.getfield 15, 3) := by decide +kernel
theorem dX7_add_14 : decode cX7_add 14 = .ok (.aload_n 0, 1) := by decide +kernel
theorem dX7_add_15 : decode cX7_add 15 = .ok (.getfield 31, 3) := by decide +kernel
theorem dX7_add_18 : decode cX7_add 18 = .ok (.iload_n 2, 1) := by decide +kernel
theorem dX7_add_19 : decode cX7_add 19 = .ok (.iastore, 1) := by decide +kernel
theorem dX7_add_20 : decode cX7_add 20 = .ok (.aload_n 0, 1) := by decide +kernel
theorem dX7_add_21 : decode cX7_add 21 = .ok (.getfield 18, 3) := by decide +kernel
theorem dX7_add_24 : decode cX7_add 24 = .ok (.aload_n 0, 1) := by decide +kernel
theorem dX7_add_25 : decode cX7_add 25 = .ok (.getfield 31, 3) := by decide +kernel
theorem dX7_add_28 : decode cX7_add 28 = .ok (.iload_n 3, 1) := by decide +kernel
theorem dX7_add_29 : decode cX7_add 29 = .ok (.iastore, 1) := by decide +kernel
theorem dX7_add_30 : decode cX7_add 30 = .ok (.aload_n 0, 1) := by decide +kernel
theorem dX7_add_31 : decode cX7_add 31 = .ok (.getfield 21, 3) := by decide +kernel
theorem dX7_add_34 : decode cX7_add 34 = .ok (.aload_n 0, 1) := by decide +kernel
theorem dX7_add_35 : decode cX7_add 35 = .ok (.getfield 31, 3) := by decide +kernel
theorem dX7_add_38 : decode cX7_add 38 = .ok (.iload 4, 2) := by decide +kernel
theorem dX7_add_40 : decode cX7_add 40 = .ok (.iastore, 1) := by decide +kernel
theorem dX7_add_41 : decode cX7_add 41 = .ok (.aload_n 0, 1) := by decide +kernel
theorem dX7_add_42 : decode cX7_add 42 = .ok (.dup, 1) := by decide +kernel
theorem dX7_add_43 : decode cX7_add 43 = .ok (.getfield 31, 3) := by decide +kernel
theorem dX7_add_46 : decode cX7_add 46 = .ok (.iconst 1, 1) := by decide +kernel
theorem dX7_add_47 : decode cX7_add 47 = .ok (.iadd, 1) := by decide +kernel
theorem dX7_add_48 : decode cX7_add 48 = .ok (.putfield 31, 3) := by decide +kernel
theorem dX7_add_51 : decode cX7_add 51 = .ok (.aload_n 0, 1) := by decide +kernel
theorem dX7_add_52 : decode cX7_add 52 = .ok (.getfield 31, 3) := by decide +kernel
theorem dX7_add_55 : decode cX7_add 55 = .ok (.iconst 1, 1) := by decide +kernel
theorem dX7_add_56 : decode cX7_add 56 = .ok (.isub, 1) := by decide +kernel
theorem dX7_add_57 : decode cX7_add 57 = .ok (.ireturn, 1) := by decide +kernel
theorem dX7_visibleFrom_0 : decode cX7_visibleFrom 0 = .ok (.iconst 0, 1) := by decide +kernel
theorem dX7_visibleFrom_1 : decode cX7_visibleFrom 1 = .ok (.istore_n 3, 1) := by decide +kernel
theorem dX7_visibleFrom_2 : decode cX7_visibleFrom 2 = .ok (.iconst 0, 1) := by decide +kernel
theorem dX7_visibleFrom_3 : decode cX7_visibleFrom 3 = .ok (.istore 4, 2) := by decide +kernel
theorem dX7_visibleFrom_5 : decode cX7_visibleFrom 5 = .ok (.iload 4, 2) := by decide +kernel
theorem dX7_visibleFrom_7 : decode cX7_visibleFrom 7 = .ok (.aload_n 0, 1) := by decide +kernel
theorem dX7_visibleFrom_8 : decode cX7_visibleFrom 8 = .ok (.getfield 31, 3) := by decide +kernel
theorem dX7_visibleFrom_11 : decode cX7_visibleFrom 11 = .ok (.if_icmp .ge 27, 3) := by decide +kernel
theorem dX7_visibleFrom_14 : decode cX7_visibleFrom 14 = .ok (.aload_n 0, 1) := by decide +kernel
theorem dX7_visibleFrom_15 : decode cX7_visibleFrom 15 = .ok (.iload_n 1, 1) := by decide +kernel
theorem dX7_visibleFrom_16 : decode cX7_visibleFrom 16 = .ok (.iload_n 2, 1) := by decide +kernel
theorem dX7_visibleFrom_17 : decode cX7_visibleFrom 17 = .ok (.iload 4, 2) := by decide +kernel
theorem dX7_visibleFrom_19 : decode cX7_visibleFrom 19 = .ok (.invokevirtual 34, 3) := by decide +kernel
theorem dX7_visibleFrom_22 : decode cX7_visibleFrom 22 = .ok (.ifCond .eq 10, 3) := by decide +kernel
theorem dX7_visibleFrom_25 : decode cX7_visibleFrom 25 = .ok (.iload_n 3, 1) := by decide +kernel
theorem dX7_visibleFrom_26 : decode cX7_visibleFrom 26 = .ok (.iconst 1, 1) := by decide +kernel
theorem dX7_visibleFrom_27 : decode cX7_visibleFrom 27 = .ok (.iload 4, 2) := by decide +kernel
theorem dX7_visibleFrom_29 : decode cX7_visibleFrom 29 = .ok (.ishl, 1) := by decide +kernel
theorem dX7_visibleFrom_30 : decode cX7_visibleFrom 30 = .ok (.ior, 1) := by decide +kernel
theorem dX7_visibleFrom_31 : decode cX7_visibleFrom 31 = .ok (.istore_n 3, 1) := by decide +kernel
theorem dX7_visibleFrom_32 : decode cX7_visibleFrom 32 = .ok (.iinc 4 1, 3) := by decide +kernel
theorem dX7_visibleFrom_35 : decode cX7_visibleFrom 35 = .ok (.goto (-30), 3) := by decide +kernel
theorem dX7_visibleFrom_38 : decode cX7_visibleFrom 38 = .ok (.iload_n 3, 1) := by decide +kernel
theorem dX7_visibleFrom_39 : decode cX7_visibleFrom 39 = .ok (.ireturn, 1) := by decide +kernel
theorem dX7_isVisible_0 : decode cX7_isVisible 0 = .ok (.aload_n 0, 1) := by decide +kernel
theorem dX7_isVisible_1 : decode cX7_isVisible 1 = .ok (.getfield 18, 3) := by decide +kernel
theorem dX7_isVisible_4 : decode cX7_isVisible 4 = .ok (.iload_n 3, 1) := by decide +kernel
theorem dX7_isVisible_5 : decode cX7_isVisible 5 = .ok (.iaload, 1) := by decide +kernel
theorem dX7_isVisible_6 : decode cX7_isVisible 6 = .ok (.aload_n 0, 1) := by decide +kernel
theorem dX7_isVisible_7 : decode cX7_isVisible 7 = .ok (.getfield 9, 3) := by decide +kernel
theorem dX7_isVisible_10 : decode cX7_isVisible 10 = .ok (.iload_n 3, 1) := by decide +kernel
theorem dX7_isVisible_11 : decode cX7_isVisible 11 = .ok (.iaload, 1) := by decide +kernel
theorem dX7_isVisible_12 : decode cX7_isVisible 12 = .ok (.isub, 1) := by decide +kernel
theorem dX7_isVisible_13 : decode cX7_isVisible 13 = .ok (.istore 4, 2) := by decide +kernel
theorem dX7_isVisible_15 : decode cX7_isVisible 15 = .ok (.aload_n 0, 1) := by decide +kernel
theorem dX7_isVisible_16 : decode cX7_isVisible 16 = .ok (.getfield 21, 3) := by decide +kernel
theorem dX7_isVisible_19 : decode cX7_isVisible 19 = .ok (.iload_n 3, 1) := by decide +kernel
theorem dX7_isVisible_20 : decode cX7_isVisible 20 = .ok (.iaload, 1) := by decide +kernel
theorem dX7_isVisible_21 : decode cX7_isVisible 21 = .ok (.aload_n 0, 1) := by decide +kernel
theorem dX7_isVisible_22 : decode cX7_isVisible 22 = .ok (.getfield 15, 3) := by decide +kernel
theorem dX7_isVisible_25 : decode cX7_isVisible 25 = .ok (.iload_n 3, 1) := by decide +kernel
theorem dX7_isVisible_26 : decode cX7_isVisible 26 = .ok (.iaload, 1) := by decide +kernel
theorem dX7_isVisible_27 : decode cX7_isVisible 27 = .ok (.isub, 1) := by decide +kernel
theorem dX7_isVisible_28 : decode cX7_isVisible 28 = .ok (.istore 5, 2) := by decide +kernel
theorem dX7_isVisible_30 : decode cX7_isVisible 30 = .ok (.aload_n 0, 1) := by decide +kernel
theorem dX7_isVisible_31 : decode cX7_isVisible 31 = .ok (.getfield 9, 3) := by decide +kernel
theorem dX7_isVisible_34 : decode cX7_isVisible 34 = .ok (.iload_n 3, 1) := by decide +kernel
theorem dX7_isVisible_35 : decode cX7_isVisible 35 = .ok (.iaload, 1) := by decide +kernel
theorem dX7_isVisible_36 : decode cX7_isVisible 36 = .ok (.aload_n 0, 1) := by decide +kernel
theorem dX7_isVisible_37 : decode cX7_isVisible 37 = .ok (.getfield 18, 3) := by decide +kernel
theorem dX7_isVisible_40 : decode cX7_isVisible 40 = .ok (.iload_n 3, 1) := by decide +kernel
theorem dX7_isVisible_41 : decode cX7_isVisible 41 = .ok (.iaload, 1) := by decide +kernel
theorem dX7_isVisible_42 : decode cX7_isVisible 42 = .ok (.iadd, 1) := by decide +kernel
theorem dX7_isVisible_43 : decode cX7_isVisible 43 = .ok (.istore 6, 2) := by decide +kernel
theorem dX7_isVisible_45 : decode cX7_isVisible 45 = .ok (.aload_n 0, 1) := by decide +kernel
theorem dX7_isVisible_46 : decode cX7_isVisible 46 = .ok (.getfield 15, 3) := by decide +kernel
theorem dX7_isVisible_49 : decode cX7_isVisible 49 = .ok (.iload_n 3, 1) := by decide +kernel
theorem dX7_isVisible_50 : decode cX7_isVisible 50 = .ok (.iaload, 1) := by decide +kernel
theorem dX7_isVisible_51 : decode cX7_isVisible 51 = .ok (.aload_n 0, 1) := by decide +kernel
theorem dX7_isVisible_52 : decode cX7_isVisible 52 = .ok (.getfield 21, 3) := by decide +kernel
theorem dX7_isVisible_55 : decode cX7_isVisible 55 = .ok (.iload_n 3, 1) := by decide +kernel
theorem dX7_isVisible_56 : decode cX7_isVisible 56 = .ok (.iaload, 1) := by decide +kernel
theorem dX7_isVisible_57 : decode cX7_isVisible 57 = .ok (.iadd, 1) := by decide +kernel
theorem dX7_isVisible_58 : decode cX7_isVisible 58 = .ok (.istore 7, 2) := by decide +kernel
theorem dX7_isVisible_60 : decode cX7_isVisible 60 = .ok (.iload 6, 2) := by decide +kernel
theorem dX7_isVisible_62 : decode cX7_isVisible 62 = .ok (.iconst 2, 1) := by decide +kernel
theorem dX7_isVisible_63 : decode cX7_isVisible 63 = .ok (.iload_n 1, 1) := by decide +kernel
theorem dX7_isVisible_64 : decode cX7_isVisible 64 = .ok (.imul, 1) := by decide +kernel
theorem dX7_isVisible_65 : decode cX7_isVisible 65 = .ok (.isub, 1) := by decide +kernel
theorem dX7_isVisible_66 : decode cX7_isVisible 66 = .ok (.istore 8, 2) := by decide +kernel
theorem dX7_isVisible_68 : decode cX7_isVisible 68 = .ok (.iload 7, 2) := by decide +kernel
theorem dX7_isVisible_70 : decode cX7_isVisible 70 = .ok (.iconst 2, 1) := by decide +kernel
theorem dX7_isVisible_71 : decode cX7_isVisible 71 = .ok (.iload_n 2, 1) := by decide +kernel
theorem dX7_isVisible_72 : decode cX7_isVisible 72 = .ok (.imul, 1) := by decide +kernel
theorem dX7_isVisible_73 : decode cX7_isVisible 73 = .ok (.isub, 1) := by decide +kernel
theorem dX7_isVisible_74 : decode cX7_isVisible 74 = .ok (.istore 9, 2) := by decide +kernel
theorem dX7_isVisible_76 : decode cX7_isVisible 76 = .ok (.iload 5, 2) := by decide +kernel
theorem dX7_isVisible_78 : decode cX7_isVisible 78 = .ok (.iload 8, 2) := by decide +kernel
theorem dX7_isVisible_80 : decode cX7_isVisible 80 = .ok (.imul, 1) := by decide +kernel
theorem dX7_isVisible_81 : decode cX7_isVisible 81 = .ok (.iload 4, 2) := by decide +kernel
theorem dX7_isVisible_83 : decode cX7_isVisible 83 = .ok (.iload 9, 2) := by decide +kernel
theorem dX7_isVisible_85 : decode cX7_isVisible 85 = .ok (.imul, 1) := by decide +kernel
theorem dX7_isVisible_86 : decode cX7_isVisible 86 = .ok (.isub, 1) := by decide +kernel
theorem dX7_isVisible_87 : decode cX7_isVisible 87 = .ok (.istore 10, 2) := by decide +kernel
theorem dX7_isVisible_89 : decode cX7_isVisible 89 = .ok (.iload 10, 2) := by decide +kernel
theorem dX7_isVisible_91 : decode cX7_isVisible 91 = .ok (.ifCond .gt 5, 3) := by decide +kernel
theorem dX7_isVisible_94 : decode cX7_isVisible 94 = .ok (.iconst 0, 1) := by decide +kernel
theorem dX7_isVisible_95 : decode cX7_isVisible 95 = .ok (.ireturn, 1) := by decide +kernel
theorem dX7_isVisible_96 : decode cX7_isVisible 96 = .ok (.iload 8, 2) := by decide +kernel
theorem dX7_isVisible_98 : decode cX7_isVisible 98 = .ok (.iload 8, 2) := by decide +kernel
theorem dX7_isVisible_100 : decode cX7_isVisible 100 = .ok (.imul, 1) := by decide +kernel
theorem dX7_isVisible_101 : decode cX7_isVisible 101 = .ok (.iload 9, 2) := by decide +kernel
theorem dX7_isVisible_103 : decode cX7_isVisible 103 = .ok (.iload 9, 2) := by decide +kernel
theorem dX7_isVisible_105 : decode cX7_isVisible 105 = .ok (.imul, 1) := by decide +kernel
theorem dX7_isVisible_106 : decode cX7_isVisible 106 = .ok (.iadd, 1) := by decide +kernel
theorem dX7_isVisible_107 : decode cX7_isVisible 107 = .ok (.istore 11, 2) := by decide +kernel
theorem dX7_isVisible_109 : decode cX7_isVisible 109 = .ok (.iload 11, 2) := by decide +kernel
theorem dX7_isVisible_111 : decode cX7_isVisible 111 = .ok (.iconst 4, 1) := by decide +kernel
theorem dX7_isVisible_112 : decode cX7_isVisible 112 = .ok (.aload_n 0, 1) := by decide +kernel
theorem dX7_isVisible_113 : decode cX7_isVisible 113 = .ok (.getfield 24, 3) := by decide +kernel
theorem dX7_isVisible_116 : decode cX7_isVisible 116 = .ok (.imul, 1) := by decide +kernel
theorem dX7_isVisible_117 : decode cX7_isVisible 117 = .ok (.aload_n 0, 1) := by decide +kernel
theorem dX7_isVisible_118 : decode cX7_isVisible 118 = .ok (.getfield 24, 3) := by decide +kernel
theorem dX7_isVisible_121 : decode cX7_isVisible 121 = .ok (.imul, 1) := by decide +kernel
theorem dX7_isVisible_122 : decode cX7_isVisible 122 = .ok (.if_icmp .le 5, 3) := by decide +kernel
theorem dX7_isVisible_125 : decode cX7_isVisible 125 = .ok (.iconst 0, 1) := by decide +kernel
theorem dX7_isVisible_126 : decode cX7_isVisible 126 = .ok (.ireturn, 1) := by decide +kernel
theorem dX7_isVisible_127 : decode cX7_isVisible 127 = .ok (.iload 4, 2) := by decide +kernel
theorem dX7_isVisible_129 : decode cX7_isVisible 129 = .ok (.iload 4, 2) := by decide +kernel
theorem dX7_isVisible_131 : decode cX7_isVisible 131 = .ok (.imul, 1) := by decide +kernel
theorem dX7_isVisible_132 : decode cX7_isVisible 132 = .ok (.iload 5, 2) := by decide +kernel
theorem dX7_isVisible_134 : decode cX7_isVisible 134 = .ok (.iload 5, 2) := by decide +kernel
theorem dX7_isVisible_136 : decode cX7_isVisible 136 = .ok (.imul, 1) := by decide +kernel
theorem dX7_isVisible_137 : decode cX7_isVisible 137 = .ok (.iadd, 1) := by decide +kernel
theorem dX7_isVisible_138 : decode cX7_isVisible 138 = .ok (.i2l, 1) := by decide +kernel
theorem dX7_isVisible_139 : decode cX7_isVisible 139 = .ok (.lstore 12, 2) := by decide +kernel
theorem dX7_isVisible_141 : decode cX7_isVisible 141 = .ok (.ldc2_w 38, 3) := by decide +kernel
theorem dX7_isVisible_144 : decode cX7_isVisible 144 = .ok (.iload 10, 2) := by decide +kernel
theorem dX7_isVisible_146 : decode cX7_isVisible 146 = .ok (.i2l, 1) := by decide +kernel
theorem dX7_isVisible_147 : decode cX7_isVisible 147 = .ok (.lmul, 1) := by decide +kernel
theorem dX7_isVisible_148 : decode cX7_isVisible 148 = .ok (.iload 10, 2) := by decide +kernel
theorem dX7_isVisible_150 : decode cX7_isVisible 150 = .ok (.i2l, 1) := by decide +kernel
theorem dX7_isVisible_151 : decode cX7_isVisible 151 = .ok (.lmul, 1) := by decide +kernel
theorem dX7_isVisible_152 : decode cX7_isVisible 152 = .ok (.aload_n 0, 1) := by decide +kernel
theorem dX7_isVisible_153 : decode cX7_isVisible 153 = .ok (.getfield 28, 3) := by decide +kernel
theorem dX7_isVisible_156 : decode cX7_isVisible 156 = .ok (.i2l, 1) := by decide +kernel
theorem dX7_isVisible_157 : decode cX7_isVisible 157 = .ok (.lload 12, 2) := by decide +kernel
theorem dX7_isVisible_159 : decode cX7_isVisible 159 = .ok (.lmul, 1) := by decide +kernel
theorem dX7_isVisible_160 : decode cX7_isVisible 160 = .ok (.iload 11, 2) := by decide +kernel
theorem dX7_isVisible_162 : decode cX7_isVisible 162 = .ok (.i2l, 1) := by decide +kernel
theorem dX7_isVisible_163 : decode cX7_isVisible 163 = .ok (.lmul, 1) := by decide +kernel
theorem dX7_isVisible_164 : decode cX7_isVisible 164 = .ok (.lcmp, 1) := by decide +kernel
theorem dX7_isVisible_165 : decode cX7_isVisible 165 = .ok (.ifCond .ge 5, 3) := by decide +kernel
theorem dX7_isVisible_168 : decode cX7_isVisible 168 = .ok (.iconst 0, 1) := by decide +kernel
theorem dX7_isVisible_169 : decode cX7_isVisible 169 = .ok (.ireturn, 1) := by decide +kernel
theorem dX7_isVisible_170 : decode cX7_isVisible 170 = .ok (.iconst 0, 1) := by decide +kernel
theorem dX7_isVisible_171 : decode cX7_isVisible 171 = .ok (.istore 14, 2) := by decide +kernel
theorem dX7_isVisible_173 : decode cX7_isVisible 173 = .ok (.iload 14, 2) := by decide +kernel
theorem dX7_isVisible_175 : decode cX7_isVisible 175 = .ok (.aload_n 0, 1) := by decide +kernel
theorem dX7_isVisible_176 : decode cX7_isVisible 176 = .ok (.getfield 31, 3) := by decide +kernel
theorem dX7_isVisible_179 : decode cX7_isVisible 179 = .ok (.if_icmp .ge 36, 3) := by decide +kernel
theorem dX7_isVisible_182 : decode cX7_isVisible 182 = .ok (.iload 14, 2) := by decide +kernel
theorem dX7_isVisible_184 : decode cX7_isVisible 184 = .ok (.iload_n 3, 1) := by decide +kernel
theorem dX7_isVisible_185 : decode cX7_isVisible 185 = .ok (.if_icmp .eq 24, 3) := by decide +kernel
theorem dX7_isVisible_188 : decode cX7_isVisible 188 = .ok (.aload_n 0, 1) := by decide +kernel
theorem dX7_isVisible_189 : decode cX7_isVisible 189 = .ok (.iload 14, 2) := by decide +kernel
theorem dX7_isVisible_191 : decode cX7_isVisible 191 = .ok (.iconst 2, 1) := by decide +kernel
theorem dX7_isVisible_192 : decode cX7_isVisible 192 = .ok (.iload_n 1, 1) := by decide +kernel
theorem dX7_isVisible_193 : decode cX7_isVisible 193 = .ok (.imul, 1) := by decide +kernel
theorem dX7_isVisible_194 : decode cX7_isVisible 194 = .ok (.iconst 2, 1) := by decide +kernel
theorem dX7_isVisible_195 : decode cX7_isVisible 195 = .ok (.iload_n 2, 1) := by decide +kernel
theorem dX7_isVisible_196 : decode cX7_isVisible 196 = .ok (.imul, 1) := by decide +kernel
theorem dX7_isVisible_197 : decode cX7_isVisible 197 = .ok (.iload 6, 2) := by decide +kernel
theorem dX7_isVisible_199 : decode cX7_isVisible 199 = .ok (.iload 7, 2) := by decide +kernel
theorem dX7_isVisible_201 : decode cX7_isVisible 201 = .ok (.invokevirtual 40, 3) := by decide +kernel
theorem dX7_isVisible_204 : decode cX7_isVisible 204 = .ok (.ifCond .eq 5, 3) := by decide +kernel
theorem dX7_isVisible_207 : decode cX7_isVisible 207 = .ok (.iconst 0, 1) := by decide +kernel
theorem dX7_isVisible_208 : decode cX7_isVisible 208 = .ok (.ireturn, 1) := by decide +kernel
theorem dX7_isVisible_209 : decode cX7_isVisible 209 = .ok (.iinc 14 1, 3) := by decide +kernel
theorem dX7_isVisible_212 : decode cX7_isVisible 212 = .ok (.goto (-39), 3) := by decide +kernel
theorem dX7_isVisible_215 : decode cX7_isVisible 215 = .ok (.iconst 1, 1) := by decide +kernel
theorem dX7_isVisible_216 : decode cX7_isVisible 216 = .ok (.ireturn, 1) := by decide +kernel
theorem dX7_isTouched_0 : decode cX7_isTouched 0 = .ok (.iconst 2, 1) := by decide +kernel
theorem dX7_isTouched_1 : decode cX7_isTouched 1 = .ok (.aload_n 0, 1) := by decide +kernel
theorem dX7_isTouched_2 : decode cX7_isTouched 2 = .ok (.getfield 9, 3) := by decide +kernel
theorem dX7_isTouched_5 : decode cX7_isTouched 5 = .ok (.iload_n 1, 1) := by decide +kernel
theorem dX7_isTouched_6 : decode cX7_isTouched 6 = .ok (.iaload, 1) := by decide +kernel
theorem dX7_isTouched_7 : decode cX7_isTouched 7 = .ok (.imul, 1) := by decide +kernel
theorem dX7_isTouched_8 : decode cX7_isTouched 8 = .ok (.istore 6, 2) := by decide +kernel
theorem dX7_isTouched_10 : decode cX7_isTouched 10 = .ok (.iconst 2, 1) := by decide +kernel
theorem dX7_isTouched_11 : decode cX7_isTouched 11 = .ok (.aload_n 0, 1) := by decide +kernel
theorem dX7_isTouched_12 : decode cX7_isTouched 12 = .ok (.getfield 15, 3) := by decide +kernel
theorem dX7_isTouched_15 : decode cX7_isTouched 15 = .ok (.iload_n 1, 1) := by decide +kernel
theorem dX7_isTouched_16 : decode cX7_isTouched 16 = .ok (.iaload, 1) := by decide +kernel
theorem dX7_isTouched_17 : decode cX7_isTouched 17 = .ok (.imul, 1) := by decide +kernel
theorem dX7_isTouched_18 : decode cX7_isTouched 18 = .ok (.istore 7, 2) := by decide +kernel
theorem dX7_isTouched_20 : decode cX7_isTouched 20 = .ok (.iconst 2, 1) := by decide +kernel
theorem dX7_isTouched_21 : decode cX7_isTouched 21 = .ok (.aload_n 0, 1) := by decide +kernel
theorem dX7_isTouched_22 : decode cX7_isTouched 22 = .ok (.getfield 18, 3) := by decide +kernel
theorem dX7_isTouched_25 : decode cX7_isTouched 25 = .ok (.iload_n 1, 1) := by decide +kernel
theorem dX7_isTouched_26 : decode cX7_isTouched 26 = .ok (.iaload, 1) := by decide +kernel
theorem dX7_isTouched_27 : decode cX7_isTouched 27 = .ok (.imul, 1) := by decide +kernel
theorem dX7_isTouched_28 : decode cX7_isTouched 28 = .ok (.istore 8, 2) := by decide +kernel
theorem dX7_isTouched_30 : decode cX7_isTouched 30 = .ok (.iconst 2, 1) := by decide +kernel
theorem dX7_isTouched_31 : decode cX7_isTouched 31 = .ok (.aload_n 0, 1) := by decide +kernel
theorem dX7_isTouched_32 : decode cX7_isTouched 32 = .ok (.getfield 21, 3) := by decide +kernel
theorem dX7_isTouched_35 : decode cX7_isTouched 35 = .ok (.iload_n 1, 1) := by decide +kernel
theorem dX7_isTouched_36 : decode cX7_isTouched 36 = .ok (.iaload, 1) := by decide +kernel
theorem dX7_isTouched_37 : decode cX7_isTouched 37 = .ok (.imul, 1) := by decide +kernel
theorem dX7_isTouched_38 : decode cX7_isTouched 38 = .ok (.istore 9, 2) := by decide +kernel
theorem dX7_isTouched_40 : decode cX7_isTouched 40 = .ok (.iload_n 2, 1) := by decide +kernel
theorem dX7_isTouched_41 : decode cX7_isTouched 41 = .ok (.iload 4, 2) := by decide +kernel
theorem dX7_isTouched_43 : decode cX7_isTouched 43 = .ok (.iload 6, 2) := by decide +kernel
theorem dX7_isTouched_45 : decode cX7_isTouched 45 = .ok (.iload 8, 2) := by decide +kernel
theorem dX7_isTouched_47 : decode cX7_isTouched 47 = .ok (.invokestatic 44, 3) := by decide +kernel
theorem dX7_isTouched_50 : decode cX7_isTouched 50 = .ok (.ifCond .eq 86, 3) := by decide +kernel
theorem dX7_isTouched_53 : decode cX7_isTouched 53 = .ok (.iload_n 3, 1) := by decide +kernel
theorem dX7_isTouched_54 : decode cX7_isTouched 54 = .ok (.iload 5, 2) := by decide +kernel
theorem dX7_isTouched_56 : decode cX7_isTouched 56 = .ok (.iload 7, 2) := by decide +kernel
theorem dX7_isTouched_58 : decode cX7_isTouched 58 = .ok (.iload 9, 2) := by decide +kernel
theorem dX7_isTouched_60 : decode cX7_isTouched 60 = .ok (.invokestatic 44, 3) := by decide +kernel
theorem dX7_isTouched_63 : decode cX7_isTouched 63 = .ok (.ifCond .eq 73, 3) := by decide +kernel
theorem dX7_isTouched_66 : decode cX7_isTouched 66 = .ok (.iload_n 2, 1) := by decide +kernel
theorem dX7_isTouched_67 : decode cX7_isTouched 67 = .ok (.iload_n 3, 1) := by decide +kernel
theorem dX7_isTouched_68 : decode cX7_isTouched 68 = .ok (.iload 4, 2) := by decide +kernel
theorem dX7_isTouched_70 : decode cX7_isTouched 70 = .ok (.iload 5, 2) := by decide +kernel
theorem dX7_isTouched_72 : decode cX7_isTouched 72 = .ok (.iload 6, 2) := by decide +kernel
theorem dX7_isTouched_74 : decode cX7_isTouched 74 = .ok (.iload 7, 2) := by decide +kernel
theorem dX7_isTouched_76 : decode cX7_isTouched 76 = .ok (.invokestatic 48, 3) := by decide +kernel
theorem dX7_isTouched_79 : decode cX7_isTouched 79 = .ok (.iload_n 2, 1) := by decide +kernel
theorem dX7_isTouched_80 : decode cX7_isTouched 80 = .ok (.iload_n 3, 1) := by decide +kernel
theorem dX7_isTouched_81 : decode cX7_isTouched 81 = .ok (.iload 4, 2) := by decide +kernel
theorem dX7_isTouched_83 : decode cX7_isTouched 83 = .ok (.iload 5, 2) := by decide +kernel
theorem dX7_isTouched_85 : decode cX7_isTouched 85 = .ok (.iload 8, 2) := by decide +kernel
theorem dX7_isTouched_87 : decode cX7_isTouched 87 = .ok (.iload 9, 2) := by decide +kernel
theorem dX7_isTouched_89 : decode cX7_isTouched 89 = .ok (.invokestatic 48, 3) := by decide +kernel
theorem dX7_isTouched_92 : decode cX7_isTouched 92 = .ok (.invokestatic 52, 3) := by decide +kernel
theorem dX7_isTouched_95 : decode cX7_isTouched 95 = .ok (.ifCond .eq 41, 3) := by decide +kernel
theorem dX7_isTouched_98 : decode cX7_isTouched 98 = .ok (.iload 6, 2) := by decide +kernel
theorem dX7_isTouched_100 : decode cX7_isTouched 100 = .ok (.iload 7, 2) := by decide +kernel
theorem dX7_isTouched_102 : decode cX7_isTouched 102 = .ok (.iload 8, 2) := by decide +kernel
theorem dX7_isTouched_104 : decode cX7_isTouched 104 = .ok (.iload 9, 2) := by decide +kernel
theorem dX7_isTouched_106 : decode cX7_isTouched 106 = .ok (.iload_n 2, 1) := by decide +kernel
theorem dX7_isTouched_107 : decode cX7_isTouched 107 = .ok (.iload_n 3, 1) := by decide +kernel
theorem dX7_isTouched_108 : decode cX7_isTouched 108 = .ok (.invokestatic 48, 3) := by decide +kernel
theorem dX7_isTouched_111 : decode cX7_isTouched 111 = .ok (.iload 6, 2) := by decide +kernel
theorem dX7_isTouched_113 : decode cX7_isTouched 113 = .ok (.iload 7, 2) := by decide +kernel
theorem dX7_isTouched_115 : decode cX7_isTouched 115 = .ok (.iload 8, 2) := by decide +kernel
theorem dX7_isTouched_117 : decode cX7_isTouched 117 = .ok (.iload 9, 2) := by decide +kernel
theorem dX7_isTouched_119 : decode cX7_isTouched 119 = .ok (.iload 4, 2) := by decide +kernel
theorem dX7_isTouched_121 : decode cX7_isTouched 121 = .ok (.iload 5, 2) := by decide +kernel
theorem dX7_isTouched_123 : decode cX7_isTouched 123 = .ok (.invokestatic 48, 3) := by decide +kernel
theorem dX7_isTouched_126 : decode cX7_isTouched 126 = .ok (.invokestatic 52, 3) := by decide +kernel
theorem dX7_isTouched_129 : decode cX7_isTouched 129 = .ok (.ifCond .eq 7, 3) := by decide +kernel
theorem dX7_isTouched_132 : decode cX7_isTouched 132 = .ok (.iconst 1, 1) := by decide +kernel
theorem dX7_isTouched_133 : decode cX7_isTouched 133 = .ok (.goto 4, 3) := by decide +kernel
theorem dX7_isTouched_136 : decode cX7_isTouched 136 = .ok (.iconst 0, 1) := by decide +kernel
theorem dX7_isTouched_137 : decode cX7_isTouched 137 = .ok (.ireturn, 1) := by decide +kernel
theorem dX7_doOverlap_0 : decode cX7_doOverlap 0 = .ok (.iload_n 0, 1) := by decide +kernel
theorem dX7_doOverlap_1 : decode cX7_doOverlap 1 = .ok (.iload_n 1, 1) := by decide +kernel
theorem dX7_doOverlap_2 : decode cX7_doOverlap 2 = .ok (.invokestatic 56, 3) := by decide +kernel
theorem dX7_doOverlap_5 : decode cX7_doOverlap 5 = .ok (.iload_n 2, 1) := by decide +kernel
theorem dX7_doOverlap_6 : decode cX7_doOverlap 6 = .ok (.iload_n 3, 1) := by decide +kernel
theorem dX7_doOverlap_7 : decode cX7_doOverlap 7 = .ok (.invokestatic 62, 3) := by decide +kernel
theorem dX7_doOverlap_10 : decode cX7_doOverlap 10 = .ok (.if_icmp .lt 20, 3) := by decide +kernel
theorem dX7_doOverlap_13 : decode cX7_doOverlap 13 = .ok (.iload_n 2, 1) := by decide +kernel
theorem dX7_doOverlap_14 : decode cX7_doOverlap 14 = .ok (.iload_n 3, 1) := by decide +kernel
theorem dX7_doOverlap_15 : decode cX7_doOverlap 15 = .ok (.invokestatic 56, 3) := by decide +kernel
theorem dX7_doOverlap_18 : decode cX7_doOverlap 18 = .ok (.iload_n 0, 1) := by decide +kernel
theorem dX7_doOverlap_19 : decode cX7_doOverlap 19 = .ok (.iload_n 1, 1) := by decide +kernel
theorem dX7_doOverlap_20 : decode cX7_doOverlap 20 = .ok (.invokestatic 62, 3) := by decide +kernel
theorem dX7_doOverlap_23 : decode cX7_doOverlap 23 = .ok (.if_icmp .lt 7, 3) := by decide +kernel
theorem dX7_doOverlap_26 : decode cX7_doOverlap 26 = .ok (.iconst 1, 1) := by decide +kernel
theorem dX7_doOverlap_27 : decode cX7_doOverlap 27 = .ok (.goto 4, 3) := by decide +kernel
theorem dX7_doOverlap_30 : decode cX7_doOverlap 30 = .ok (.iconst 0, 1) := by decide +kernel
theorem dX7_doOverlap_31 : decode cX7_doOverlap 31 = .ok (.ireturn, 1) := by decide +kernel
theorem dX7_areApart_0 : decode cX7_areApart 0 = .ok (.iload_n 0, 1) := by decide +kernel
theorem dX7_areApart_1 : decode cX7_areApart 1 = .ok (.iload_n 1, 1) := by decide +kernel
theorem dX7_areApart_2 : decode cX7_areApart 2 = .ok (.invokestatic 62, 3) := by decide +kernel
theorem dX7_areApart_5 : decode cX7_areApart 5 = .ok (.ifCond .gt 15, 3) := by decide +kernel
theorem dX7_areApart_8 : decode cX7_areApart 8 = .ok (.iload_n 0, 1) := by decide +kernel
theorem dX7_areApart_9 : decode cX7_areApart 9 = .ok (.iload_n 1, 1) := by decide +kernel
theorem dX7_areApart_10 : decode cX7_areApart 10 = .ok (.invokestatic 56, 3) := by decide +kernel
theorem dX7_areApart_13 : decode cX7_areApart 13 = .ok (.ifCond .lt 7, 3) := by decide +kernel
theorem dX7_areApart_16 : decode cX7_areApart 16 = .ok (.iconst 1, 1) := by decide +kernel
theorem dX7_areApart_17 : decode cX7_areApart 17 = .ok (.goto 4, 3) := by decide +kernel
theorem dX7_areApart_20 : decode cX7_areApart 20 = .ok (.iconst 0, 1) := by decide +kernel
theorem dX7_areApart_21 : decode cX7_areApart 21 = .ok (.ireturn, 1) := by decide +kernel
theorem dX8_init_0 : decode cX8_init 0 = .ok (.aload_n 0, 1) := by decide +kernel
theorem dX8_init_1 : decode cX8_init 1 = .ok (.invokespecial 1, 3) := by decide +kernel
theorem dX8_init_4 : decode cX8_init 4 = .ok (.aload_n 0, 1) := by decide +kernel
theorem dX8_init_5 : decode cX8_init 5 = .ok (.new 7, 3) := by decide +kernel
theorem dX8_init_8 : decode cX8_init 8 = .ok (.dup, 1) := by decide +kernel
theorem dX8_init_9 : decode cX8_init 9 = .ok (.invokespecial 9, 3) := by decide +kernel
theorem dX8_init_12 : decode cX8_init 12 = .ok (.putfield 10, 3) := by decide +kernel
theorem dX8_init_15 : decode cX8_init 15 = .ok (.aload_n 0, 1) := by decide +kernel
theorem dX8_init_16 : decode cX8_init 16 = .ok (.new 16, 3) := by decide +kernel
theorem dX8_init_19 : decode cX8_init 19 = .ok (.dup, 1) := by decide +kernel
theorem dX8_init_20 : decode cX8_init 20 = .ok (.bipush 10, 2) := by decide +kernel
theorem dX8_init_22 : decode cX8_init 22 = .ok (.invokespecial 18, 3) := by decide +kernel
theorem dX8_init_25 : decode cX8_init 25 = .ok (.putfield 21, 3) := by decide +kernel
theorem dX8_init_28 : decode cX8_init 28 = .ok (.aload_n 0, 1) := by decide +kernel
theorem dX8_init_29 : decode cX8_init 29 = .ok (.new 25, 3) := by decide +kernel
theorem dX8_init_32 : decode cX8_init 32 = .ok (.dup, 1) := by decide +kernel
theorem dX8_init_33 : decode cX8_init 33 = .ok (.invokespecial 27, 3) := by decide +kernel
theorem dX8_init_36 : decode cX8_init 36 = .ok (.putfield 28, 3) := by decide +kernel
theorem dX8_init_39 : decode cX8_init 39 = .ok (.aload_n 0, 1) := by decide +kernel
theorem dX8_init_40 : decode cX8_init 40 = .ok (.new 32, 3) := by decide +kernel
theorem dX8_init_43 : decode cX8_init 43 = .ok (.dup, 1) := by decide +kernel
theorem dX8_init_44 : decode cX8_init 44 = .ok (.invokespecial 34, 3) := by decide +kernel
theorem dX8_init_47 : decode cX8_init 47 = .ok (.putfield 35, 3) := by decide +kernel
theorem dX8_init_50 : decode cX8_init 50 = .ok (.aload_n 0, 1) := by decide +kernel
theorem dX8_init_51 : decode cX8_init 51 = .ok (.new 39, 3) := by decide +kernel
theorem dX8_init_54 : decode cX8_init 54 = .ok (.dup, 1) := by decide +kernel
theorem dX8_init_55 : decode cX8_init 55 = .ok (.invokespecial 41, 3) := by decide +kernel
theorem dX8_init_58 : decode cX8_init 58 = .ok (.putfield 42, 3) := by decide +kernel
theorem dX8_init_61 : decode cX8_init 61 = .ok (.aload_n 0, 1) := by decide +kernel
theorem dX8_init_62 : decode cX8_init 62 = .ok (.new 46, 3) := by decide +kernel
theorem dX8_init_65 : decode cX8_init 65 = .ok (.dup, 1) := by decide +kernel
theorem dX8_init_66 : decode cX8_init 66 = .ok (.invokespecial 48, 3) := by decide +kernel
theorem dX8_init_69 : decode cX8_init 69 = .ok (.putfield 49, 3) := by decide +kernel
theorem dX8_init_72 : decode cX8_init 72 = .ok (.aload_n 0, 1) := by decide +kernel
theorem dX8_init_73 : decode cX8_init 73 = .ok (.new 53, 3) := by decide +kernel
theorem dX8_init_76 : decode cX8_init 76 = .ok (.dup, 1) := by decide +kernel
theorem dX8_init_77 : decode cX8_init 77 = .ok (.invokespecial 55, 3) := by decide +kernel
theorem dX8_init_80 : decode cX8_init 80 = .ok (.putfield 56, 3) := by decide +kernel
theorem dX8_init_83 : decode cX8_init 83 = .ok (.return_, 1) := by decide +kernel
theorem dX8_panel_0 : decode cX8_panel 0 = .ok (.iload_n 1, 1) := by decide +kernel
theorem dX8_panel_1 : decode cX8_panel 1 = .ok (.iload_n 2, 1) := by decide +kernel
theorem dX8_panel_2 : decode cX8_panel 2 = .ok (.invokestatic 60, 3) := by decide +kernel
theorem dX8_panel_5 : decode cX8_panel 5 = .ok (.ifCond .eq 12, 3) := by decide +kernel
theorem dX8_panel_8 : decode cX8_panel 8 = .ok (.iload_n 3, 1) := by decide +kernel
theorem dX8_panel_9 : decode cX8_panel 9 = .ok (.iload 4, 2) := by decide +kernel
theorem dX8_panel_11 : decode cX8_panel 11 = .ok (.invokestatic 60, 3) := by decide +kernel
theorem dX8_panel_14 : decode cX8_panel 14 = .ok (.ifCond .ne 6, 3) := by decide +kernel
theorem dX8_panel_17 : decode cX8_panel 17 = .ok (.bipush (-2), 2) := by decide +kernel
theorem dX8_panel_19 : decode cX8_panel 19 = .ok (.ireturn, 1) := by decide +kernel
theorem dX8_panel_20 : decode cX8_panel 20 = .ok (.iload_n 1, 1) := by decide +kernel
theorem dX8_panel_21 : decode cX8_panel 21 = .ok (.iload_n 3, 1) := by decide +kernel
theorem dX8_panel_22 : decode cX8_panel 22 = .ok (.if_icmp .ne 12, 3) := by decide +kernel
theorem dX8_panel_25 : decode cX8_panel 25 = .ok (.iload_n 2, 1) := by decide +kernel
theorem dX8_panel_26 : decode cX8_panel 26 = .ok (.iload 4, 2) := by decide +kernel
theorem dX8_panel_28 : decode cX8_panel 28 = .ok (.if_icmp .ne 6, 3) := by decide +kernel
theorem dX8_panel_31 : decode cX8_panel 31 = .ok (.bipush (-3), 2) := by decide +kernel
theorem dX8_panel_33 : decode cX8_panel 33 = .ok (.ireturn, 1) := by decide +kernel
theorem dX8_panel_34 : decode cX8_panel 34 = .ok (.aload_n 0, 1) := by decide +kernel
theorem dX8_panel_35 : decode cX8_panel 35 = .ok (.getfield 10, 3) := by decide +kernel
theorem dX8_panel_38 : decode cX8_panel 38 = .ok (.getfield 64, 3) := by decide +kernel
theorem dX8_panel_41 : decode cX8_panel 41 = .ok (.bipush 12, 2) := by decide +kernel
theorem dX8_panel_43 : decode cX8_panel 43 = .ok (.if_icmp .lt 6, 3) := by decide +kernel
theorem dX8_panel_46 : decode cX8_panel 46 = .ok (.bipush (-4), 2) := by decide +kernel
theorem dX8_panel_48 : decode cX8_panel 48 = .ok (.ireturn, 1) := by decide +kernel
theorem dX8_panel_49 : decode cX8_panel 49 = .ok (.aload_n 0, 1) := by decide +kernel
theorem dX8_panel_50 : decode cX8_panel 50 = .ok (.getfield 10, 3) := by decide +kernel
theorem dX8_panel_53 : decode cX8_panel 53 = .ok (.iload_n 1, 1) := by decide +kernel
theorem dX8_panel_54 : decode cX8_panel 54 = .ok (.iload_n 2, 1) := by decide +kernel
theorem dX8_panel_55 : decode cX8_panel 55 = .ok (.iload_n 3, 1) := by decide +kernel
theorem dX8_panel_56 : decode cX8_panel 56 = .ok (.iload 4, 2) := by decide +kernel
theorem dX8_panel_58 : decode cX8_panel 58 = .ok (.invokevirtual 68, 3) := by decide +kernel
theorem dX8_panel_61 : decode cX8_panel 61 = .ok (.ireturn, 1) := by decide +kernel
theorem dX8_eye_0 : decode cX8_eye 0 = .ok (.iload_n 1, 1) := by decide +kernel
theorem dX8_eye_1 : decode cX8_eye 1 = .ok (.ifCond .ne 31, 3) := by decide +kernel
theorem dX8_eye_4 : decode cX8_eye 4 = .ok (.iload_n 2, 1) := by decide +kernel
theorem dX8_eye_5 : decode cX8_eye 5 = .ok (.iconst 1, 1) := by decide +kernel
theorem dX8_eye_6 : decode cX8_eye 6 = .ok (.bipush 90, 2) := by decide +kernel
theorem dX8_eye_8 : decode cX8_eye 8 = .ok (.invokestatic 72, 3) := by decide +kernel
theorem dX8_eye_11 : decode cX8_eye 11 = .ok (.ifCond .eq 21, 3) := by decide +kernel
theorem dX8_eye_14 : decode cX8_eye 14 = .ok (.aload_n 0, 1) := by decide +kernel
theorem dX8_eye_15 : decode cX8_eye 15 = .ok (.getfield 10, 3) := by decide +kernel
theorem dX8_eye_18 : decode cX8_eye 18 = .ok (.getfield 76, 3) := by decide +kernel
theorem dX8_eye_21 : decode cX8_eye 21 = .ok (.istore_n 3, 1) := by decide +kernel
theorem dX8_eye_22 : decode cX8_eye 22 = .ok (.aload_n 0, 1) := by decide +kernel
theorem dX8_eye_23 : decode cX8_eye 23 = .ok (.getfield 10, 3) := by decide +kernel
theorem dX8_eye_26 : decode cX8_eye 26 = .ok (.iload_n 2, 1) := by decide +kernel
theorem dX8_eye_27 : decode cX8_eye 27 = .ok (.putfield 76, 3) := by decide +kernel
theorem dX8_eye_30 : decode cX8_eye 30 = .ok (.iload_n 3, 1) := by decide +kernel
theorem dX8_eye_31 : decode cX8_eye 31 = .ok (.ireturn, 1) := by decide +kernel
theorem dX8_eye_32 : decode cX8_eye 32 = .ok (.iload_n 1, 1) := by decide +kernel
theorem dX8_eye_33 : decode cX8_eye 33 = .ok (.iconst 1, 1) := by decide +kernel
theorem dX8_eye_34 : decode cX8_eye 34 = .ok (.if_icmp .ne 31, 3) := by decide +kernel
theorem dX8_eye_37 : decode cX8_eye 37 = .ok (.iload_n 2, 1) := by decide +kernel
theorem dX8_eye_38 : decode cX8_eye 38 = .ok (.iconst 0, 1) := by decide +kernel
theorem dX8_eye_39 : decode cX8_eye 39 = .ok (.bipush 100, 2) := by decide +kernel
theorem dX8_eye_41 : decode cX8_eye 41 = .ok (.invokestatic 72, 3) := by decide +kernel
theorem dX8_eye_44 : decode cX8_eye 44 = .ok (.ifCond .eq 21, 3) := by decide +kernel
theorem dX8_eye_47 : decode cX8_eye 47 = .ok (.aload_n 0, 1) := by decide +kernel
theorem dX8_eye_48 : decode cX8_eye 48 = .ok (.getfield 10, 3) := by decide +kernel
theorem dX8_eye_51 : decode cX8_eye 51 = .ok (.getfield 79, 3) := by decide +kernel
theorem dX8_eye_54 : decode cX8_eye 54 = .ok (.istore_n 3, 1) := by decide +kernel
theorem dX8_eye_55 : decode cX8_eye 55 = .ok (.aload_n 0, 1) := by decide +kernel
theorem dX8_eye_56 : decode cX8_eye 56 = .ok (.getfield 10, 3) := by decide +kernel
theorem dX8_eye_59 : decode cX8_eye 59 = .ok (.iload_n 2, 1) := by decide +kernel
theorem dX8_eye_60 : decode cX8_eye 60 = .ok (.putfield 79, 3) := by decide +kernel
theorem dX8_eye_63 : decode cX8_eye 63 = .ok (.iload_n 3, 1) := by decide +kernel
theorem dX8_eye_64 : decode cX8_eye 64 = .ok (.ireturn, 1) := by decide +kernel
theorem dX8_eye_65 : decode cX8_eye 65 = .ok (.bipush (-2), 2) := by decide +kernel
theorem dX8_eye_67 : decode cX8_eye 67 = .ok (.ireturn, 1) := by decide +kernel
theorem dX8_view_0 : decode cX8_view 0 = .ok (.iload_n 1, 1) := by decide +kernel
theorem dX8_view_1 : decode cX8_view 1 = .ok (.iload_n 2, 1) := by decide +kernel
theorem dX8_view_2 : decode cX8_view 2 = .ok (.invokestatic 60, 3) := by decide +kernel
theorem dX8_view_5 : decode cX8_view 5 = .ok (.ifCond .ne 6, 3) := by decide +kernel
theorem dX8_view_8 : decode cX8_view 8 = .ok (.bipush (-2), 2) := by decide +kernel
theorem dX8_view_10 : decode cX8_view 10 = .ok (.ireturn, 1) := by decide +kernel
theorem dX8_view_11 : decode cX8_view 11 = .ok (.aload_n 0, 1) := by decide +kernel
theorem dX8_view_12 : decode cX8_view 12 = .ok (.getfield 21, 3) := by decide +kernel
theorem dX8_view_15 : decode cX8_view 15 = .ok (.getfield 82, 3) := by decide +kernel
theorem dX8_view_18 : decode cX8_view 18 = .ok (.bipush 10, 2) := by decide +kernel
theorem dX8_view_20 : decode cX8_view 20 = .ok (.if_icmp .lt 6, 3) := by decide +kernel
theorem dX8_view_23 : decode cX8_view 23 = .ok (.bipush (-4), 2) := by decide +kernel
theorem dX8_view_25 : decode cX8_view 25 = .ok (.ireturn, 1) := by decide +kernel
theorem dX8_view_26 : decode cX8_view 26 = .ok (.aload_n 0, 1) := by decide +kernel
theorem dX8_view_27 : decode cX8_view 27 = .ok (.getfield 21, 3) := by decide +kernel
theorem dX8_view_30 : decode cX8_view 30 = .ok (.iload_n 1, 1) := by decide +kernel
theorem dX8_view_31 : decode cX8_view 31 = .ok (.iload_n 2, 1) := by decide +kernel
theorem dX8_view_32 : decode cX8_view 32 = .ok (.invokevirtual 83, 3) := by decide +kernel
theorem dX8_view_35 : decode cX8_view 35 = .ok (.ireturn, 1) := by decide +kernel
theorem dX8_seen_0 : decode cX8_seen 0 = .ok (.iload_n 1, 1) := by decide +kernel
theorem dX8_seen_1 : decode cX8_seen 1 = .ok (.iload_n 2, 1) := by decide +kernel
theorem dX8_seen_2 : decode cX8_seen 2 = .ok (.invokestatic 60, 3) := by decide +kernel
theorem dX8_seen_5 : decode cX8_seen 5 = .ok (.ifCond .ne 6, 3) := by decide +kernel
theorem dX8_seen_8 : decode cX8_seen 8 = .ok (.bipush (-2), 2) := by decide +kernel
theorem dX8_seen_10 : decode cX8_seen 10 = .ok (.ireturn, 1) := by decide +kernel
theorem dX8_seen_11 : decode cX8_seen 11 = .ok (.aload_n 0, 1) := by decide +kernel
theorem dX8_seen_12 : decode cX8_seen 12 = .ok (.iload_n 3, 1) := by decide +kernel
theorem dX8_seen_13 : decode cX8_seen 13 = .ok (.invokevirtual 86, 3) := by decide +kernel
theorem dX8_seen_16 : decode cX8_seen 16 = .ok (.ifCond .ne 5, 3) := by decide +kernel
theorem dX8_seen_19 : decode cX8_seen 19 = .ok (.iconst (-1), 1) := by decide +kernel
theorem dX8_seen_20 : decode cX8_seen 20 = .ok (.ireturn, 1) := by decide +kernel
theorem dX8_seen_21 : decode cX8_seen 21 = .ok (.aload_n 0, 1) := by decide +kernel
theorem dX8_seen_22 : decode cX8_seen 22 = .ok (.getfield 10, 3) := by decide +kernel
theorem dX8_seen_25 : decode cX8_seen 25 = .ok (.iload_n 1, 1) := by decide +kernel
theorem dX8_seen_26 : decode cX8_seen 26 = .ok (.iload_n 2, 1) := by decide +kernel
theorem dX8_seen_27 : decode cX8_seen 27 = .ok (.iload_n 3, 1) := by decide +kernel
theorem dX8_seen_28 : decode cX8_seen 28 = .ok (.invokevirtual 90, 3) := by decide +kernel
theorem dX8_seen_31 : decode cX8_seen 31 = .ok (.invokestatic 93, 3) := by decide +kernel
theorem dX8_seen_34 : decode cX8_seen 34 = .ok (.ireturn, 1) := by decide +kernel
theorem dX8_sees_0 : decode cX8_sees 0 = .ok (.iload_n 1, 1) := by decide +kernel
theorem dX8_sees_1 : decode cX8_sees 1 = .ok (.ifCond .lt 14, 3) := by decide +kernel
theorem dX8_sees_4 : decode cX8_sees 4 = .ok (.iload_n 1, 1) := by decide +kernel
theorem dX8_sees_5 : decode cX8_sees 5 = .ok (.aload_n 0, 1) := by decide +kernel
theorem dX8_sees_6 : decode cX8_sees 6 = .ok (.getfield 21, 3) := by decide +kernel
theorem dX8_sees_9 : decode cX8_sees 9 = .ok (.getfield 82, 3) := by decide +kernel
theorem dX8_sees_12 : decode cX8_sees 12 = .ok (.if_icmp .lt 5, 3) := by decide +kernel
theorem dX8_sees_15 : decode cX8_sees 15 = .ok (.iconst (-1), 1) := by decide +kernel
theorem dX8_sees_16 : decode cX8_sees 16 = .ok (.ireturn, 1) := by decide +kernel
theorem dX8_sees_17 : decode cX8_sees 17 = .ok (.aload_n 0, 1) := by decide +kernel
theorem dX8_sees_18 : decode cX8_sees 18 = .ok (.getfield 10, 3) := by decide +kernel
theorem dX8_sees_21 : decode cX8_sees 21 = .ok (.aload_n 0, 1) := by decide +kernel
theorem dX8_sees_22 : decode cX8_sees 22 = .ok (.getfield 21, 3) := by decide +kernel
theorem dX8_sees_25 : decode cX8_sees 25 = .ok (.getfield 97, 3) := by decide +kernel
theorem dX8_sees_28 : decode cX8_sees 28 = .ok (.iload_n 1, 1) := by decide +kernel
theorem dX8_sees_29 : decode cX8_sees 29 = .ok (.iaload, 1) := by decide +kernel
theorem dX8_sees_30 : decode cX8_sees 30 = .ok (.aload_n 0, 1) := by decide +kernel
theorem dX8_sees_31 : decode cX8_sees 31 = .ok (.getfield 21, 3) := by decide +kernel
theorem dX8_sees_34 : decode cX8_sees 34 = .ok (.getfield 101, 3) := by decide +kernel
theorem dX8_sees_37 : decode cX8_sees 37 = .ok (.iload_n 1, 1) := by decide +kernel
theorem dX8_sees_38 : decode cX8_sees 38 = .ok (.iaload, 1) := by decide +kernel
theorem dX8_sees_39 : decode cX8_sees 39 = .ok (.invokevirtual 104, 3) := by decide +kernel
theorem dX8_sees_42 : decode cX8_sees 42 = .ok (.ireturn, 1) := by decide +kernel
theorem dX8_cover_0 : decode cX8_cover 0 = .ok (.iload_n 1, 1) := by decide +kernel
theorem dX8_cover_1 : decode cX8_cover 1 = .ok (.iconst 1, 1) := by decide +kernel
theorem dX8_cover_2 : decode cX8_cover 2 = .ok (.iconst 3, 1) := by decide +kernel
theorem dX8_cover_3 : decode cX8_cover 3 = .ok (.invokestatic 72, 3) := by decide +kernel
theorem dX8_cover_6 : decode cX8_cover 6 = .ok (.ifCond .ne 6, 3) := by decide +kernel
theorem dX8_cover_9 : decode cX8_cover 9 = .ok (.bipush (-2), 2) := by decide +kernel
theorem dX8_cover_11 : decode cX8_cover 11 = .ok (.ireturn, 1) := by decide +kernel
theorem dX8_cover_12 : decode cX8_cover 12 = .ok (.aload_n 0, 1) := by decide +kernel
theorem dX8_cover_13 : decode cX8_cover 13 = .ok (.getfield 28, 3) := by decide +kernel
theorem dX8_cover_16 : decode cX8_cover 16 = .ok (.aload_n 0, 1) := by decide +kernel
theorem dX8_cover_17 : decode cX8_cover 17 = .ok (.getfield 10, 3) := by decide +kernel
theorem dX8_cover_20 : decode cX8_cover 20 = .ok (.aload_n 0, 1) := by decide +kernel
theorem dX8_cover_21 : decode cX8_cover 21 = .ok (.getfield 21, 3) := by decide +kernel
theorem dX8_cover_24 : decode cX8_cover 24 = .ok (.invokevirtual 107, 3) := by decide +kernel
theorem dX8_cover_27 : decode cX8_cover 27 = .ok (.aload_n 0, 1) := by decide +kernel
theorem dX8_cover_28 : decode cX8_cover 28 = .ok (.getfield 28, 3) := by decide +kernel
theorem dX8_cover_31 : decode cX8_cover 31 = .ok (.iload_n 1, 1) := by decide +kernel
theorem dX8_cover_32 : decode cX8_cover 32 = .ok (.iconst 1, 1) := by decide +kernel
theorem dX8_cover_33 : decode cX8_cover 33 = .ok (.aload_n 0, 1) := by decide +kernel
theorem dX8_cover_34 : decode cX8_cover 34 = .ok (.getfield 21, 3) := by decide +kernel
theorem dX8_cover_37 : decode cX8_cover 37 = .ok (.getfield 82, 3) := by decide +kernel
theorem dX8_cover_40 : decode cX8_cover 40 = .ok (.ishl, 1) := by decide +kernel
theorem dX8_cover_41 : decode cX8_cover 41 = .ok (.invokevirtual 111, 3) := by decide +kernel
theorem dX8_cover_44 : decode cX8_cover 44 = .ok (.ireturn, 1) := by decide +kernel
theorem dX8_covers_0 : decode cX8_covers 0 = .ok (.aload_n 0, 1) := by decide +kernel
theorem dX8_covers_1 : decode cX8_covers 1 = .ok (.iload_n 1, 1) := by decide +kernel
theorem dX8_covers_2 : decode cX8_covers 2 = .ok (.invokevirtual 114, 3) := by decide +kernel
theorem dX8_covers_5 : decode cX8_covers 5 = .ok (.ifCond .ne 5, 3) := by decide +kernel
theorem dX8_covers_8 : decode cX8_covers 8 = .ok (.iconst (-1), 1) := by decide +kernel
theorem dX8_covers_9 : decode cX8_covers 9 = .ok (.ireturn, 1) := by decide +kernel
theorem dX8_covers_10 : decode cX8_covers 10 = .ok (.iload_n 2, 1) := by decide +kernel
theorem dX8_covers_11 : decode cX8_covers 11 = .ok (.iconst 1, 1) := by decide +kernel
theorem dX8_covers_12 : decode cX8_covers 12 = .ok (.iconst 3, 1) := by decide +kernel
theorem dX8_covers_13 : decode cX8_covers 13 = .ok (.invokestatic 72, 3) := by decide +kernel
theorem dX8_covers_16 : decode cX8_covers 16 = .ok (.ifCond .ne 6, 3) := by decide +kernel
theorem dX8_covers_19 : decode cX8_covers 19 = .ok (.bipush (-2), 2) := by decide +kernel
theorem dX8_covers_21 : decode cX8_covers 21 = .ok (.ireturn, 1) := by decide +kernel
theorem dX8_covers_22 : decode cX8_covers 22 = .ok (.aload_n 0, 1) := by decide +kernel
theorem dX8_covers_23 : decode cX8_covers 23 = .ok (.getfield 28, 3) := by decide +kernel
theorem dX8_covers_26 : decode cX8_covers 26 = .ok (.aload_n 0, 1) := by decide +kernel
theorem dX8_covers_27 : decode cX8_covers 27 = .ok (.getfield 10, 3) := by decide +kernel
theorem dX8_covers_30 : decode cX8_covers 30 = .ok (.aload_n 0, 1) := by decide +kernel
theorem dX8_covers_31 : decode cX8_covers 31 = .ok (.getfield 21, 3) := by decide +kernel
theorem dX8_covers_34 : decode cX8_covers 34 = .ok (.invokevirtual 107, 3) := by decide +kernel
theorem dX8_covers_37 : decode cX8_covers 37 = .ok (.aload_n 0, 1) := by decide +kernel
theorem dX8_covers_38 : decode cX8_covers 38 = .ok (.getfield 28, 3) := by decide +kernel
theorem dX8_covers_41 : decode cX8_covers 41 = .ok (.iload_n 1, 1) := by decide +kernel
theorem dX8_covers_42 : decode cX8_covers 42 = .ok (.invokevirtual 117, 3) := by decide +kernel
theorem dX8_covers_45 : decode cX8_covers 45 = .ok (.iload_n 2, 1) := by decide +kernel
theorem dX8_covers_46 : decode cX8_covers 46 = .ok (.if_icmp .lt 7, 3) := by decide +kernel
theorem dX8_covers_49 : decode cX8_covers 49 = .ok (.iconst 1, 1) := by decide +kernel
theorem dX8_covers_50 : decode cX8_covers 50 = .ok (.goto 4, 3) := by decide +kernel
theorem dX8_covers_53 : decode cX8_covers 53 = .ok (.iconst 0, 1) := by decide +kernel
theorem dX8_covers_54 : decode cX8_covers 54 = .ok (.invokestatic 93, 3) := by decide +kernel
theorem dX8_covers_57 : decode cX8_covers 57 = .ok (.ireturn, 1) := by decide +kernel
theorem dX8_times_0 : decode cX8_times 0 = .ok (.aload_n 0, 1) := by decide +kernel
theorem dX8_times_1 : decode cX8_times 1 = .ok (.iload_n 1, 1) := by decide +kernel
theorem dX8_times_2 : decode cX8_times 2 = .ok (.invokevirtual 114, 3) := by decide +kernel
theorem dX8_times_5 : decode cX8_times 5 = .ok (.ifCond .ne 5, 3) := by decide +kernel
theorem dX8_times_8 : decode cX8_times 8 = .ok (.iconst (-1), 1) := by decide +kernel
theorem dX8_times_9 : decode cX8_times 9 = .ok (.ireturn, 1) := by decide +kernel
theorem dX8_times_10 : decode cX8_times 10 = .ok (.aload_n 0, 1) := by decide +kernel
theorem dX8_times_11 : decode cX8_times 11 = .ok (.getfield 10, 3) := by decide +kernel
theorem dX8_times_14 : decode cX8_times 14 = .ok (.getfield 64, 3) := by decide +kernel
theorem dX8_times_17 : decode cX8_times 17 = .ok (.ifCond .ne 6, 3) := by decide +kernel
theorem dX8_times_20 : decode cX8_times 20 = .ok (.bipush (-9), 2) := by decide +kernel
theorem dX8_times_22 : decode cX8_times 22 = .ok (.ireturn, 1) := by decide +kernel
theorem dX8_times_23 : decode cX8_times 23 = .ok (.aload_n 0, 1) := by decide +kernel
theorem dX8_times_24 : decode cX8_times 24 = .ok (.getfield 28, 3) := by decide +kernel
theorem dX8_times_27 : decode cX8_times 27 = .ok (.aload_n 0, 1) := by decide +kernel
theorem dX8_times_28 : decode cX8_times 28 = .ok (.getfield 10, 3) := by decide +kernel
theorem dX8_times_31 : decode cX8_times 31 = .ok (.aload_n 0, 1) := by decide +kernel
theorem dX8_times_32 : decode cX8_times 32 = .ok (.getfield 21, 3) := by decide +kernel
theorem dX8_times_35 : decode cX8_times 35 = .ok (.invokevirtual 107, 3) := by decide +kernel
theorem dX8_times_38 : decode cX8_times 38 = .ok (.aload_n 0, 1) := by decide +kernel
theorem dX8_times_39 : decode cX8_times 39 = .ok (.getfield 28, 3) := by decide +kernel
theorem dX8_times_42 : decode cX8_times 42 = .ok (.iload_n 1, 1) := by decide +kernel
theorem dX8_times_43 : decode cX8_times 43 = .ok (.invokevirtual 117, 3) := by decide +kernel
theorem dX8_times_46 : decode cX8_times 46 = .ok (.ireturn, 1) := by decide +kernel
theorem dX8_close_0 : decode cX8_close 0 = .ok (.iload_n 1, 1) := by decide +kernel
theorem dX8_close_1 : decode cX8_close 1 = .ok (.iload_n 2, 1) := by decide +kernel
theorem dX8_close_2 : decode cX8_close 2 = .ok (.invokestatic 60, 3) := by decide +kernel
theorem dX8_close_5 : decode cX8_close 5 = .ok (.ifCond .eq 12, 3) := by decide +kernel
theorem dX8_close_8 : decode cX8_close 8 = .ok (.iload_n 3, 1) := by decide +kernel
theorem dX8_close_9 : decode cX8_close 9 = .ok (.iload 4, 2) := by decide +kernel
theorem dX8_close_11 : decode cX8_close 11 = .ok (.invokestatic 60, 3) := by decide +kernel
theorem dX8_close_14 : decode cX8_close 14 = .ok (.ifCond .ne 6, 3) := by decide +kernel
theorem dX8_close_17 : decode cX8_close 17 = .ok (.bipush (-2), 2) := by decide +kernel
theorem dX8_close_19 : decode cX8_close 19 = .ok (.ireturn, 1) := by decide +kernel
theorem dX8_close_20 : decode cX8_close 20 = .ok (.iload_n 3, 1) := by decide +kernel
theorem dX8_close_21 : decode cX8_close 21 = .ok (.iload_n 1, 1) := by decide +kernel
theorem dX8_close_22 : decode cX8_close 22 = .ok (.if_icmp .le 9, 3) := by decide +kernel
theorem dX8_close_25 : decode cX8_close 25 = .ok (.iload 4, 2) := by decide +kernel
theorem dX8_close_27 : decode cX8_close 27 = .ok (.iload_n 2, 1) := by decide +kernel
theorem dX8_close_28 : decode cX8_close 28 = .ok (.if_icmp .gt 6, 3) := by decide +kernel
theorem dX8_close_31 : decode cX8_close 31 = .ok (.bipush (-3), 2) := by decide +kernel
theorem dX8_close_33 : decode cX8_close 33 = .ok (.ireturn, 1) := by decide +kernel
theorem dX8_close_34 : decode cX8_close 34 = .ok (.aload_n 0, 1) := by decide +kernel
theorem dX8_close_35 : decode cX8_close 35 = .ok (.getfield 35, 3) := by decide +kernel
theorem dX8_close_38 : decode cX8_close 38 = .ok (.getfield 121, 3) := by decide +kernel
theorem dX8_close_41 : decode cX8_close 41 = .ok (.iconst 4, 1) := by decide +kernel
theorem dX8_close_42 : decode cX8_close 42 = .ok (.if_icmp .lt 6, 3) := by decide +kernel
theorem dX8_close_45 : decode cX8_close 45 = .ok (.bipush (-4), 2) := by decide +kernel
theorem dX8_close_47 : decode cX8_close 47 = .ok (.ireturn, 1) := by decide +kernel
theorem dX8_close_48 : decode cX8_close 48 = .ok (.aload_n 0, 1) := by decide +kernel
theorem dX8_close_49 : decode cX8_close 49 = .ok (.getfield 35, 3) := by decide +kernel
theorem dX8_close_52 : decode cX8_close 52 = .ok (.iload_n 1, 1) := by decide +kernel
theorem dX8_close_53 : decode cX8_close 53 = .ok (.iload_n 2, 1) := by decide +kernel
theorem dX8_close_54 : decode cX8_close 54 = .ok (.iload_n 3, 1) := by decide +kernel
theorem dX8_close_55 : decode cX8_close 55 = .ok (.iload 4, 2) := by decide +kernel
theorem dX8_close_57 : decode cX8_close 57 = .ok (.invokevirtual 122, 3) := by decide +kernel
theorem dX8_close_60 : decode cX8_close 60 = .ok (.aload_n 0, 1) := by decide +kernel
theorem dX8_close_61 : decode cX8_close 61 = .ok (.invokevirtual 125, 3) := by decide +kernel
theorem dX8_close_64 : decode cX8_close 64 = .ok (.aload_n 0, 1) := by decide +kernel
theorem dX8_close_65 : decode cX8_close 65 = .ok (.getfield 35, 3) := by decide +kernel
theorem dX8_close_68 : decode cX8_close 68 = .ok (.getfield 121, 3) := by decide +kernel
theorem dX8_close_71 : decode cX8_close 71 = .ok (.ireturn, 1) := by decide +kernel
theorem dX8_open_0 : decode cX8_open 0 = .ok (.aload_n 0, 1) := by decide +kernel
theorem dX8_open_1 : decode cX8_open 1 = .ok (.getfield 35, 3) := by decide +kernel
theorem dX8_open_4 : decode cX8_open 4 = .ok (.getfield 121, 3) := by decide +kernel
theorem dX8_open_7 : decode cX8_open 7 = .ok (.ifCond .ne 6, 3) := by decide +kernel
theorem dX8_open_10 : decode cX8_open 10 = .ok (.bipush (-3), 2) := by decide +kernel
theorem dX8_open_12 : decode cX8_open 12 = .ok (.ireturn, 1) := by decide +kernel
theorem dX8_open_13 : decode cX8_open 13 = .ok (.aload_n 0, 1) := by decide +kernel
theorem dX8_open_14 : decode cX8_open 14 = .ok (.getfield 35, 3) := by decide +kernel
theorem dX8_open_17 : decode cX8_open 17 = .ok (.dup, 1) := by decide +kernel
theorem dX8_open_18 : decode cX8_open 18 = .ok (.getfield 121, 3) := by decide +kernel
theorem dX8_open_21 : decode cX8_open 21 = .ok (.iconst 1, 1) := by decide +kernel
theorem dX8_open_22 : decode cX8_open 22 = .ok (.isub, 1) := by decide +kernel
theorem dX8_open_23 : decode cX8_open 23 = .ok (.putfield 121, 3) := by decide +kernel
theorem dX8_open_26 : decode cX8_open 26 = .ok (.aload_n 0, 1) := by decide +kernel
theorem dX8_open_27 : decode cX8_open 27 = .ok (.invokevirtual 125, 3) := by decide +kernel
theorem dX8_open_30 : decode cX8_open 30 = .ok (.aload_n 0, 1) := by decide +kernel
theorem dX8_open_31 : decode cX8_open 31 = .ok (.getfield 35, 3) := by decide +kernel
theorem dX8_open_34 : decode cX8_open 34 = .ok (.getfield 121, 3) := by decide +kernel
theorem dX8_open_37 : decode cX8_open 37 = .ok (.ireturn, 1) := by decide +kernel
theorem dX8_wind_0 : decode cX8_wind 0 = .ok (.iload_n 1, 1) := by decide +kernel
theorem dX8_wind_1 : decode cX8_wind 1 = .ok (.bipush (-9), 2) := by decide +kernel
theorem dX8_wind_3 : decode cX8_wind 3 = .ok (.bipush 9, 2) := by decide +kernel
theorem dX8_wind_5 : decode cX8_wind 5 = .ok (.invokestatic 72, 3) := by decide +kernel
theorem dX8_wind_8 : decode cX8_wind 8 = .ok (.ifCond .eq 14, 3) := by decide +kernel
theorem dX8_wind_11 : decode cX8_wind 11 = .ok (.iload_n 2, 1) := by decide +kernel
theorem dX8_wind_12 : decode cX8_wind 12 = .ok (.bipush (-9), 2) := by decide +kernel
theorem dX8_wind_14 : decode cX8_wind 14 = .ok (.bipush 9, 2) := by decide +kernel
theorem dX8_wind_16 : decode cX8_wind 16 = .ok (.invokestatic 72, 3) := by decide +kernel
theorem dX8_wind_19 : decode cX8_wind 19 = .ok (.ifCond .ne 6, 3) := by decide +kernel
theorem dX8_wind_22 : decode cX8_wind 22 = .ok (.bipush (-2), 2) := by decide +kernel
theorem dX8_wind_24 : decode cX8_wind 24 = .ok (.ireturn, 1) := by decide +kernel
theorem dX8_wind_25 : decode cX8_wind 25 = .ok (.bipush 100, 2) := by decide +kernel
theorem dX8_wind_27 : decode cX8_wind 27 = .ok (.aload_n 0, 1) := by decide +kernel
theorem dX8_wind_28 : decode cX8_wind 28 = .ok (.getfield 35, 3) := by decide +kernel
theorem dX8_wind_31 : decode cX8_wind 31 = .ok (.getfield 128, 3) := by decide +kernel
theorem dX8_wind_34 : decode cX8_wind 34 = .ok (.imul, 1) := by decide +kernel
theorem dX8_wind_35 : decode cX8_wind 35 = .ok (.aload_n 0, 1) := by decide +kernel
theorem dX8_wind_36 : decode cX8_wind 36 = .ok (.getfield 35, 3) := by decide +kernel
theorem dX8_wind_39 : decode cX8_wind 39 = .ok (.getfield 131, 3) := by decide +kernel
theorem dX8_wind_42 : decode cX8_wind 42 = .ok (.iadd, 1) := by decide +kernel
theorem dX8_wind_43 : decode cX8_wind 43 = .ok (.sipush 909, 3) := by decide +kernel
theorem dX8_wind_46 : decode cX8_wind 46 = .ok (.iadd, 1) := by decide +kernel
theorem dX8_wind_47 : decode cX8_wind 47 = .ok (.istore_n 3, 1) := by decide +kernel
theorem dX8_wind_48 : decode cX8_wind 48 = .ok (.aload_n 0, 1) := by decide +kernel
theorem dX8_wind_49 : decode cX8_wind 49 = .ok (.getfield 35, 3) := by decide +kernel
theorem dX8_wind_52 : decode cX8_wind 52 = .ok (.iload_n 1, 1) := by decide +kernel
theorem dX8_wind_53 : decode cX8_wind 53 = .ok (.putfield 128, 3) := by decide +kernel
theorem dX8_wind_56 : decode cX8_wind 56 = .ok (.aload_n 0, 1) := by decide +kernel
theorem dX8_wind_57 : decode cX8_wind 57 = .ok (.getfield 35, 3) := by decide +kernel
theorem dX8_wind_60 : decode cX8_wind 60 = .ok (.iload_n 2, 1) := by decide +kernel
theorem dX8_wind_61 : decode cX8_wind 61 = .ok (.putfield 131, 3) := by decide +kernel
theorem dX8_wind_64 : decode cX8_wind 64 = .ok (.aload_n 0, 1) := by decide +kernel
theorem dX8_wind_65 : decode cX8_wind 65 = .ok (.invokevirtual 125, 3) := by decide +kernel
theorem dX8_wind_68 : decode cX8_wind 68 = .ok (.iload_n 3, 1) := by decide +kernel
theorem dX8_wind_69 : decode cX8_wind 69 = .ok (.ireturn, 1) := by decide +kernel
theorem dX8_base_0 : decode cX8_base 0 = .ok (.iload_n 1, 1) := by decide +kernel
theorem dX8_base_1 : decode cX8_base 1 = .ok (.iload_n 2, 1) := by decide +kernel
theorem dX8_base_2 : decode cX8_base 2 = .ok (.invokestatic 60, 3) := by decide +kernel
theorem dX8_base_5 : decode cX8_base 5 = .ok (.ifCond .ne 6, 3) := by decide +kernel
theorem dX8_base_8 : decode cX8_base 8 = .ok (.bipush (-2), 2) := by decide +kernel
theorem dX8_base_10 : decode cX8_base 10 = .ok (.ireturn, 1) := by decide +kernel
theorem dX8_base_11 : decode cX8_base 11 = .ok (.bipush 100, 2) := by decide +kernel
theorem dX8_base_13 : decode cX8_base 13 = .ok (.aload_n 0, 1) := by decide +kernel
theorem dX8_base_14 : decode cX8_base 14 = .ok (.getfield 42, 3) := by decide +kernel
theorem dX8_base_17 : decode cX8_base 17 = .ok (.getfield 134, 3) := by decide +kernel
theorem dX8_base_20 : decode cX8_base 20 = .ok (.imul, 1) := by decide +kernel
theorem dX8_base_21 : decode cX8_base 21 = .ok (.aload_n 0, 1) := by decide +kernel
theorem dX8_base_22 : decode cX8_base 22 = .ok (.getfield 42, 3) := by decide +kernel
theorem dX8_base_25 : decode cX8_base 25 = .ok (.getfield 137, 3) := by decide +kernel
theorem dX8_base_28 : decode cX8_base 28 = .ok (.iadd, 1) := by decide +kernel
theorem dX8_base_29 : decode cX8_base 29 = .ok (.istore_n 3, 1) := by decide +kernel
theorem dX8_base_30 : decode cX8_base 30 = .ok (.aload_n 0, 1) := by decide +kernel
theorem dX8_base_31 : decode cX8_base 31 = .ok (.getfield 42, 3) := by decide +kernel
theorem dX8_base_34 : decode cX8_base 34 = .ok (.iload_n 1, 1) := by decide +kernel
theorem dX8_base_35 : decode cX8_base 35 = .ok (.putfield 134, 3) := by decide +kernel
theorem dX8_base_38 : decode cX8_base 38 = .ok (.aload_n 0, 1) := by decide +kernel
theorem dX8_base_39 : decode cX8_base 39 = .ok (.getfield 42, 3) := by decide +kernel
theorem dX8_base_42 : decode cX8_base 42 = .ok (.iload_n 2, 1) := by decide +kernel
theorem dX8_base_43 : decode cX8_base 43 = .ok (.putfield 137, 3) := by decide +kernel
theorem dX8_base_46 : decode cX8_base 46 = .ok (.aload_n 0, 1) := by decide +kernel
theorem dX8_base_47 : decode cX8_base 47 = .ok (.invokevirtual 125, 3) := by decide +kernel
theorem dX8_base_50 : decode cX8_base 50 = .ok (.iload_n 3, 1) := by decide +kernel
theorem dX8_base_51 : decode cX8_base 51 = .ok (.ireturn, 1) := by decide +kernel
theorem dX8_store_0 : decode cX8_store 0 = .ok (.iload_n 1, 1) := by decide +kernel
theorem dX8_store_1 : decode cX8_store 1 = .ok (.ifCond .ne 36, 3) := by decide +kernel
theorem dX8_store_4 : decode cX8_store 4 = .ok (.iload_n 2, 1) := by decide +kernel
theorem dX8_store_5 : decode cX8_store 5 = .ok (.iconst 1, 1) := by decide +kernel
theorem dX8_store_6 : decode cX8_store 6 = .ok (.sipush 30000, 3) := by decide +kernel
theorem dX8_store_9 : decode cX8_store 9 = .ok (.invokestatic 72, 3) := by decide +kernel
theorem dX8_store_12 : decode cX8_store 12 = .ok (.ifCond .eq 25, 3) := by decide +kernel
theorem dX8_store_15 : decode cX8_store 15 = .ok (.aload_n 0, 1) := by decide +kernel
theorem dX8_store_16 : decode cX8_store 16 = .ok (.getfield 42, 3) := by decide +kernel
theorem dX8_store_19 : decode cX8_store 19 = .ok (.getfield 140, 3) := by decide +kernel
theorem dX8_store_22 : decode cX8_store 22 = .ok (.istore_n 3, 1) := by decide +kernel
theorem dX8_store_23 : decode cX8_store 23 = .ok (.aload_n 0, 1) := by decide +kernel
theorem dX8_store_24 : decode cX8_store 24 = .ok (.getfield 42, 3) := by decide +kernel
theorem dX8_store_27 : decode cX8_store 27 = .ok (.iload_n 2, 1) := by decide +kernel
theorem dX8_store_28 : decode cX8_store 28 = .ok (.putfield 140, 3) := by decide +kernel
theorem dX8_store_31 : decode cX8_store 31 = .ok (.aload_n 0, 1) := by decide +kernel
theorem dX8_store_32 : decode cX8_store 32 = .ok (.invokevirtual 125, 3) := by decide +kernel
theorem dX8_store_35 : decode cX8_store 35 = .ok (.iload_n 3, 1) := by decide +kernel
theorem dX8_store_36 : decode cX8_store 36 = .ok (.ireturn, 1) := by decide +kernel
theorem dX8_store_37 : decode cX8_store 37 = .ok (.iload_n 1, 1) := by decide +kernel
theorem dX8_store_38 : decode cX8_store 38 = .ok (.iconst 1, 1) := by decide +kernel
theorem dX8_store_39 : decode cX8_store 39 = .ok (.if_icmp .ne 36, 3) := by decide +kernel
theorem dX8_store_42 : decode cX8_store 42 = .ok (.iload_n 2, 1) := by decide +kernel
theorem dX8_store_43 : decode cX8_store 43 = .ok (.iconst 0, 1) := by decide +kernel
theorem dX8_store_44 : decode cX8_store 44 = .ok (.sipush 500, 3) := by decide +kernel
theorem dX8_store_47 : decode cX8_store 47 = .ok (.invokestatic 72, 3) := by decide +kernel
theorem dX8_store_50 : decode cX8_store 50 = .ok (.ifCond .eq 25, 3) := by decide +kernel
theorem dX8_store_53 : decode cX8_store 53 = .ok (.aload_n 0, 1) := by decide +kernel
theorem dX8_store_54 : decode cX8_store 54 = .ok (.getfield 42, 3) := by decide +kernel
theorem dX8_store_57 : decode cX8_store 57 = .ok (.getfield 143, 3) := by decide +kernel
theorem dX8_store_60 : decode cX8_store 60 = .ok (.istore_n 3, 1) := by decide +kernel
theorem dX8_store_61 : decode cX8_store 61 = .ok (.aload_n 0, 1) := by decide +kernel
theorem dX8_store_62 : decode cX8_store 62 = .ok (.getfield 42, 3) := by decide +kernel
theorem dX8_store_65 : decode cX8_store 65 = .ok (.iload_n 2, 1) := by decide +kernel
theorem dX8_store_66 : decode cX8_store 66 = .ok (.putfield 143, 3) := by decide +kernel
theorem dX8_store_69 : decode cX8_store 69 = .ok (.aload_n 0, 1) := by decide +kernel
theorem dX8_store_70 : decode cX8_store 70 = .ok (.invokevirtual 125, 3) := by decide +kernel
theorem dX8_store_73 : decode cX8_store 73 = .ok (.iload_n 3, 1) := by decide +kernel
theorem dX8_store_74 : decode cX8_store 74 = .ok (.ireturn, 1) := by decide +kernel
theorem dX8_store_75 : decode cX8_store 75 = .ok (.bipush (-2), 2) := by decide +kernel
theorem dX8_store_77 : decode cX8_store 77 = .ok (.ireturn, 1) := by decide +kernel
theorem dX8_leg_0 : decode cX8_leg 0 = .ok (.iload_n 1, 1) := by decide +kernel
theorem dX8_leg_1 : decode cX8_leg 1 = .ok (.iload_n 2, 1) := by decide +kernel
theorem dX8_leg_2 : decode cX8_leg 2 = .ok (.invokestatic 60, 3) := by decide +kernel
theorem dX8_leg_5 : decode cX8_leg 5 = .ok (.ifCond .eq 12, 3) := by decide +kernel
theorem dX8_leg_8 : decode cX8_leg 8 = .ok (.iload_n 3, 1) := by decide +kernel
theorem dX8_leg_9 : decode cX8_leg 9 = .ok (.iload 4, 2) := by decide +kernel
theorem dX8_leg_11 : decode cX8_leg 11 = .ok (.invokestatic 60, 3) := by decide +kernel
theorem dX8_leg_14 : decode cX8_leg 14 = .ok (.ifCond .ne 6, 3) := by decide +kernel
theorem dX8_leg_17 : decode cX8_leg 17 = .ok (.bipush (-2), 2) := by decide +kernel
theorem dX8_leg_19 : decode cX8_leg 19 = .ok (.ireturn, 1) := by decide +kernel
theorem dX8_leg_20 : decode cX8_leg 20 = .ok (.aload_n 0, 1) := by decide +kernel
theorem dX8_leg_21 : decode cX8_leg 21 = .ok (.getfield 35, 3) := by decide +kernel
theorem dX8_leg_24 : decode cX8_leg 24 = .ok (.iload_n 1, 1) := by decide +kernel
theorem dX8_leg_25 : decode cX8_leg 25 = .ok (.iload_n 2, 1) := by decide +kernel
theorem dX8_leg_26 : decode cX8_leg 26 = .ok (.iload_n 3, 1) := by decide +kernel
theorem dX8_leg_27 : decode cX8_leg 27 = .ok (.iload 4, 2) := by decide +kernel
theorem dX8_leg_29 : decode cX8_leg 29 = .ok (.invokevirtual 146, 3) := by decide +kernel
theorem dX8_leg_32 : decode cX8_leg 32 = .ok (.ifCond .eq 6, 3) := by decide +kernel
theorem dX8_leg_35 : decode cX8_leg 35 = .ok (.bipush (-9), 2) := by decide +kernel
theorem dX8_leg_37 : decode cX8_leg 37 = .ok (.ireturn, 1) := by decide +kernel
theorem dX8_leg_38 : decode cX8_leg 38 = .ok (.aload_n 0, 1) := by decide +kernel
theorem dX8_leg_39 : decode cX8_leg 39 = .ok (.getfield 35, 3) := by decide +kernel
theorem dX8_leg_42 : decode cX8_leg 42 = .ok (.iload_n 3, 1) := by decide +kernel
theorem dX8_leg_43 : decode cX8_leg 43 = .ok (.iload_n 1, 1) := by decide +kernel
theorem dX8_leg_44 : decode cX8_leg 44 = .ok (.isub, 1) := by decide +kernel
theorem dX8_leg_45 : decode cX8_leg 45 = .ok (.iload 4, 2) := by decide +kernel
theorem dX8_leg_47 : decode cX8_leg 47 = .ok (.iload_n 2, 1) := by decide +kernel
theorem dX8_leg_48 : decode cX8_leg 48 = .ok (.isub, 1) := by decide +kernel
theorem dX8_leg_49 : decode cX8_leg 49 = .ok (.invokevirtual 150, 3) := by decide +kernel
theorem dX8_leg_52 : decode cX8_leg 52 = .ok (.ireturn, 1) := by decide +kernel
theorem dX8_round_0 : decode cX8_round 0 = .ok (.aload_n 0, 1) := by decide +kernel
theorem dX8_round_1 : decode cX8_round 1 = .ok (.iload_n 1, 1) := by decide +kernel
theorem dX8_round_2 : decode cX8_round 2 = .ok (.invokevirtual 114, 3) := by decide +kernel
theorem dX8_round_5 : decode cX8_round 5 = .ok (.ifCond .ne 5, 3) := by decide +kernel
theorem dX8_round_8 : decode cX8_round 8 = .ok (.iconst (-1), 1) := by decide +kernel
theorem dX8_round_9 : decode cX8_round 9 = .ok (.ireturn, 1) := by decide +kernel
theorem dX8_round_10 : decode cX8_round 10 = .ok (.aload_n 0, 1) := by decide +kernel
theorem dX8_round_11 : decode cX8_round 11 = .ok (.iload_n 1, 1) := by decide +kernel
theorem dX8_round_12 : decode cX8_round 12 = .ok (.invokevirtual 153, 3) := by decide +kernel
theorem dX8_round_15 : decode cX8_round 15 = .ok (.iload_n 1, 1) := by decide +kernel
theorem dX8_round_16 : decode cX8_round 16 = .ok (.invokevirtual 157, 3) := by decide +kernel
theorem dX8_round_19 : decode cX8_round 19 = .ok (.ireturn, 1) := by decide +kernel
theorem dX8_stop_0 : decode cX8_stop 0 = .ok (.aload_n 0, 1) := by decide +kernel
theorem dX8_stop_1 : decode cX8_stop 1 = .ok (.iload_n 1, 1) := by decide +kernel
theorem dX8_stop_2 : decode cX8_stop 2 = .ok (.invokevirtual 114, 3) := by decide +kernel
theorem dX8_stop_5 : decode cX8_stop 5 = .ok (.ifCond .ne 5, 3) := by decide +kernel
theorem dX8_stop_8 : decode cX8_stop 8 = .ok (.iconst (-1), 1) := by decide +kernel
theorem dX8_stop_9 : decode cX8_stop 9 = .ok (.ireturn, 1) := by decide +kernel
theorem dX8_stop_10 : decode cX8_stop 10 = .ok (.aload_n 0, 1) := by decide +kernel
theorem dX8_stop_11 : decode cX8_stop 11 = .ok (.iload_n 1, 1) := by decide +kernel
theorem dX8_stop_12 : decode cX8_stop 12 = .ok (.invokevirtual 153, 3) := by decide +kernel
theorem dX8_stop_15 : decode cX8_stop 15 = .ok (.iload_n 1, 1) := by decide +kernel
theorem dX8_stop_16 : decode cX8_stop 16 = .ok (.iload_n 2, 1) := by decide +kernel
theorem dX8_stop_17 : decode cX8_stop 17 = .ok (.invokevirtual 162, 3) := by decide +kernel
theorem dX8_stop_20 : decode cX8_stop 20 = .ok (.ireturn, 1) := by decide +kernel
theorem dX8_flights_0 : decode cX8_flights 0 = .ok (.aload_n 0, 1) := by decide +kernel
theorem dX8_flights_1 : decode cX8_flights 1 = .ok (.iload_n 1, 1) := by decide +kernel
theorem dX8_flights_2 : decode cX8_flights 2 = .ok (.invokevirtual 114, 3) := by decide +kernel
theorem dX8_flights_5 : decode cX8_flights 5 = .ok (.ifCond .ne 5, 3) := by decide +kernel
theorem dX8_flights_8 : decode cX8_flights 8 = .ok (.iconst (-1), 1) := by decide +kernel
theorem dX8_flights_9 : decode cX8_flights 9 = .ok (.ireturn, 1) := by decide +kernel
theorem dX8_flights_10 : decode cX8_flights 10 = .ok (.aload_n 0, 1) := by decide +kernel
theorem dX8_flights_11 : decode cX8_flights 11 = .ok (.iload_n 1, 1) := by decide +kernel
theorem dX8_flights_12 : decode cX8_flights 12 = .ok (.invokevirtual 153, 3) := by decide +kernel
theorem dX8_flights_15 : decode cX8_flights 15 = .ok (.iload_n 1, 1) := by decide +kernel
theorem dX8_flights_16 : decode cX8_flights 16 = .ok (.invokevirtual 165, 3) := by decide +kernel
theorem dX8_flights_19 : decode cX8_flights 19 = .ok (.ireturn, 1) := by decide +kernel
theorem dX8_energy_0 : decode cX8_energy 0 = .ok (.aload_n 0, 1) := by decide +kernel
theorem dX8_energy_1 : decode cX8_energy 1 = .ok (.iload_n 1, 1) := by decide +kernel
theorem dX8_energy_2 : decode cX8_energy 2 = .ok (.invokevirtual 114, 3) := by decide +kernel
theorem dX8_energy_5 : decode cX8_energy 5 = .ok (.ifCond .ne 5, 3) := by decide +kernel
theorem dX8_energy_8 : decode cX8_energy 8 = .ok (.iconst (-1), 1) := by decide +kernel
theorem dX8_energy_9 : decode cX8_energy 9 = .ok (.ireturn, 1) := by decide +kernel
theorem dX8_energy_10 : decode cX8_energy 10 = .ok (.aload_n 0, 1) := by decide +kernel
theorem dX8_energy_11 : decode cX8_energy 11 = .ok (.iload_n 1, 1) := by decide +kernel
theorem dX8_energy_12 : decode cX8_energy 12 = .ok (.invokevirtual 153, 3) := by decide +kernel
theorem dX8_energy_15 : decode cX8_energy 15 = .ok (.iload_n 1, 1) := by decide +kernel
theorem dX8_energy_16 : decode cX8_energy 16 = .ok (.invokevirtual 168, 3) := by decide +kernel
theorem dX8_energy_19 : decode cX8_energy 19 = .ok (.ireturn, 1) := by decide +kernel
theorem dX8_log_0 : decode cX8_log 0 = .ok (.iload_n 1, 1) := by decide +kernel
theorem dX8_log_1 : decode cX8_log 1 = .ok (.iload_n 2, 1) := by decide +kernel
theorem dX8_log_2 : decode cX8_log 2 = .ok (.invokestatic 60, 3) := by decide +kernel
theorem dX8_log_5 : decode cX8_log 5 = .ok (.ifCond .eq 12, 3) := by decide +kernel
theorem dX8_log_8 : decode cX8_log 8 = .ok (.iload_n 3, 1) := by decide +kernel
theorem dX8_log_9 : decode cX8_log 9 = .ok (.iconst 0, 1) := by decide +kernel
theorem dX8_log_10 : decode cX8_log 10 = .ok (.iconst 5, 1) := by decide +kernel
theorem dX8_log_11 : decode cX8_log 11 = .ok (.invokestatic 72, 3) := by decide +kernel
theorem dX8_log_14 : decode cX8_log 14 = .ok (.ifCond .ne 6, 3) := by decide +kernel
theorem dX8_log_17 : decode cX8_log 17 = .ok (.bipush (-2), 2) := by decide +kernel
theorem dX8_log_19 : decode cX8_log 19 = .ok (.ireturn, 1) := by decide +kernel
theorem dX8_log_20 : decode cX8_log 20 = .ok (.aload_n 0, 1) := by decide +kernel
theorem dX8_log_21 : decode cX8_log 21 = .ok (.getfield 49, 3) := by decide +kernel
theorem dX8_log_24 : decode cX8_log 24 = .ok (.getfield 171, 3) := by decide +kernel
theorem dX8_log_27 : decode cX8_log 27 = .ok (.getfield 82, 3) := by decide +kernel
theorem dX8_log_30 : decode cX8_log 30 = .ok (.bipush 20, 2) := by decide +kernel
theorem dX8_log_32 : decode cX8_log 32 = .ok (.if_icmp .lt 6, 3) := by decide +kernel
theorem dX8_log_35 : decode cX8_log 35 = .ok (.bipush (-4), 2) := by decide +kernel
theorem dX8_log_37 : decode cX8_log 37 = .ok (.ireturn, 1) := by decide +kernel
theorem dX8_log_38 : decode cX8_log 38 = .ok (.aload_n 0, 1) := by decide +kernel
theorem dX8_log_39 : decode cX8_log 39 = .ok (.getfield 49, 3) := by decide +kernel
theorem dX8_log_42 : decode cX8_log 42 = .ok (.iload_n 1, 1) := by decide +kernel
theorem dX8_log_43 : decode cX8_log 43 = .ok (.iload_n 2, 1) := by decide +kernel
theorem dX8_log_44 : decode cX8_log 44 = .ok (.iload_n 3, 1) := by decide +kernel
theorem dX8_log_45 : decode cX8_log 45 = .ok (.invokevirtual 174, 3) := by decide +kernel
theorem dX8_log_48 : decode cX8_log 48 = .ok (.ireturn, 1) := by decide +kernel
theorem dX8_proves_0 : decode cX8_proves 0 = .ok (.iload_n 1, 1) := by decide +kernel
theorem dX8_proves_1 : decode cX8_proves 1 = .ok (.ifCond .lt 25, 3) := by decide +kernel
theorem dX8_proves_4 : decode cX8_proves 4 = .ok (.iload_n 1, 1) := by decide +kernel
theorem dX8_proves_5 : decode cX8_proves 5 = .ok (.aload_n 0, 1) := by decide +kernel
theorem dX8_proves_6 : decode cX8_proves 6 = .ok (.getfield 49, 3) := by decide +kernel
theorem dX8_proves_9 : decode cX8_proves 9 = .ok (.getfield 171, 3) := by decide +kernel
theorem dX8_proves_12 : decode cX8_proves 12 = .ok (.getfield 82, 3) := by decide +kernel
theorem dX8_proves_15 : decode cX8_proves 15 = .ok (.if_icmp .ge 11, 3) := by decide +kernel
theorem dX8_proves_18 : decode cX8_proves 18 = .ok (.aload_n 0, 1) := by decide +kernel
theorem dX8_proves_19 : decode cX8_proves 19 = .ok (.iload_n 2, 1) := by decide +kernel
theorem dX8_proves_20 : decode cX8_proves 20 = .ok (.invokevirtual 86, 3) := by decide +kernel
theorem dX8_proves_23 : decode cX8_proves 23 = .ok (.ifCond .ne 5, 3) := by decide +kernel
theorem dX8_proves_26 : decode cX8_proves 26 = .ok (.iconst (-1), 1) := by decide +kernel
theorem dX8_proves_27 : decode cX8_proves 27 = .ok (.ireturn, 1) := by decide +kernel
theorem dX8_proves_28 : decode cX8_proves 28 = .ok (.aload_n 0, 1) := by decide +kernel
theorem dX8_proves_29 : decode cX8_proves 29 = .ok (.getfield 49, 3) := by decide +kernel
theorem dX8_proves_32 : decode cX8_proves 32 = .ok (.iload_n 1, 1) := by decide +kernel
theorem dX8_proves_33 : decode cX8_proves 33 = .ok (.aload_n 0, 1) := by decide +kernel
theorem dX8_proves_34 : decode cX8_proves 34 = .ok (.getfield 10, 3) := by decide +kernel
theorem dX8_proves_37 : decode cX8_proves 37 = .ok (.iload_n 2, 1) := by decide +kernel
theorem dX8_proves_38 : decode cX8_proves 38 = .ok (.invokevirtual 177, 3) := by decide +kernel
theorem dX8_proves_41 : decode cX8_proves 41 = .ok (.invokestatic 93, 3) := by decide +kernel
theorem dX8_proves_44 : decode cX8_proves 44 = .ok (.ireturn, 1) := by decide +kernel
theorem dX8_proved_0 : decode cX8_proved 0 = .ok (.aload_n 0, 1) := by decide +kernel
theorem dX8_proved_1 : decode cX8_proved 1 = .ok (.iload_n 1, 1) := by decide +kernel
theorem dX8_proved_2 : decode cX8_proved 2 = .ok (.invokevirtual 86, 3) := by decide +kernel
theorem dX8_proved_5 : decode cX8_proved 5 = .ok (.ifCond .ne 5, 3) := by decide +kernel
theorem dX8_proved_8 : decode cX8_proved 8 = .ok (.iconst (-1), 1) := by decide +kernel
theorem dX8_proved_9 : decode cX8_proved 9 = .ok (.ireturn, 1) := by decide +kernel
theorem dX8_proved_10 : decode cX8_proved 10 = .ok (.aload_n 0, 1) := by decide +kernel
theorem dX8_proved_11 : decode cX8_proved 11 = .ok (.getfield 49, 3) := by decide +kernel
theorem dX8_proved_14 : decode cX8_proved 14 = .ok (.aload_n 0, 1) := by decide +kernel
theorem dX8_proved_15 : decode cX8_proved 15 = .ok (.getfield 10, 3) := by decide +kernel
theorem dX8_proved_18 : decode cX8_proved 18 = .ok (.iload_n 1, 1) := by decide +kernel
theorem dX8_proved_19 : decode cX8_proved 19 = .ok (.bipush 20, 2) := by decide +kernel
theorem dX8_proved_21 : decode cX8_proved 21 = .ok (.invokevirtual 181, 3) := by decide +kernel
theorem dX8_proved_24 : decode cX8_proved 24 = .ok (.ireturn, 1) := by decide +kernel
theorem dX8_missing_0 : decode cX8_missing 0 = .ok (.iload_n 2, 1) := by decide +kernel
theorem dX8_missing_1 : decode cX8_missing 1 = .ok (.iconst 1, 1) := by decide +kernel
theorem dX8_missing_2 : decode cX8_missing 2 = .ok (.iconst 3, 1) := by decide +kernel
theorem dX8_missing_3 : decode cX8_missing 3 = .ok (.invokestatic 72, 3) := by decide +kernel
theorem dX8_missing_6 : decode cX8_missing 6 = .ok (.ifCond .ne 6, 3) := by decide +kernel
theorem dX8_missing_9 : decode cX8_missing 9 = .ok (.bipush (-2), 2) := by decide +kernel
theorem dX8_missing_11 : decode cX8_missing 11 = .ok (.ireturn, 1) := by decide +kernel
theorem dX8_missing_12 : decode cX8_missing 12 = .ok (.iconst 0, 1) := by decide +kernel
theorem dX8_missing_13 : decode cX8_missing 13 = .ok (.istore_n 3, 1) := by decide +kernel
theorem dX8_missing_14 : decode cX8_missing 14 = .ok (.iconst 0, 1) := by decide +kernel
theorem dX8_missing_15 : decode cX8_missing 15 = .ok (.istore 4, 2) := by decide +kernel
theorem dX8_missing_17 : decode cX8_missing 17 = .ok (.iload 4, 2) := by decide +kernel
theorem dX8_missing_19 : decode cX8_missing 19 = .ok (.aload_n 0, 1) := by decide +kernel
theorem dX8_missing_20 : decode cX8_missing 20 = .ok (.getfield 10, 3) := by decide +kernel
theorem dX8_missing_23 : decode cX8_missing 23 = .ok (.getfield 64, 3) := by decide +kernel
theorem dX8_missing_26 : decode cX8_missing 26 = .ok (.if_icmp .ge 38, 3) := by decide +kernel
theorem dX8_missing_29 : decode cX8_missing 29 = .ok (.aload_n 0, 1) := by decide +kernel
theorem dX8_missing_30 : decode cX8_missing 30 = .ok (.getfield 49, 3) := by decide +kernel
theorem dX8_missing_33 : decode cX8_missing 33 = .ok (.aload_n 0, 1) := by decide +kernel
theorem dX8_missing_34 : decode cX8_missing 34 = .ok (.getfield 10, 3) := by decide +kernel
theorem dX8_missing_37 : decode cX8_missing 37 = .ok (.iload 4, 2) := by decide +kernel
theorem dX8_missing_39 : decode cX8_missing 39 = .ok (.iload_n 2, 1) := by decide +kernel
theorem dX8_missing_40 : decode cX8_missing 40 = .ok (.invokevirtual 181, 3) := by decide +kernel
theorem dX8_missing_43 : decode cX8_missing 43 = .ok (.iload_n 2, 1) := by decide +kernel
theorem dX8_missing_44 : decode cX8_missing 44 = .ok (.if_icmp .ge 14, 3) := by decide +kernel
theorem dX8_missing_47 : decode cX8_missing 47 = .ok (.iload_n 3, 1) := by decide +kernel
theorem dX8_missing_48 : decode cX8_missing 48 = .ok (.iload_n 1, 1) := by decide +kernel
theorem dX8_missing_49 : decode cX8_missing 49 = .ok (.if_icmp .ne 6, 3) := by decide +kernel
theorem dX8_missing_52 : decode cX8_missing 52 = .ok (.iload 4, 2) := by decide +kernel
theorem dX8_missing_54 : decode cX8_missing 54 = .ok (.ireturn, 1) := by decide +kernel
theorem dX8_missing_55 : decode cX8_missing 55 = .ok (.iinc 3 1, 3) := by decide +kernel
theorem dX8_missing_58 : decode cX8_missing 58 = .ok (.iinc 4 1, 3) := by decide +kernel
theorem dX8_missing_61 : decode cX8_missing 61 = .ok (.goto (-44), 3) := by decide +kernel
theorem dX8_missing_64 : decode cX8_missing 64 = .ok (.bipush (-9), 2) := by decide +kernel
theorem dX8_missing_66 : decode cX8_missing 66 = .ok (.ireturn, 1) := by decide +kernel
theorem dX8_mark_0 : decode cX8_mark 0 = .ok (.aload_n 0, 1) := by decide +kernel
theorem dX8_mark_1 : decode cX8_mark 1 = .ok (.iload_n 1, 1) := by decide +kernel
theorem dX8_mark_2 : decode cX8_mark 2 = .ok (.invokevirtual 86, 3) := by decide +kernel
theorem dX8_mark_5 : decode cX8_mark 5 = .ok (.ifCond .ne 5, 3) := by decide +kernel
theorem dX8_mark_8 : decode cX8_mark 8 = .ok (.iconst (-1), 1) := by decide +kernel
theorem dX8_mark_9 : decode cX8_mark 9 = .ok (.ireturn, 1) := by decide +kernel
theorem dX8_mark_10 : decode cX8_mark 10 = .ok (.iload_n 2, 1) := by decide +kernel
theorem dX8_mark_11 : decode cX8_mark 11 = .ok (.iconst 0, 1) := by decide +kernel
theorem dX8_mark_12 : decode cX8_mark 12 = .ok (.sipush 1000, 3) := by decide +kernel
theorem dX8_mark_15 : decode cX8_mark 15 = .ok (.invokestatic 72, 3) := by decide +kernel
theorem dX8_mark_18 : decode cX8_mark 18 = .ok (.ifCond .eq 22, 3) := by decide +kernel
theorem dX8_mark_21 : decode cX8_mark 21 = .ok (.iload_n 3, 1) := by decide +kernel
theorem dX8_mark_22 : decode cX8_mark 22 = .ok (.iconst 0, 1) := by decide +kernel
theorem dX8_mark_23 : decode cX8_mark 23 = .ok (.sipush 500, 3) := by decide +kernel
theorem dX8_mark_26 : decode cX8_mark 26 = .ok (.invokestatic 72, 3) := by decide +kernel
theorem dX8_mark_29 : decode cX8_mark 29 = .ok (.ifCond .eq 11, 3) := by decide +kernel
theorem dX8_mark_32 : decode cX8_mark 32 = .ok (.iload 4, 2) := by decide +kernel
theorem dX8_mark_34 : decode cX8_mark 34 = .ok (.invokestatic 185, 3) := by decide +kernel
theorem dX8_mark_37 : decode cX8_mark 37 = .ok (.ifCond .ne 6, 3) := by decide +kernel
theorem dX8_mark_40 : decode cX8_mark 40 = .ok (.bipush (-2), 2) := by decide +kernel
theorem dX8_mark_42 : decode cX8_mark 42 = .ok (.ireturn, 1) := by decide +kernel
theorem dX8_mark_43 : decode cX8_mark 43 = .ok (.aload_n 0, 1) := by decide +kernel
theorem dX8_mark_44 : decode cX8_mark 44 = .ok (.getfield 56, 3) := by decide +kernel
theorem dX8_mark_47 : decode cX8_mark 47 = .ok (.getfield 188, 3) := by decide +kernel
theorem dX8_mark_50 : decode cX8_mark 50 = .ok (.bipush 40, 2) := by decide +kernel
theorem dX8_mark_52 : decode cX8_mark 52 = .ok (.if_icmp .lt 6, 3) := by decide +kernel
theorem dX8_mark_55 : decode cX8_mark 55 = .ok (.bipush (-4), 2) := by decide +kernel
theorem dX8_mark_57 : decode cX8_mark 57 = .ok (.ireturn, 1) := by decide +kernel
theorem dX8_mark_58 : decode cX8_mark 58 = .ok (.aload_n 0, 1) := by decide +kernel
theorem dX8_mark_59 : decode cX8_mark 59 = .ok (.getfield 56, 3) := by decide +kernel
theorem dX8_mark_62 : decode cX8_mark 62 = .ok (.iload_n 1, 1) := by decide +kernel
theorem dX8_mark_63 : decode cX8_mark 63 = .ok (.iload_n 2, 1) := by decide +kernel
theorem dX8_mark_64 : decode cX8_mark 64 = .ok (.iload_n 3, 1) := by decide +kernel
theorem dX8_mark_65 : decode cX8_mark 65 = .ok (.iload 4, 2) := by decide +kernel
theorem dX8_mark_67 : decode cX8_mark 67 = .ok (.invokevirtual 189, 3) := by decide +kernel
theorem dX8_mark_70 : decode cX8_mark 70 = .ok (.ireturn, 1) := by decide +kernel
theorem dX8_wipe_0 : decode cX8_wipe 0 = .ok (.iload_n 1, 1) := by decide +kernel
theorem dX8_wipe_1 : decode cX8_wipe 1 = .ok (.ifCond .lt 14, 3) := by decide +kernel
theorem dX8_wipe_4 : decode cX8_wipe 4 = .ok (.iload_n 1, 1) := by decide +kernel
theorem dX8_wipe_5 : decode cX8_wipe 5 = .ok (.aload_n 0, 1) := by decide +kernel
theorem dX8_wipe_6 : decode cX8_wipe 6 = .ok (.getfield 56, 3) := by decide +kernel
theorem dX8_wipe_9 : decode cX8_wipe 9 = .ok (.getfield 188, 3) := by decide +kernel
theorem dX8_wipe_12 : decode cX8_wipe 12 = .ok (.if_icmp .lt 5, 3) := by decide +kernel
theorem dX8_wipe_15 : decode cX8_wipe 15 = .ok (.iconst (-1), 1) := by decide +kernel
theorem dX8_wipe_16 : decode cX8_wipe 16 = .ok (.ireturn, 1) := by decide +kernel
theorem dX8_wipe_17 : decode cX8_wipe 17 = .ok (.aload_n 0, 1) := by decide +kernel
theorem dX8_wipe_18 : decode cX8_wipe 18 = .ok (.getfield 56, 3) := by decide +kernel
theorem dX8_wipe_21 : decode cX8_wipe 21 = .ok (.getfield 190, 3) := by decide +kernel
theorem dX8_wipe_24 : decode cX8_wipe 24 = .ok (.iload_n 1, 1) := by decide +kernel
theorem dX8_wipe_25 : decode cX8_wipe 25 = .ok (.baload, 1) := by decide +kernel
theorem dX8_wipe_26 : decode cX8_wipe 26 = .ok (.ifCond .eq 6, 3) := by decide +kernel
theorem dX8_wipe_29 : decode cX8_wipe 29 = .ok (.bipush (-3), 2) := by decide +kernel
theorem dX8_wipe_31 : decode cX8_wipe 31 = .ok (.ireturn, 1) := by decide +kernel
theorem dX8_wipe_32 : decode cX8_wipe 32 = .ok (.aload_n 0, 1) := by decide +kernel
theorem dX8_wipe_33 : decode cX8_wipe 33 = .ok (.getfield 56, 3) := by decide +kernel
theorem dX8_wipe_36 : decode cX8_wipe 36 = .ok (.getfield 190, 3) := by decide +kernel
theorem dX8_wipe_39 : decode cX8_wipe 39 = .ok (.iload_n 1, 1) := by decide +kernel
theorem dX8_wipe_40 : decode cX8_wipe 40 = .ok (.iconst 1, 1) := by decide +kernel
theorem dX8_wipe_41 : decode cX8_wipe 41 = .ok (.bastore, 1) := by decide +kernel
theorem dX8_wipe_42 : decode cX8_wipe 42 = .ok (.iconst 1, 1) := by decide +kernel
theorem dX8_wipe_43 : decode cX8_wipe 43 = .ok (.ireturn, 1) := by decide +kernel
theorem dX8_marks_0 : decode cX8_marks 0 = .ok (.aload_n 0, 1) := by decide +kernel
theorem dX8_marks_1 : decode cX8_marks 1 = .ok (.iload_n 1, 1) := by decide +kernel
theorem dX8_marks_2 : decode cX8_marks 2 = .ok (.invokevirtual 86, 3) := by decide +kernel
theorem dX8_marks_5 : decode cX8_marks 5 = .ok (.ifCond .ne 5, 3) := by decide +kernel
theorem dX8_marks_8 : decode cX8_marks 8 = .ok (.iconst (-1), 1) := by decide +kernel
theorem dX8_marks_9 : decode cX8_marks 9 = .ok (.ireturn, 1) := by decide +kernel
theorem dX8_marks_10 : decode cX8_marks 10 = .ok (.iload_n 2, 1) := by decide +kernel
theorem dX8_marks_11 : decode cX8_marks 11 = .ok (.invokestatic 185, 3) := by decide +kernel
theorem dX8_marks_14 : decode cX8_marks 14 = .ok (.ifCond .ne 6, 3) := by decide +kernel
theorem dX8_marks_17 : decode cX8_marks 17 = .ok (.bipush (-2), 2) := by decide +kernel
theorem dX8_marks_19 : decode cX8_marks 19 = .ok (.ireturn, 1) := by decide +kernel
theorem dX8_marks_20 : decode cX8_marks 20 = .ok (.aload_n 0, 1) := by decide +kernel
theorem dX8_marks_21 : decode cX8_marks 21 = .ok (.getfield 56, 3) := by decide +kernel
theorem dX8_marks_24 : decode cX8_marks 24 = .ok (.iload_n 1, 1) := by decide +kernel
theorem dX8_marks_25 : decode cX8_marks 25 = .ok (.iload_n 2, 1) := by decide +kernel
theorem dX8_marks_26 : decode cX8_marks 26 = .ok (.iload_n 3, 1) := by decide +kernel
theorem dX8_marks_27 : decode cX8_marks 27 = .ok (.invokevirtual 194, 3) := by decide +kernel
theorem dX8_marks_30 : decode cX8_marks 30 = .ok (.ireturn, 1) := by decide +kernel
theorem dX8_match_0 : decode cX8_match 0 = .ok (.aload_n 0, 1) := by decide +kernel
theorem dX8_match_1 : decode cX8_match 1 = .ok (.iload_n 1, 1) := by decide +kernel
theorem dX8_match_2 : decode cX8_match 2 = .ok (.invokevirtual 86, 3) := by decide +kernel
theorem dX8_match_5 : decode cX8_match 5 = .ok (.ifCond .ne 5, 3) := by decide +kernel
theorem dX8_match_8 : decode cX8_match 8 = .ok (.iconst (-1), 1) := by decide +kernel
theorem dX8_match_9 : decode cX8_match 9 = .ok (.ireturn, 1) := by decide +kernel
theorem dX8_match_10 : decode cX8_match 10 = .ok (.iload_n 2, 1) := by decide +kernel
theorem dX8_match_11 : decode cX8_match 11 = .ok (.invokestatic 185, 3) := by decide +kernel
theorem dX8_match_14 : decode cX8_match 14 = .ok (.ifCond .eq 22, 3) := by decide +kernel
theorem dX8_match_17 : decode cX8_match 17 = .ok (.iload_n 3, 1) := by decide +kernel
theorem dX8_match_18 : decode cX8_match 18 = .ok (.invokestatic 185, 3) := by decide +kernel
theorem dX8_match_21 : decode cX8_match 21 = .ok (.ifCond .eq 15, 3) := by decide +kernel
theorem dX8_match_24 : decode cX8_match 24 = .ok (.iload 4, 2) := by decide +kernel
theorem dX8_match_26 : decode cX8_match 26 = .ok (.iconst 0, 1) := by decide +kernel
theorem dX8_match_27 : decode cX8_match 27 = .ok (.sipush 1000, 3) := by decide +kernel
theorem dX8_match_30 : decode cX8_match 30 = .ok (.invokestatic 72, 3) := by decide +kernel
theorem dX8_match_33 : decode cX8_match 33 = .ok (.ifCond .ne 6, 3) := by decide +kernel
theorem dX8_match_36 : decode cX8_match 36 = .ok (.bipush (-2), 2) := by decide +kernel
theorem dX8_match_38 : decode cX8_match 38 = .ok (.ireturn, 1) := by decide +kernel
theorem dX8_match_39 : decode cX8_match 39 = .ok (.iload_n 2, 1) := by decide +kernel
theorem dX8_match_40 : decode cX8_match 40 = .ok (.iload_n 3, 1) := by decide +kernel
theorem dX8_match_41 : decode cX8_match 41 = .ok (.if_icmp .ne 6, 3) := by decide +kernel
theorem dX8_match_44 : decode cX8_match 44 = .ok (.bipush (-3), 2) := by decide +kernel
theorem dX8_match_46 : decode cX8_match 46 = .ok (.ireturn, 1) := by decide +kernel
theorem dX8_match_47 : decode cX8_match 47 = .ok (.aload_n 0, 1) := by decide +kernel
theorem dX8_match_48 : decode cX8_match 48 = .ok (.getfield 56, 3) := by decide +kernel
theorem dX8_match_51 : decode cX8_match 51 = .ok (.iload_n 1, 1) := by decide +kernel
theorem dX8_match_52 : decode cX8_match 52 = .ok (.iload_n 2, 1) := by decide +kernel
theorem dX8_match_53 : decode cX8_match 53 = .ok (.iload_n 3, 1) := by decide +kernel
theorem dX8_match_54 : decode cX8_match 54 = .ok (.iload 4, 2) := by decide +kernel
theorem dX8_match_56 : decode cX8_match 56 = .ok (.invokevirtual 198, 3) := by decide +kernel
theorem dX8_match_59 : decode cX8_match 59 = .ok (.iload 5, 2) := by decide +kernel
theorem dX8_match_61 : decode cX8_match 61 = .ok (.ifCond .eq 13, 3) := by decide +kernel
theorem dX8_match_64 : decode cX8_match 64 = .ok (.aload_n 0, 1) := by decide +kernel
theorem dX8_match_65 : decode cX8_match 65 = .ok (.getfield 56, 3) := by decide +kernel
theorem dX8_match_68 : decode cX8_match 68 = .ok (.getfield 201, 3) := by decide +kernel
theorem dX8_match_71 : decode cX8_match 71 = .ok (.goto 10, 3) := by decide +kernel
theorem dX8_match_74 : decode cX8_match 74 = .ok (.aload_n 0, 1) := by decide +kernel
theorem dX8_match_75 : decode cX8_match 75 = .ok (.getfield 56, 3) := by decide +kernel
theorem dX8_match_78 : decode cX8_match 78 = .ok (.getfield 204, 3) := by decide +kernel
theorem dX8_match_81 : decode cX8_match 81 = .ok (.ireturn, 1) := by decide +kernel
theorem dX8_count_0 : decode cX8_count 0 = .ok (.iload_n 1, 1) := by decide +kernel
theorem dX8_count_1 : decode cX8_count 1 = .ok (.tableswitch 78 0 4 #[35, 43, 51, 59, 70], 35) := by decide +kernel
theorem dX8_count_36 : decode cX8_count 36 = .ok (.aload_n 0, 1) := by decide +kernel
theorem dX8_count_37 : decode cX8_count 37 = .ok (.getfield 10, 3) := by decide +kernel
theorem dX8_count_40 : decode cX8_count 40 = .ok (.getfield 64, 3) := by decide +kernel
theorem dX8_count_43 : decode cX8_count 43 = .ok (.ireturn, 1) := by decide +kernel
theorem dX8_count_44 : decode cX8_count 44 = .ok (.aload_n 0, 1) := by decide +kernel
theorem dX8_count_45 : decode cX8_count 45 = .ok (.getfield 21, 3) := by decide +kernel
theorem dX8_count_48 : decode cX8_count 48 = .ok (.getfield 82, 3) := by decide +kernel
theorem dX8_count_51 : decode cX8_count 51 = .ok (.ireturn, 1) := by decide +kernel
theorem dX8_count_52 : decode cX8_count 52 = .ok (.aload_n 0, 1) := by decide +kernel
theorem dX8_count_53 : decode cX8_count 53 = .ok (.getfield 35, 3) := by decide +kernel
theorem dX8_count_56 : decode cX8_count 56 = .ok (.getfield 121, 3) := by decide +kernel
theorem dX8_count_59 : decode cX8_count 59 = .ok (.ireturn, 1) := by decide +kernel
theorem dX8_count_60 : decode cX8_count 60 = .ok (.aload_n 0, 1) := by decide +kernel
theorem dX8_count_61 : decode cX8_count 61 = .ok (.getfield 49, 3) := by decide +kernel
theorem dX8_count_64 : decode cX8_count 64 = .ok (.getfield 171, 3) := by decide +kernel
theorem dX8_count_67 : decode cX8_count 67 = .ok (.getfield 82, 3) := by decide +kernel
theorem dX8_count_70 : decode cX8_count 70 = .ok (.ireturn, 1) := by decide +kernel
theorem dX8_count_71 : decode cX8_count 71 = .ok (.aload_n 0, 1) := by decide +kernel
theorem dX8_count_72 : decode cX8_count 72 = .ok (.getfield 56, 3) := by decide +kernel
theorem dX8_count_75 : decode cX8_count 75 = .ok (.invokevirtual 207, 3) := by decide +kernel
theorem dX8_count_78 : decode cX8_count 78 = .ok (.ireturn, 1) := by decide +kernel
theorem dX8_count_79 : decode cX8_count 79 = .ok (.bipush (-2), 2) := by decide +kernel
theorem dX8_count_81 : decode cX8_count 81 = .ok (.ireturn, 1) := by decide +kernel
theorem dX8_isWithin_0 : decode cX8_isWithin 0 = .ok (.iload_n 0, 1) := by decide +kernel
theorem dX8_isWithin_1 : decode cX8_isWithin 1 = .ok (.iload_n 1, 1) := by decide +kernel
theorem dX8_isWithin_2 : decode cX8_isWithin 2 = .ok (.if_icmp .lt 12, 3) := by decide +kernel
theorem dX8_isWithin_5 : decode cX8_isWithin 5 = .ok (.iload_n 0, 1) := by decide +kernel
theorem dX8_isWithin_6 : decode cX8_isWithin 6 = .ok (.iload_n 2, 1) := by decide +kernel
theorem dX8_isWithin_7 : decode cX8_isWithin 7 = .ok (.if_icmp .gt 7, 3) := by decide +kernel
theorem dX8_isWithin_10 : decode cX8_isWithin 10 = .ok (.iconst 1, 1) := by decide +kernel
theorem dX8_isWithin_11 : decode cX8_isWithin 11 = .ok (.goto 4, 3) := by decide +kernel
theorem dX8_isWithin_14 : decode cX8_isWithin 14 = .ok (.iconst 0, 1) := by decide +kernel
theorem dX8_isWithin_15 : decode cX8_isWithin 15 = .ok (.ireturn, 1) := by decide +kernel
theorem dX8_isPoint_0 : decode cX8_isPoint 0 = .ok (.iload_n 0, 1) := by decide +kernel
theorem dX8_isPoint_1 : decode cX8_isPoint 1 = .ok (.iconst 0, 1) := by decide +kernel
theorem dX8_isPoint_2 : decode cX8_isPoint 2 = .ok (.bipush 60, 2) := by decide +kernel
theorem dX8_isPoint_4 : decode cX8_isPoint 4 = .ok (.invokestatic 72, 3) := by decide +kernel
theorem dX8_isPoint_7 : decode cX8_isPoint 7 = .ok (.ifCond .eq 17, 3) := by decide +kernel
theorem dX8_isPoint_10 : decode cX8_isPoint 10 = .ok (.iload_n 1, 1) := by decide +kernel
theorem dX8_isPoint_11 : decode cX8_isPoint 11 = .ok (.iconst 0, 1) := by decide +kernel
theorem dX8_isPoint_12 : decode cX8_isPoint 12 = .ok (.bipush 60, 2) := by decide +kernel
theorem dX8_isPoint_14 : decode cX8_isPoint 14 = .ok (.invokestatic 72, 3) := by decide +kernel
theorem dX8_isPoint_17 : decode cX8_isPoint 17 = .ok (.ifCond .eq 7, 3) := by decide +kernel
theorem dX8_isPoint_20 : decode cX8_isPoint 20 = .ok (.iconst 1, 1) := by decide +kernel
theorem dX8_isPoint_21 : decode cX8_isPoint 21 = .ok (.goto 4, 3) := by decide +kernel
theorem dX8_isPoint_24 : decode cX8_isPoint 24 = .ok (.iconst 0, 1) := by decide +kernel
theorem dX8_isPoint_25 : decode cX8_isPoint 25 = .ok (.ireturn, 1) := by decide +kernel
theorem dX8_isYear_0 : decode cX8_isYear 0 = .ok (.iload_n 0, 1) := by decide +kernel
theorem dX8_isYear_1 : decode cX8_isYear 1 = .ok (.iconst 0, 1) := by decide +kernel
theorem dX8_isYear_2 : decode cX8_isYear 2 = .ok (.bipush 9, 2) := by decide +kernel
theorem dX8_isYear_4 : decode cX8_isYear 4 = .ok (.invokestatic 72, 3) := by decide +kernel
theorem dX8_isYear_7 : decode cX8_isYear 7 = .ok (.ireturn, 1) := by decide +kernel
theorem dX8_asNumber_0 : decode cX8_asNumber 0 = .ok (.iload_n 0, 1) := by decide +kernel
theorem dX8_asNumber_1 : decode cX8_asNumber 1 = .ok (.ifCond .eq 7, 3) := by decide +kernel
theorem dX8_asNumber_4 : decode cX8_asNumber 4 = .ok (.iconst 1, 1) := by decide +kernel
theorem dX8_asNumber_5 : decode cX8_asNumber 5 = .ok (.goto 4, 3) := by decide +kernel
theorem dX8_asNumber_8 : decode cX8_asNumber 8 = .ok (.iconst 0, 1) := by decide +kernel
theorem dX8_asNumber_9 : decode cX8_asNumber 9 = .ok (.ireturn, 1) := by decide +kernel
theorem dX8_has_0 : decode cX8_has 0 = .ok (.iload_n 0, 1) := by decide +kernel
theorem dX8_has_1 : decode cX8_has 1 = .ok (.iload_n 1, 1) := by decide +kernel
theorem dX8_has_2 : decode cX8_has 2 = .ok (.ishr, 1) := by decide +kernel
theorem dX8_has_3 : decode cX8_has 3 = .ok (.iconst 1, 1) := by decide +kernel
theorem dX8_has_4 : decode cX8_has 4 = .ok (.iand, 1) := by decide +kernel
theorem dX8_has_5 : decode cX8_has 5 = .ok (.ifCond .eq 7, 3) := by decide +kernel
theorem dX8_has_8 : decode cX8_has 8 = .ok (.iconst 1, 1) := by decide +kernel
theorem dX8_has_9 : decode cX8_has 9 = .ok (.goto 4, 3) := by decide +kernel
theorem dX8_has_12 : decode cX8_has 12 = .ok (.iconst 0, 1) := by decide +kernel
theorem dX8_has_13 : decode cX8_has 13 = .ok (.ireturn, 1) := by decide +kernel
theorem dX8_turn_0 : decode cX8_turn 0 = .ok (.iload_n 2, 1) := by decide +kernel
theorem dX8_turn_1 : decode cX8_turn 1 = .ok (.iload_n 0, 1) := by decide +kernel
theorem dX8_turn_2 : decode cX8_turn 2 = .ok (.isub, 1) := by decide +kernel
theorem dX8_turn_3 : decode cX8_turn 3 = .ok (.iload 5, 2) := by decide +kernel
theorem dX8_turn_5 : decode cX8_turn 5 = .ok (.iload_n 1, 1) := by decide +kernel
theorem dX8_turn_6 : decode cX8_turn 6 = .ok (.isub, 1) := by decide +kernel
theorem dX8_turn_7 : decode cX8_turn 7 = .ok (.imul, 1) := by decide +kernel
theorem dX8_turn_8 : decode cX8_turn 8 = .ok (.iload_n 3, 1) := by decide +kernel
theorem dX8_turn_9 : decode cX8_turn 9 = .ok (.iload_n 1, 1) := by decide +kernel
theorem dX8_turn_10 : decode cX8_turn 10 = .ok (.isub, 1) := by decide +kernel
theorem dX8_turn_11 : decode cX8_turn 11 = .ok (.iload 4, 2) := by decide +kernel
theorem dX8_turn_13 : decode cX8_turn 13 = .ok (.iload_n 0, 1) := by decide +kernel
theorem dX8_turn_14 : decode cX8_turn 14 = .ok (.isub, 1) := by decide +kernel
theorem dX8_turn_15 : decode cX8_turn 15 = .ok (.imul, 1) := by decide +kernel
theorem dX8_turn_16 : decode cX8_turn 16 = .ok (.isub, 1) := by decide +kernel
theorem dX8_turn_17 : decode cX8_turn 17 = .ok (.ireturn, 1) := by decide +kernel
theorem dX8_isPanel_0 : decode cX8_isPanel 0 = .ok (.iload_n 1, 1) := by decide +kernel
theorem dX8_isPanel_1 : decode cX8_isPanel 1 = .ok (.ifCond .lt 18, 3) := by decide +kernel
theorem dX8_isPanel_4 : decode cX8_isPanel 4 = .ok (.iload_n 1, 1) := by decide +kernel
theorem dX8_isPanel_5 : decode cX8_isPanel 5 = .ok (.aload_n 0, 1) := by decide +kernel
theorem dX8_isPanel_6 : decode cX8_isPanel 6 = .ok (.getfield 10, 3) := by decide +kernel
theorem dX8_isPanel_9 : decode cX8_isPanel 9 = .ok (.getfield 64, 3) := by decide +kernel
theorem dX8_isPanel_12 : decode cX8_isPanel 12 = .ok (.if_icmp .ge 7, 3) := by decide +kernel
theorem dX8_isPanel_15 : decode cX8_isPanel 15 = .ok (.iconst 1, 1) := by decide +kernel
theorem dX8_isPanel_16 : decode cX8_isPanel 16 = .ok (.goto 4, 3) := by decide +kernel
theorem dX8_isPanel_19 : decode cX8_isPanel 19 = .ok (.iconst 0, 1) := by decide +kernel
theorem dX8_isPanel_20 : decode cX8_isPanel 20 = .ok (.ireturn, 1) := by decide +kernel
theorem dX8_isViewSet_0 : decode cX8_isViewSet 0 = .ok (.iload_n 1, 1) := by decide +kernel
theorem dX8_isViewSet_1 : decode cX8_isViewSet 1 = .ok (.iconst 1, 1) := by decide +kernel
theorem dX8_isViewSet_2 : decode cX8_isViewSet 2 = .ok (.aload_n 0, 1) := by decide +kernel
theorem dX8_isViewSet_3 : decode cX8_isViewSet 3 = .ok (.getfield 21, 3) := by decide +kernel
theorem dX8_isViewSet_6 : decode cX8_isViewSet 6 = .ok (.getfield 82, 3) := by decide +kernel
theorem dX8_isViewSet_9 : decode cX8_isViewSet 9 = .ok (.ishl, 1) := by decide +kernel
theorem dX8_isViewSet_10 : decode cX8_isViewSet 10 = .ok (.ineg, 1) := by decide +kernel
theorem dX8_isViewSet_11 : decode cX8_isViewSet 11 = .ok (.iand, 1) := by decide +kernel
theorem dX8_isViewSet_12 : decode cX8_isViewSet 12 = .ok (.ifCond .ne 7, 3) := by decide +kernel
theorem dX8_isViewSet_15 : decode cX8_isViewSet 15 = .ok (.iconst 1, 1) := by decide +kernel
theorem dX8_isViewSet_16 : decode cX8_isViewSet 16 = .ok (.goto 4, 3) := by decide +kernel
theorem dX8_isViewSet_19 : decode cX8_isViewSet 19 = .ok (.iconst 0, 1) := by decide +kernel
theorem dX8_isViewSet_20 : decode cX8_isViewSet 20 = .ok (.ireturn, 1) := by decide +kernel
theorem dX8_routesFor_0 : decode cX8_routesFor 0 = .ok (.aload_n 0, 1) := by decide +kernel
theorem dX8_routesFor_1 : decode cX8_routesFor 1 = .ok (.getfield 211, 3) := by decide +kernel
theorem dX8_routesFor_4 : decode cX8_routesFor 4 = .ok (.ifnonnull 26, 3) := by decide +kernel
theorem dX8_routesFor_7 : decode cX8_routesFor 7 = .ok (.aload_n 0, 1) := by decide +kernel
theorem dX8_routesFor_8 : decode cX8_routesFor 8 = .ok (.new 158, 3) := by decide +kernel
theorem dX8_routesFor_11 : decode cX8_routesFor 11 = .ok (.dup, 1) := by decide +kernel
theorem dX8_routesFor_12 : decode cX8_routesFor 12 = .ok (.aload_n 0, 1) := by decide +kernel
theorem dX8_routesFor_13 : decode cX8_routesFor 13 = .ok (.getfield 21, 3) := by decide +kernel
theorem dX8_routesFor_16 : decode cX8_routesFor 16 = .ok (.aload_n 0, 1) := by decide +kernel
theorem dX8_routesFor_17 : decode cX8_routesFor 17 = .ok (.getfield 35, 3) := by decide +kernel
theorem dX8_routesFor_20 : decode cX8_routesFor 20 = .ok (.aload_n 0, 1) := by decide +kernel
theorem dX8_routesFor_21 : decode cX8_routesFor 21 = .ok (.getfield 42, 3) := by decide +kernel
theorem dX8_routesFor_24 : decode cX8_routesFor 24 = .ok (.invokespecial 215, 3) := by decide +kernel
theorem dX8_routesFor_27 : decode cX8_routesFor 27 = .ok (.putfield 211, 3) := by decide +kernel
theorem dX8_routesFor_30 : decode cX8_routesFor 30 = .ok (.aload_n 0, 1) := by decide +kernel
theorem dX8_routesFor_31 : decode cX8_routesFor 31 = .ok (.getfield 211, 3) := by decide +kernel
theorem dX8_routesFor_34 : decode cX8_routesFor 34 = .ok (.iload_n 1, 1) := by decide +kernel
theorem dX8_routesFor_35 : decode cX8_routesFor 35 = .ok (.invokevirtual 218, 3) := by decide +kernel
theorem dX8_routesFor_38 : decode cX8_routesFor 38 = .ok (.aload_n 0, 1) := by decide +kernel
theorem dX8_routesFor_39 : decode cX8_routesFor 39 = .ok (.getfield 211, 3) := by decide +kernel
theorem dX8_routesFor_42 : decode cX8_routesFor 42 = .ok (.areturn, 1) := by decide +kernel
theorem dX8_forgetRoutes_0 : decode cX8_forgetRoutes 0 = .ok (.aload_n 0, 1) := by decide +kernel
theorem dX8_forgetRoutes_1 : decode cX8_forgetRoutes 1 = .ok (.getfield 211, 3) := by decide +kernel
theorem dX8_forgetRoutes_4 : decode cX8_forgetRoutes 4 = .ok (.ifnull 10, 3) := by decide +kernel
theorem dX8_forgetRoutes_7 : decode cX8_forgetRoutes 7 = .ok (.aload_n 0, 1) := by decide +kernel
theorem dX8_forgetRoutes_8 : decode cX8_forgetRoutes 8 = .ok (.getfield 211, 3) := by decide +kernel
theorem dX8_forgetRoutes_11 : decode cX8_forgetRoutes 11 = .ok (.invokevirtual 221, 3) := by decide +kernel
theorem dX8_forgetRoutes_14 : decode cX8_forgetRoutes 14 = .ok (.return_, 1) := by decide +kernel
theorem dJ6_bitCount_0f7a4_0 : decode cJ6_bitCount_0f7a4 0 = .ok (.iload_n 0, 1) := by decide +kernel
theorem dJ6_bitCount_0f7a4_1 : decode cJ6_bitCount_0f7a4 1 = .ok (.iload_n 0, 1) := by decide +kernel
theorem dJ6_bitCount_0f7a4_2 : decode cJ6_bitCount_0f7a4 2 = .ok (.iconst 1, 1) := by decide +kernel
theorem dJ6_bitCount_0f7a4_3 : decode cJ6_bitCount_0f7a4 3 = .ok (.iushr, 1) := by decide +kernel
theorem dJ6_bitCount_0f7a4_4 : decode cJ6_bitCount_0f7a4 4 = .ok (.ldc_w 265, 3) := by decide +kernel
theorem dJ6_bitCount_0f7a4_7 : decode cJ6_bitCount_0f7a4 7 = .ok (.iand, 1) := by decide +kernel
theorem dJ6_bitCount_0f7a4_8 : decode cJ6_bitCount_0f7a4 8 = .ok (.isub, 1) := by decide +kernel
theorem dJ6_bitCount_0f7a4_9 : decode cJ6_bitCount_0f7a4 9 = .ok (.istore_n 0, 1) := by decide +kernel
theorem dJ6_bitCount_0f7a4_10 : decode cJ6_bitCount_0f7a4 10 = .ok (.iload_n 0, 1) := by decide +kernel
theorem dJ6_bitCount_0f7a4_11 : decode cJ6_bitCount_0f7a4 11 = .ok (.ldc_w 266, 3) := by decide +kernel
theorem dJ6_bitCount_0f7a4_14 : decode cJ6_bitCount_0f7a4 14 = .ok (.iand, 1) := by decide +kernel
theorem dJ6_bitCount_0f7a4_15 : decode cJ6_bitCount_0f7a4 15 = .ok (.iload_n 0, 1) := by decide +kernel
theorem dJ6_bitCount_0f7a4_16 : decode cJ6_bitCount_0f7a4 16 = .ok (.iconst 2, 1) := by decide +kernel
theorem dJ6_bitCount_0f7a4_17 : decode cJ6_bitCount_0f7a4 17 = .ok (.iushr, 1) := by decide +kernel
theorem dJ6_bitCount_0f7a4_18 : decode cJ6_bitCount_0f7a4 18 = .ok (.ldc_w 266, 3) := by decide +kernel
theorem dJ6_bitCount_0f7a4_21 : decode cJ6_bitCount_0f7a4 21 = .ok (.iand, 1) := by decide +kernel
theorem dJ6_bitCount_0f7a4_22 : decode cJ6_bitCount_0f7a4 22 = .ok (.iadd, 1) := by decide +kernel
theorem dJ6_bitCount_0f7a4_23 : decode cJ6_bitCount_0f7a4 23 = .ok (.istore_n 0, 1) := by decide +kernel
theorem dJ6_bitCount_0f7a4_24 : decode cJ6_bitCount_0f7a4 24 = .ok (.iload_n 0, 1) := by decide +kernel
theorem dJ6_bitCount_0f7a4_25 : decode cJ6_bitCount_0f7a4 25 = .ok (.iload_n 0, 1) := by decide +kernel
theorem dJ6_bitCount_0f7a4_26 : decode cJ6_bitCount_0f7a4 26 = .ok (.iconst 4, 1) := by decide +kernel
theorem dJ6_bitCount_0f7a4_27 : decode cJ6_bitCount_0f7a4 27 = .ok (.iushr, 1) := by decide +kernel
theorem dJ6_bitCount_0f7a4_28 : decode cJ6_bitCount_0f7a4 28 = .ok (.iadd, 1) := by decide +kernel
theorem dJ6_bitCount_0f7a4_29 : decode cJ6_bitCount_0f7a4 29 = .ok (.ldc_w 267, 3) := by decide +kernel
theorem dJ6_bitCount_0f7a4_32 : decode cJ6_bitCount_0f7a4 32 = .ok (.iand, 1) := by decide +kernel
theorem dJ6_bitCount_0f7a4_33 : decode cJ6_bitCount_0f7a4 33 = .ok (.istore_n 0, 1) := by decide +kernel
theorem dJ6_bitCount_0f7a4_34 : decode cJ6_bitCount_0f7a4 34 = .ok (.iload_n 0, 1) := by decide +kernel
theorem dJ6_bitCount_0f7a4_35 : decode cJ6_bitCount_0f7a4 35 = .ok (.iload_n 0, 1) := by decide +kernel
theorem dJ6_bitCount_0f7a4_36 : decode cJ6_bitCount_0f7a4 36 = .ok (.bipush 8, 2) := by decide +kernel
theorem dJ6_bitCount_0f7a4_38 : decode cJ6_bitCount_0f7a4 38 = .ok (.iushr, 1) := by decide +kernel
theorem dJ6_bitCount_0f7a4_39 : decode cJ6_bitCount_0f7a4 39 = .ok (.iadd, 1) := by decide +kernel
theorem dJ6_bitCount_0f7a4_40 : decode cJ6_bitCount_0f7a4 40 = .ok (.istore_n 0, 1) := by decide +kernel
theorem dJ6_bitCount_0f7a4_41 : decode cJ6_bitCount_0f7a4 41 = .ok (.iload_n 0, 1) := by decide +kernel
theorem dJ6_bitCount_0f7a4_42 : decode cJ6_bitCount_0f7a4 42 = .ok (.iload_n 0, 1) := by decide +kernel
theorem dJ6_bitCount_0f7a4_43 : decode cJ6_bitCount_0f7a4 43 = .ok (.bipush 16, 2) := by decide +kernel
theorem dJ6_bitCount_0f7a4_45 : decode cJ6_bitCount_0f7a4 45 = .ok (.iushr, 1) := by decide +kernel
theorem dJ6_bitCount_0f7a4_46 : decode cJ6_bitCount_0f7a4 46 = .ok (.iadd, 1) := by decide +kernel
theorem dJ6_bitCount_0f7a4_47 : decode cJ6_bitCount_0f7a4 47 = .ok (.istore_n 0, 1) := by decide +kernel
theorem dJ6_bitCount_0f7a4_48 : decode cJ6_bitCount_0f7a4 48 = .ok (.iload_n 0, 1) := by decide +kernel
theorem dJ6_bitCount_0f7a4_49 : decode cJ6_bitCount_0f7a4 49 = .ok (.bipush 63, 2) := by decide +kernel
theorem dJ6_bitCount_0f7a4_51 : decode cJ6_bitCount_0f7a4 51 = .ok (.iand, 1) := by decide +kernel
theorem dJ6_bitCount_0f7a4_52 : decode cJ6_bitCount_0f7a4 52 = .ok (.ireturn, 1) := by decide +kernel
theorem dJ9_abs_0f7a4_0 : decode cJ9_abs_0f7a4 0 = .ok (.iload_n 0, 1) := by decide +kernel
theorem dJ9_abs_0f7a4_1 : decode cJ9_abs_0f7a4 1 = .ok (.ifCond .ge 8, 3) := by decide +kernel
theorem dJ9_abs_0f7a4_4 : decode cJ9_abs_0f7a4 4 = .ok (.iload_n 0, 1) := by decide +kernel
theorem dJ9_abs_0f7a4_5 : decode cJ9_abs_0f7a4 5 = .ok (.ineg, 1) := by decide +kernel
theorem dJ9_abs_0f7a4_6 : decode cJ9_abs_0f7a4 6 = .ok (.goto 4, 3) := by decide +kernel
theorem dJ9_abs_0f7a4_9 : decode cJ9_abs_0f7a4 9 = .ok (.iload_n 0, 1) := by decide +kernel
theorem dJ9_abs_0f7a4_10 : decode cJ9_abs_0f7a4 10 = .ok (.ireturn, 1) := by decide +kernel
theorem dJ9_max_7cf53_0 : decode cJ9_max_7cf53 0 = .ok (.iload_n 0, 1) := by decide +kernel
theorem dJ9_max_7cf53_1 : decode cJ9_max_7cf53 1 = .ok (.iload_n 1, 1) := by decide +kernel
theorem dJ9_max_7cf53_2 : decode cJ9_max_7cf53 2 = .ok (.if_icmp .lt 7, 3) := by decide +kernel
theorem dJ9_max_7cf53_5 : decode cJ9_max_7cf53 5 = .ok (.iload_n 0, 1) := by decide +kernel
theorem dJ9_max_7cf53_6 : decode cJ9_max_7cf53 6 = .ok (.goto 4, 3) := by decide +kernel
theorem dJ9_max_7cf53_9 : decode cJ9_max_7cf53 9 = .ok (.iload_n 1, 1) := by decide +kernel
theorem dJ9_max_7cf53_10 : decode cJ9_max_7cf53 10 = .ok (.ireturn, 1) := by decide +kernel
theorem dJ9_min_7cf53_0 : decode cJ9_min_7cf53 0 = .ok (.iload_n 0, 1) := by decide +kernel
theorem dJ9_min_7cf53_1 : decode cJ9_min_7cf53 1 = .ok (.iload_n 1, 1) := by decide +kernel
theorem dJ9_min_7cf53_2 : decode cJ9_min_7cf53 2 = .ok (.if_icmp .gt 7, 3) := by decide +kernel
theorem dJ9_min_7cf53_5 : decode cJ9_min_7cf53 5 = .ok (.iload_n 0, 1) := by decide +kernel
theorem dJ9_min_7cf53_6 : decode cJ9_min_7cf53 6 = .ok (.goto 4, 3) := by decide +kernel
theorem dJ9_min_7cf53_9 : decode cJ9_min_7cf53 9 = .ok (.iload_n 1, 1) := by decide +kernel
theorem dJ9_min_7cf53_10 : decode cJ9_min_7cf53 10 = .ok (.ireturn, 1) := by decide +kernel
theorem dL_law_0 : decode cL_law 0 = .ok (.new 7, 3) := by decide +kernel
theorem dL_law_3 : decode cL_law 3 = .ok (.dup, 1) := by decide +kernel
theorem dL_law_4 : decode cL_law 4 = .ok (.invokespecial 9, 3) := by decide +kernel
theorem dL_law_7 : decode cL_law 7 = .ok (.astore_n 1, 1) := by decide +kernel
theorem dL_law_8 : decode cL_law 8 = .ok (.new 10, 3) := by decide +kernel
theorem dL_law_11 : decode cL_law 11 = .ok (.dup, 1) := by decide +kernel
theorem dL_law_12 : decode cL_law 12 = .ok (.invokespecial 12, 3) := by decide +kernel
theorem dL_law_15 : decode cL_law 15 = .ok (.astore_n 2, 1) := by decide +kernel
theorem dL_law_16 : decode cL_law 16 = .ok (.iconst 0, 1) := by decide +kernel
theorem dL_law_17 : decode cL_law 17 = .ok (.istore_n 3, 1) := by decide +kernel
theorem dL_law_18 : decode cL_law 18 = .ok (.iload_n 3, 1) := by decide +kernel
theorem dL_law_19 : decode cL_law 19 = .ok (.aload_n 0, 1) := by decide +kernel
theorem dL_law_20 : decode cL_law 20 = .ok (.arraylength, 1) := by decide +kernel
theorem dL_law_21 : decode cL_law 21 = .ok (.bipush 6, 2) := by decide +kernel
theorem dL_law_23 : decode cL_law 23 = .ok (.isub, 1) := by decide +kernel
theorem dL_law_24 : decode cL_law 24 = .ok (.if_icmp .gt 1091, 3) := by decide +kernel
theorem dL_law_27 : decode cL_law 27 = .ok (.aload_n 0, 1) := by decide +kernel
theorem dL_law_28 : decode cL_law 28 = .ok (.iload_n 3, 1) := by decide +kernel
theorem dL_law_29 : decode cL_law 29 = .ok (.iaload, 1) := by decide +kernel
theorem dL_law_30 : decode cL_law 30 = .ok (.bipush 31, 2) := by decide +kernel
theorem dL_law_32 : decode cL_law 32 = .ok (.iand, 1) := by decide +kernel
theorem dL_law_33 : decode cL_law 33 = .ok (.tableswitch 1076 0 26 #[123, 176, 209, 242, 285, 308, 331, 364, 387, 440, 453, 486, 519, 552, 605, 628, 661, 684, 707, 750, 783, 806, 839, 892, 915, 974, 1053], 123) := by decide +kernel
theorem dL_law_156 : decode cL_law 156 = .ok (.aload_n 1, 1) := by decide +kernel
theorem dL_law_157 : decode cL_law 157 = .ok (.aload_n 0, 1) := by decide +kernel
theorem dL_law_158 : decode cL_law 158 = .ok (.iload_n 3, 1) := by decide +kernel
theorem dL_law_159 : decode cL_law 159 = .ok (.iconst 1, 1) := by decide +kernel
theorem dL_law_160 : decode cL_law 160 = .ok (.iadd, 1) := by decide +kernel
theorem dL_law_161 : decode cL_law 161 = .ok (.iaload, 1) := by decide +kernel
theorem dL_law_162 : decode cL_law 162 = .ok (.aload_n 0, 1) := by decide +kernel
theorem dL_law_163 : decode cL_law 163 = .ok (.iload_n 3, 1) := by decide +kernel
theorem dL_law_164 : decode cL_law 164 = .ok (.iconst 2, 1) := by decide +kernel
theorem dL_law_165 : decode cL_law 165 = .ok (.iadd, 1) := by decide +kernel
theorem dL_law_166 : decode cL_law 166 = .ok (.iaload, 1) := by decide +kernel
theorem dL_law_167 : decode cL_law 167 = .ok (.aload_n 0, 1) := by decide +kernel
theorem dL_law_168 : decode cL_law 168 = .ok (.iload_n 3, 1) := by decide +kernel
theorem dL_law_169 : decode cL_law 169 = .ok (.iconst 3, 1) := by decide +kernel
theorem dL_law_170 : decode cL_law 170 = .ok (.iadd, 1) := by decide +kernel
theorem dL_law_171 : decode cL_law 171 = .ok (.iaload, 1) := by decide +kernel
theorem dL_law_172 : decode cL_law 172 = .ok (.aload_n 0, 1) := by decide +kernel
theorem dL_law_173 : decode cL_law 173 = .ok (.iload_n 3, 1) := by decide +kernel
theorem dL_law_174 : decode cL_law 174 = .ok (.iconst 4, 1) := by decide +kernel
theorem dL_law_175 : decode cL_law 175 = .ok (.iadd, 1) := by decide +kernel
theorem dL_law_176 : decode cL_law 176 = .ok (.iaload, 1) := by decide +kernel
theorem dL_law_177 : decode cL_law 177 = .ok (.invokevirtual 13, 3) := by decide +kernel
theorem dL_law_180 : decode cL_law 180 = .ok (.aload_n 2, 1) := by decide +kernel
theorem dL_law_181 : decode cL_law 181 = .ok (.aload_n 0, 1) := by decide +kernel
theorem dL_law_182 : decode cL_law 182 = .ok (.iload_n 3, 1) := by decide +kernel
theorem dL_law_183 : decode cL_law 183 = .ok (.iconst 1, 1) := by decide +kernel
theorem dL_law_184 : decode cL_law 184 = .ok (.iadd, 1) := by decide +kernel
theorem dL_law_185 : decode cL_law 185 = .ok (.iaload, 1) := by decide +kernel
theorem dL_law_186 : decode cL_law 186 = .ok (.aload_n 0, 1) := by decide +kernel
theorem dL_law_187 : decode cL_law 187 = .ok (.iload_n 3, 1) := by decide +kernel
theorem dL_law_188 : decode cL_law 188 = .ok (.iconst 2, 1) := by decide +kernel
theorem dL_law_189 : decode cL_law 189 = .ok (.iadd, 1) := by decide +kernel
theorem dL_law_190 : decode cL_law 190 = .ok (.iaload, 1) := by decide +kernel
theorem dL_law_191 : decode cL_law 191 = .ok (.aload_n 0, 1) := by decide +kernel
theorem dL_law_192 : decode cL_law 192 = .ok (.iload_n 3, 1) := by decide +kernel
theorem dL_law_193 : decode cL_law 193 = .ok (.iconst 3, 1) := by decide +kernel
theorem dL_law_194 : decode cL_law 194 = .ok (.iadd, 1) := by decide +kernel
theorem dL_law_195 : decode cL_law 195 = .ok (.iaload, 1) := by decide +kernel
theorem dL_law_196 : decode cL_law 196 = .ok (.aload_n 0, 1) := by decide +kernel
theorem dL_law_197 : decode cL_law 197 = .ok (.iload_n 3, 1) := by decide +kernel
theorem dL_law_198 : decode cL_law 198 = .ok (.iconst 4, 1) := by decide +kernel
theorem dL_law_199 : decode cL_law 199 = .ok (.iadd, 1) := by decide +kernel
theorem dL_law_200 : decode cL_law 200 = .ok (.iaload, 1) := by decide +kernel
theorem dL_law_201 : decode cL_law 201 = .ok (.invokevirtual 17, 3) := by decide +kernel
theorem dL_law_204 : decode cL_law 204 = .ok (.if_icmp .eq 905, 3) := by decide +kernel
theorem dL_law_207 : decode cL_law 207 = .ok (.iconst 0, 1) := by decide +kernel
theorem dL_law_208 : decode cL_law 208 = .ok (.ireturn, 1) := by decide +kernel
theorem dL_law_209 : decode cL_law 209 = .ok (.aload_n 1, 1) := by decide +kernel
theorem dL_law_210 : decode cL_law 210 = .ok (.aload_n 0, 1) := by decide +kernel
theorem dL_law_211 : decode cL_law 211 = .ok (.iload_n 3, 1) := by decide +kernel
theorem dL_law_212 : decode cL_law 212 = .ok (.iconst 1, 1) := by decide +kernel
theorem dL_law_213 : decode cL_law 213 = .ok (.iadd, 1) := by decide +kernel
theorem dL_law_214 : decode cL_law 214 = .ok (.iaload, 1) := by decide +kernel
theorem dL_law_215 : decode cL_law 215 = .ok (.aload_n 0, 1) := by decide +kernel
theorem dL_law_216 : decode cL_law 216 = .ok (.iload_n 3, 1) := by decide +kernel
theorem dL_law_217 : decode cL_law 217 = .ok (.iconst 2, 1) := by decide +kernel
theorem dL_law_218 : decode cL_law 218 = .ok (.iadd, 1) := by decide +kernel
theorem dL_law_219 : decode cL_law 219 = .ok (.iaload, 1) := by decide +kernel
theorem dL_law_220 : decode cL_law 220 = .ok (.invokevirtual 18, 3) := by decide +kernel
theorem dL_law_223 : decode cL_law 223 = .ok (.aload_n 2, 1) := by decide +kernel
theorem dL_law_224 : decode cL_law 224 = .ok (.aload_n 0, 1) := by decide +kernel
theorem dL_law_225 : decode cL_law 225 = .ok (.iload_n 3, 1) := by decide +kernel
theorem dL_law_226 : decode cL_law 226 = .ok (.iconst 1, 1) := by decide +kernel
theorem dL_law_227 : decode cL_law 227 = .ok (.iadd, 1) := by decide +kernel
theorem dL_law_228 : decode cL_law 228 = .ok (.iaload, 1) := by decide +kernel
theorem dL_law_229 : decode cL_law 229 = .ok (.aload_n 0, 1) := by decide +kernel
theorem dL_law_230 : decode cL_law 230 = .ok (.iload_n 3, 1) := by decide +kernel
theorem dL_law_231 : decode cL_law 231 = .ok (.iconst 2, 1) := by decide +kernel
theorem dL_law_232 : decode cL_law 232 = .ok (.iadd, 1) := by decide +kernel
theorem dL_law_233 : decode cL_law 233 = .ok (.iaload, 1) := by decide +kernel
theorem dL_law_234 : decode cL_law 234 = .ok (.invokevirtual 22, 3) := by decide +kernel
theorem dL_law_237 : decode cL_law 237 = .ok (.if_icmp .eq 872, 3) := by decide +kernel
theorem dL_law_240 : decode cL_law 240 = .ok (.iconst 0, 1) := by decide +kernel
theorem dL_law_241 : decode cL_law 241 = .ok (.ireturn, 1) := by decide +kernel
theorem dL_law_242 : decode cL_law 242 = .ok (.aload_n 1, 1) := by decide +kernel
theorem dL_law_243 : decode cL_law 243 = .ok (.aload_n 0, 1) := by decide +kernel
theorem dL_law_244 : decode cL_law 244 = .ok (.iload_n 3, 1) := by decide +kernel
theorem dL_law_245 : decode cL_law 245 = .ok (.iconst 1, 1) := by decide +kernel
theorem dL_law_246 : decode cL_law 246 = .ok (.iadd, 1) := by decide +kernel
theorem dL_law_247 : decode cL_law 247 = .ok (.iaload, 1) := by decide +kernel
theorem dL_law_248 : decode cL_law 248 = .ok (.aload_n 0, 1) := by decide +kernel
theorem dL_law_249 : decode cL_law 249 = .ok (.iload_n 3, 1) := by decide +kernel
theorem dL_law_250 : decode cL_law 250 = .ok (.iconst 2, 1) := by decide +kernel
theorem dL_law_251 : decode cL_law 251 = .ok (.iadd, 1) := by decide +kernel
theorem dL_law_252 : decode cL_law 252 = .ok (.iaload, 1) := by decide +kernel
theorem dL_law_253 : decode cL_law 253 = .ok (.invokevirtual 23, 3) := by decide +kernel
theorem dL_law_256 : decode cL_law 256 = .ok (.aload_n 2, 1) := by decide +kernel
theorem dL_law_257 : decode cL_law 257 = .ok (.aload_n 0, 1) := by decide +kernel
theorem dL_law_258 : decode cL_law 258 = .ok (.iload_n 3, 1) := by decide +kernel
theorem dL_law_259 : decode cL_law 259 = .ok (.iconst 1, 1) := by decide +kernel
theorem dL_law_260 : decode cL_law 260 = .ok (.iadd, 1) := by decide +kernel
theorem dL_law_261 : decode cL_law 261 = .ok (.iaload, 1) := by decide +kernel
theorem dL_law_262 : decode cL_law 262 = .ok (.aload_n 0, 1) := by decide +kernel
theorem dL_law_263 : decode cL_law 263 = .ok (.iload_n 3, 1) := by decide +kernel
theorem dL_law_264 : decode cL_law 264 = .ok (.iconst 2, 1) := by decide +kernel
theorem dL_law_265 : decode cL_law 265 = .ok (.iadd, 1) := by decide +kernel
theorem dL_law_266 : decode cL_law 266 = .ok (.iaload, 1) := by decide +kernel
theorem dL_law_267 : decode cL_law 267 = .ok (.invokevirtual 26, 3) := by decide +kernel
theorem dL_law_270 : decode cL_law 270 = .ok (.if_icmp .eq 839, 3) := by decide +kernel
theorem dL_law_273 : decode cL_law 273 = .ok (.iconst 0, 1) := by decide +kernel
theorem dL_law_274 : decode cL_law 274 = .ok (.ireturn, 1) := by decide +kernel
theorem dL_law_275 : decode cL_law 275 = .ok (.aload_n 1, 1) := by decide +kernel
theorem dL_law_276 : decode cL_law 276 = .ok (.aload_n 0, 1) := by decide +kernel
theorem dL_law_277 : decode cL_law 277 = .ok (.iload_n 3, 1) := by decide +kernel
theorem dL_law_278 : decode cL_law 278 = .ok (.iconst 1, 1) := by decide +kernel
theorem dL_law_279 : decode cL_law 279 = .ok (.iadd, 1) := by decide +kernel
theorem dL_law_280 : decode cL_law 280 = .ok (.iaload, 1) := by decide +kernel
theorem dL_law_281 : decode cL_law 281 = .ok (.aload_n 0, 1) := by decide +kernel
theorem dL_law_282 : decode cL_law 282 = .ok (.iload_n 3, 1) := by decide +kernel
theorem dL_law_283 : decode cL_law 283 = .ok (.iconst 2, 1) := by decide +kernel
theorem dL_law_284 : decode cL_law 284 = .ok (.iadd, 1) := by decide +kernel
theorem dL_law_285 : decode cL_law 285 = .ok (.iaload, 1) := by decide +kernel
theorem dL_law_286 : decode cL_law 286 = .ok (.aload_n 0, 1) := by decide +kernel
theorem dL_law_287 : decode cL_law 287 = .ok (.iload_n 3, 1) := by decide +kernel
theorem dL_law_288 : decode cL_law 288 = .ok (.iconst 3, 1) := by decide +kernel
theorem dL_law_289 : decode cL_law 289 = .ok (.iadd, 1) := by decide +kernel
theorem dL_law_290 : decode cL_law 290 = .ok (.iaload, 1) := by decide +kernel
theorem dL_law_291 : decode cL_law 291 = .ok (.invokevirtual 27, 3) := by decide +kernel
theorem dL_law_294 : decode cL_law 294 = .ok (.aload_n 2, 1) := by decide +kernel
theorem dL_law_295 : decode cL_law 295 = .ok (.aload_n 0, 1) := by decide +kernel
theorem dL_law_296 : decode cL_law 296 = .ok (.iload_n 3, 1) := by decide +kernel
theorem dL_law_297 : decode cL_law 297 = .ok (.iconst 1, 1) := by decide +kernel
theorem dL_law_298 : decode cL_law 298 = .ok (.iadd, 1) := by decide +kernel
theorem dL_law_299 : decode cL_law 299 = .ok (.iaload, 1) := by decide +kernel
theorem dL_law_300 : decode cL_law 300 = .ok (.aload_n 0, 1) := by decide +kernel
theorem dL_law_301 : decode cL_law 301 = .ok (.iload_n 3, 1) := by decide +kernel
theorem dL_law_302 : decode cL_law 302 = .ok (.iconst 2, 1) := by decide +kernel
theorem dL_law_303 : decode cL_law 303 = .ok (.iadd, 1) := by decide +kernel
theorem dL_law_304 : decode cL_law 304 = .ok (.iaload, 1) := by decide +kernel
theorem dL_law_305 : decode cL_law 305 = .ok (.aload_n 0, 1) := by decide +kernel
theorem dL_law_306 : decode cL_law 306 = .ok (.iload_n 3, 1) := by decide +kernel
theorem dL_law_307 : decode cL_law 307 = .ok (.iconst 3, 1) := by decide +kernel
theorem dL_law_308 : decode cL_law 308 = .ok (.iadd, 1) := by decide +kernel
theorem dL_law_309 : decode cL_law 309 = .ok (.iaload, 1) := by decide +kernel
theorem dL_law_310 : decode cL_law 310 = .ok (.invokevirtual 31, 3) := by decide +kernel
theorem dL_law_313 : decode cL_law 313 = .ok (.if_icmp .eq 796, 3) := by decide +kernel
theorem dL_law_316 : decode cL_law 316 = .ok (.iconst 0, 1) := by decide +kernel
theorem dL_law_317 : decode cL_law 317 = .ok (.ireturn, 1) := by decide +kernel
theorem dL_law_318 : decode cL_law 318 = .ok (.aload_n 1, 1) := by decide +kernel
theorem dL_law_319 : decode cL_law 319 = .ok (.aload_n 0, 1) := by decide +kernel
theorem dL_law_320 : decode cL_law 320 = .ok (.iload_n 3, 1) := by decide +kernel
theorem dL_law_321 : decode cL_law 321 = .ok (.iconst 1, 1) := by decide +kernel
theorem dL_law_322 : decode cL_law 322 = .ok (.iadd, 1) := by decide +kernel
theorem dL_law_323 : decode cL_law 323 = .ok (.iaload, 1) := by decide +kernel
theorem dL_law_324 : decode cL_law 324 = .ok (.invokevirtual 32, 3) := by decide +kernel
theorem dL_law_327 : decode cL_law 327 = .ok (.aload_n 2, 1) := by decide +kernel
theorem dL_law_328 : decode cL_law 328 = .ok (.aload_n 0, 1) := by decide +kernel
theorem dL_law_329 : decode cL_law 329 = .ok (.iload_n 3, 1) := by decide +kernel
theorem dL_law_330 : decode cL_law 330 = .ok (.iconst 1, 1) := by decide +kernel
theorem dL_law_331 : decode cL_law 331 = .ok (.iadd, 1) := by decide +kernel
theorem dL_law_332 : decode cL_law 332 = .ok (.iaload, 1) := by decide +kernel
theorem dL_law_333 : decode cL_law 333 = .ok (.invokevirtual 36, 3) := by decide +kernel
theorem dL_law_336 : decode cL_law 336 = .ok (.if_icmp .eq 773, 3) := by decide +kernel
theorem dL_law_339 : decode cL_law 339 = .ok (.iconst 0, 1) := by decide +kernel
theorem dL_law_340 : decode cL_law 340 = .ok (.ireturn, 1) := by decide +kernel
theorem dL_law_341 : decode cL_law 341 = .ok (.aload_n 1, 1) := by decide +kernel
theorem dL_law_342 : decode cL_law 342 = .ok (.aload_n 0, 1) := by decide +kernel
theorem dL_law_343 : decode cL_law 343 = .ok (.iload_n 3, 1) := by decide +kernel
theorem dL_law_344 : decode cL_law 344 = .ok (.iconst 1, 1) := by decide +kernel
theorem dL_law_345 : decode cL_law 345 = .ok (.iadd, 1) := by decide +kernel
theorem dL_law_346 : decode cL_law 346 = .ok (.iaload, 1) := by decide +kernel
theorem dL_law_347 : decode cL_law 347 = .ok (.invokevirtual 37, 3) := by decide +kernel
theorem dL_law_350 : decode cL_law 350 = .ok (.aload_n 2, 1) := by decide +kernel
theorem dL_law_351 : decode cL_law 351 = .ok (.aload_n 0, 1) := by decide +kernel
theorem dL_law_352 : decode cL_law 352 = .ok (.iload_n 3, 1) := by decide +kernel
theorem dL_law_353 : decode cL_law 353 = .ok (.iconst 1, 1) := by decide +kernel
theorem dL_law_354 : decode cL_law 354 = .ok (.iadd, 1) := by decide +kernel
theorem dL_law_355 : decode cL_law 355 = .ok (.iaload, 1) := by decide +kernel
theorem dL_law_356 : decode cL_law 356 = .ok (.invokevirtual 40, 3) := by decide +kernel
theorem dL_law_359 : decode cL_law 359 = .ok (.if_icmp .eq 750, 3) := by decide +kernel
theorem dL_law_362 : decode cL_law 362 = .ok (.iconst 0, 1) := by decide +kernel
theorem dL_law_363 : decode cL_law 363 = .ok (.ireturn, 1) := by decide +kernel
theorem dL_law_364 : decode cL_law 364 = .ok (.aload_n 1, 1) := by decide +kernel
theorem dL_law_365 : decode cL_law 365 = .ok (.aload_n 0, 1) := by decide +kernel
theorem dL_law_366 : decode cL_law 366 = .ok (.iload_n 3, 1) := by decide +kernel
theorem dL_law_367 : decode cL_law 367 = .ok (.iconst 1, 1) := by decide +kernel
theorem dL_law_368 : decode cL_law 368 = .ok (.iadd, 1) := by decide +kernel
theorem dL_law_369 : decode cL_law 369 = .ok (.iaload, 1) := by decide +kernel
theorem dL_law_370 : decode cL_law 370 = .ok (.aload_n 0, 1) := by decide +kernel
theorem dL_law_371 : decode cL_law 371 = .ok (.iload_n 3, 1) := by decide +kernel
theorem dL_law_372 : decode cL_law 372 = .ok (.iconst 2, 1) := by decide +kernel
theorem dL_law_373 : decode cL_law 373 = .ok (.iadd, 1) := by decide +kernel
theorem dL_law_374 : decode cL_law 374 = .ok (.iaload, 1) := by decide +kernel
theorem dL_law_375 : decode cL_law 375 = .ok (.invokevirtual 41, 3) := by decide +kernel
theorem dL_law_378 : decode cL_law 378 = .ok (.aload_n 2, 1) := by decide +kernel
theorem dL_law_379 : decode cL_law 379 = .ok (.aload_n 0, 1) := by decide +kernel
theorem dL_law_380 : decode cL_law 380 = .ok (.iload_n 3, 1) := by decide +kernel
theorem dL_law_381 : decode cL_law 381 = .ok (.iconst 1, 1) := by decide +kernel
theorem dL_law_382 : decode cL_law 382 = .ok (.iadd, 1) := by decide +kernel
theorem dL_law_383 : decode cL_law 383 = .ok (.iaload, 1) := by decide +kernel
theorem dL_law_384 : decode cL_law 384 = .ok (.aload_n 0, 1) := by decide +kernel
theorem dL_law_385 : decode cL_law 385 = .ok (.iload_n 3, 1) := by decide +kernel
theorem dL_law_386 : decode cL_law 386 = .ok (.iconst 2, 1) := by decide +kernel
theorem dL_law_387 : decode cL_law 387 = .ok (.iadd, 1) := by decide +kernel
theorem dL_law_388 : decode cL_law 388 = .ok (.iaload, 1) := by decide +kernel
theorem dL_law_389 : decode cL_law 389 = .ok (.invokevirtual 44, 3) := by decide +kernel
theorem dL_law_392 : decode cL_law 392 = .ok (.if_icmp .eq 717, 3) := by decide +kernel
theorem dL_law_395 : decode cL_law 395 = .ok (.iconst 0, 1) := by decide +kernel
theorem dL_law_396 : decode cL_law 396 = .ok (.ireturn, 1) := by decide +kernel
theorem dL_law_397 : decode cL_law 397 = .ok (.aload_n 1, 1) := by decide +kernel
theorem dL_law_398 : decode cL_law 398 = .ok (.aload_n 0, 1) := by decide +kernel
theorem dL_law_399 : decode cL_law 399 = .ok (.iload_n 3, 1) := by decide +kernel
theorem dL_law_400 : decode cL_law 400 = .ok (.iconst 1, 1) := by decide +kernel
theorem dL_law_401 : decode cL_law 401 = .ok (.iadd, 1) := by decide +kernel
theorem dL_law_402 : decode cL_law 402 = .ok (.iaload, 1) := by decide +kernel
theorem dL_law_403 : decode cL_law 403 = .ok (.invokevirtual 45, 3) := by decide +kernel
theorem dL_law_406 : decode cL_law 406 = .ok (.aload_n 2, 1) := by decide +kernel
theorem dL_law_407 : decode cL_law 407 = .ok (.aload_n 0, 1) := by decide +kernel
theorem dL_law_408 : decode cL_law 408 = .ok (.iload_n 3, 1) := by decide +kernel
theorem dL_law_409 : decode cL_law 409 = .ok (.iconst 1, 1) := by decide +kernel
theorem dL_law_410 : decode cL_law 410 = .ok (.iadd, 1) := by decide +kernel
theorem dL_law_411 : decode cL_law 411 = .ok (.iaload, 1) := by decide +kernel
theorem dL_law_412 : decode cL_law 412 = .ok (.invokevirtual 48, 3) := by decide +kernel
theorem dL_law_415 : decode cL_law 415 = .ok (.if_icmp .eq 694, 3) := by decide +kernel
theorem dL_law_418 : decode cL_law 418 = .ok (.iconst 0, 1) := by decide +kernel
theorem dL_law_419 : decode cL_law 419 = .ok (.ireturn, 1) := by decide +kernel
theorem dL_law_420 : decode cL_law 420 = .ok (.aload_n 1, 1) := by decide +kernel
theorem dL_law_421 : decode cL_law 421 = .ok (.aload_n 0, 1) := by decide +kernel
theorem dL_law_422 : decode cL_law 422 = .ok (.iload_n 3, 1) := by decide +kernel
theorem dL_law_423 : decode cL_law 423 = .ok (.iconst 1, 1) := by decide +kernel
theorem dL_law_424 : decode cL_law 424 = .ok (.iadd, 1) := by decide +kernel
theorem dL_law_425 : decode cL_law 425 = .ok (.iaload, 1) := by decide +kernel
theorem dL_law_426 : decode cL_law 426 = .ok (.aload_n 0, 1) := by decide +kernel
theorem dL_law_427 : decode cL_law 427 = .ok (.iload_n 3, 1) := by decide +kernel
theorem dL_law_428 : decode cL_law 428 = .ok (.iconst 2, 1) := by decide +kernel
theorem dL_law_429 : decode cL_law 429 = .ok (.iadd, 1) := by decide +kernel
theorem dL_law_430 : decode cL_law 430 = .ok (.iaload, 1) := by decide +kernel
theorem dL_law_431 : decode cL_law 431 = .ok (.aload_n 0, 1) := by decide +kernel
theorem dL_law_432 : decode cL_law 432 = .ok (.iload_n 3, 1) := by decide +kernel
theorem dL_law_433 : decode cL_law 433 = .ok (.iconst 3, 1) := by decide +kernel
theorem dL_law_434 : decode cL_law 434 = .ok (.iadd, 1) := by decide +kernel
theorem dL_law_435 : decode cL_law 435 = .ok (.iaload, 1) := by decide +kernel
theorem dL_law_436 : decode cL_law 436 = .ok (.aload_n 0, 1) := by decide +kernel
theorem dL_law_437 : decode cL_law 437 = .ok (.iload_n 3, 1) := by decide +kernel
theorem dL_law_438 : decode cL_law 438 = .ok (.iconst 4, 1) := by decide +kernel
theorem dL_law_439 : decode cL_law 439 = .ok (.iadd, 1) := by decide +kernel
theorem dL_law_440 : decode cL_law 440 = .ok (.iaload, 1) := by decide +kernel
theorem dL_law_441 : decode cL_law 441 = .ok (.invokevirtual 49, 3) := by decide +kernel
theorem dL_law_444 : decode cL_law 444 = .ok (.aload_n 2, 1) := by decide +kernel
theorem dL_law_445 : decode cL_law 445 = .ok (.aload_n 0, 1) := by decide +kernel
theorem dL_law_446 : decode cL_law 446 = .ok (.iload_n 3, 1) := by decide +kernel
theorem dL_law_447 : decode cL_law 447 = .ok (.iconst 1, 1) := by decide +kernel
theorem dL_law_448 : decode cL_law 448 = .ok (.iadd, 1) := by decide +kernel
theorem dL_law_449 : decode cL_law 449 = .ok (.iaload, 1) := by decide +kernel
theorem dL_law_450 : decode cL_law 450 = .ok (.aload_n 0, 1) := by decide +kernel
theorem dL_law_451 : decode cL_law 451 = .ok (.iload_n 3, 1) := by decide +kernel
theorem dL_law_452 : decode cL_law 452 = .ok (.iconst 2, 1) := by decide +kernel
theorem dL_law_453 : decode cL_law 453 = .ok (.iadd, 1) := by decide +kernel
theorem dL_law_454 : decode cL_law 454 = .ok (.iaload, 1) := by decide +kernel
theorem dL_law_455 : decode cL_law 455 = .ok (.aload_n 0, 1) := by decide +kernel
theorem dL_law_456 : decode cL_law 456 = .ok (.iload_n 3, 1) := by decide +kernel
theorem dL_law_457 : decode cL_law 457 = .ok (.iconst 3, 1) := by decide +kernel
theorem dL_law_458 : decode cL_law 458 = .ok (.iadd, 1) := by decide +kernel
theorem dL_law_459 : decode cL_law 459 = .ok (.iaload, 1) := by decide +kernel
theorem dL_law_460 : decode cL_law 460 = .ok (.aload_n 0, 1) := by decide +kernel
theorem dL_law_461 : decode cL_law 461 = .ok (.iload_n 3, 1) := by decide +kernel
theorem dL_law_462 : decode cL_law 462 = .ok (.iconst 4, 1) := by decide +kernel
theorem dL_law_463 : decode cL_law 463 = .ok (.iadd, 1) := by decide +kernel
theorem dL_law_464 : decode cL_law 464 = .ok (.iaload, 1) := by decide +kernel
theorem dL_law_465 : decode cL_law 465 = .ok (.invokevirtual 52, 3) := by decide +kernel
theorem dL_law_468 : decode cL_law 468 = .ok (.if_icmp .eq 641, 3) := by decide +kernel
theorem dL_law_471 : decode cL_law 471 = .ok (.iconst 0, 1) := by decide +kernel
theorem dL_law_472 : decode cL_law 472 = .ok (.ireturn, 1) := by decide +kernel
theorem dL_law_473 : decode cL_law 473 = .ok (.aload_n 1, 1) := by decide +kernel
theorem dL_law_474 : decode cL_law 474 = .ok (.invokevirtual 53, 3) := by decide +kernel
theorem dL_law_477 : decode cL_law 477 = .ok (.aload_n 2, 1) := by decide +kernel
theorem dL_law_478 : decode cL_law 478 = .ok (.invokevirtual 57, 3) := by decide +kernel
theorem dL_law_481 : decode cL_law 481 = .ok (.if_icmp .eq 628, 3) := by decide +kernel
theorem dL_law_484 : decode cL_law 484 = .ok (.iconst 0, 1) := by decide +kernel
theorem dL_law_485 : decode cL_law 485 = .ok (.ireturn, 1) := by decide +kernel
theorem dL_law_486 : decode cL_law 486 = .ok (.aload_n 1, 1) := by decide +kernel
theorem dL_law_487 : decode cL_law 487 = .ok (.aload_n 0, 1) := by decide +kernel
theorem dL_law_488 : decode cL_law 488 = .ok (.iload_n 3, 1) := by decide +kernel
theorem dL_law_489 : decode cL_law 489 = .ok (.iconst 1, 1) := by decide +kernel
theorem dL_law_490 : decode cL_law 490 = .ok (.iadd, 1) := by decide +kernel
theorem dL_law_491 : decode cL_law 491 = .ok (.iaload, 1) := by decide +kernel
theorem dL_law_492 : decode cL_law 492 = .ok (.aload_n 0, 1) := by decide +kernel
theorem dL_law_493 : decode cL_law 493 = .ok (.iload_n 3, 1) := by decide +kernel
theorem dL_law_494 : decode cL_law 494 = .ok (.iconst 2, 1) := by decide +kernel
theorem dL_law_495 : decode cL_law 495 = .ok (.iadd, 1) := by decide +kernel
theorem dL_law_496 : decode cL_law 496 = .ok (.iaload, 1) := by decide +kernel
theorem dL_law_497 : decode cL_law 497 = .ok (.invokevirtual 58, 3) := by decide +kernel
theorem dL_law_500 : decode cL_law 500 = .ok (.aload_n 2, 1) := by decide +kernel
theorem dL_law_501 : decode cL_law 501 = .ok (.aload_n 0, 1) := by decide +kernel
theorem dL_law_502 : decode cL_law 502 = .ok (.iload_n 3, 1) := by decide +kernel
theorem dL_law_503 : decode cL_law 503 = .ok (.iconst 1, 1) := by decide +kernel
theorem dL_law_504 : decode cL_law 504 = .ok (.iadd, 1) := by decide +kernel
theorem dL_law_505 : decode cL_law 505 = .ok (.iaload, 1) := by decide +kernel
theorem dL_law_506 : decode cL_law 506 = .ok (.aload_n 0, 1) := by decide +kernel
theorem dL_law_507 : decode cL_law 507 = .ok (.iload_n 3, 1) := by decide +kernel
theorem dL_law_508 : decode cL_law 508 = .ok (.iconst 2, 1) := by decide +kernel
theorem dL_law_509 : decode cL_law 509 = .ok (.iadd, 1) := by decide +kernel
theorem dL_law_510 : decode cL_law 510 = .ok (.iaload, 1) := by decide +kernel
theorem dL_law_511 : decode cL_law 511 = .ok (.invokevirtual 61, 3) := by decide +kernel
theorem dL_law_514 : decode cL_law 514 = .ok (.if_icmp .eq 595, 3) := by decide +kernel
theorem dL_law_517 : decode cL_law 517 = .ok (.iconst 0, 1) := by decide +kernel
theorem dL_law_518 : decode cL_law 518 = .ok (.ireturn, 1) := by decide +kernel
theorem dL_law_519 : decode cL_law 519 = .ok (.aload_n 1, 1) := by decide +kernel
theorem dL_law_520 : decode cL_law 520 = .ok (.aload_n 0, 1) := by decide +kernel
theorem dL_law_521 : decode cL_law 521 = .ok (.iload_n 3, 1) := by decide +kernel
theorem dL_law_522 : decode cL_law 522 = .ok (.iconst 1, 1) := by decide +kernel
theorem dL_law_523 : decode cL_law 523 = .ok (.iadd, 1) := by decide +kernel
theorem dL_law_524 : decode cL_law 524 = .ok (.iaload, 1) := by decide +kernel
theorem dL_law_525 : decode cL_law 525 = .ok (.aload_n 0, 1) := by decide +kernel
theorem dL_law_526 : decode cL_law 526 = .ok (.iload_n 3, 1) := by decide +kernel
theorem dL_law_527 : decode cL_law 527 = .ok (.iconst 2, 1) := by decide +kernel
theorem dL_law_528 : decode cL_law 528 = .ok (.iadd, 1) := by decide +kernel
theorem dL_law_529 : decode cL_law 529 = .ok (.iaload, 1) := by decide +kernel
theorem dL_law_530 : decode cL_law 530 = .ok (.invokevirtual 62, 3) := by decide +kernel
theorem dL_law_533 : decode cL_law 533 = .ok (.aload_n 2, 1) := by decide +kernel
theorem dL_law_534 : decode cL_law 534 = .ok (.aload_n 0, 1) := by decide +kernel
theorem dL_law_535 : decode cL_law 535 = .ok (.iload_n 3, 1) := by decide +kernel
theorem dL_law_536 : decode cL_law 536 = .ok (.iconst 1, 1) := by decide +kernel
theorem dL_law_537 : decode cL_law 537 = .ok (.iadd, 1) := by decide +kernel
theorem dL_law_538 : decode cL_law 538 = .ok (.iaload, 1) := by decide +kernel
theorem dL_law_539 : decode cL_law 539 = .ok (.aload_n 0, 1) := by decide +kernel
theorem dL_law_540 : decode cL_law 540 = .ok (.iload_n 3, 1) := by decide +kernel
theorem dL_law_541 : decode cL_law 541 = .ok (.iconst 2, 1) := by decide +kernel
theorem dL_law_542 : decode cL_law 542 = .ok (.iadd, 1) := by decide +kernel
theorem dL_law_543 : decode cL_law 543 = .ok (.iaload, 1) := by decide +kernel
theorem dL_law_544 : decode cL_law 544 = .ok (.invokevirtual 65, 3) := by decide +kernel
theorem dL_law_547 : decode cL_law 547 = .ok (.if_icmp .eq 562, 3) := by decide +kernel
theorem dL_law_550 : decode cL_law 550 = .ok (.iconst 0, 1) := by decide +kernel
theorem dL_law_551 : decode cL_law 551 = .ok (.ireturn, 1) := by decide +kernel
theorem dL_law_552 : decode cL_law 552 = .ok (.aload_n 1, 1) := by decide +kernel
theorem dL_law_553 : decode cL_law 553 = .ok (.aload_n 0, 1) := by decide +kernel
theorem dL_law_554 : decode cL_law 554 = .ok (.iload_n 3, 1) := by decide +kernel
theorem dL_law_555 : decode cL_law 555 = .ok (.iconst 1, 1) := by decide +kernel
theorem dL_law_556 : decode cL_law 556 = .ok (.iadd, 1) := by decide +kernel
theorem dL_law_557 : decode cL_law 557 = .ok (.iaload, 1) := by decide +kernel
theorem dL_law_558 : decode cL_law 558 = .ok (.aload_n 0, 1) := by decide +kernel
theorem dL_law_559 : decode cL_law 559 = .ok (.iload_n 3, 1) := by decide +kernel
theorem dL_law_560 : decode cL_law 560 = .ok (.iconst 2, 1) := by decide +kernel
theorem dL_law_561 : decode cL_law 561 = .ok (.iadd, 1) := by decide +kernel
theorem dL_law_562 : decode cL_law 562 = .ok (.iaload, 1) := by decide +kernel
theorem dL_law_563 : decode cL_law 563 = .ok (.invokevirtual 66, 3) := by decide +kernel
theorem dL_law_566 : decode cL_law 566 = .ok (.aload_n 2, 1) := by decide +kernel
theorem dL_law_567 : decode cL_law 567 = .ok (.aload_n 0, 1) := by decide +kernel
theorem dL_law_568 : decode cL_law 568 = .ok (.iload_n 3, 1) := by decide +kernel
theorem dL_law_569 : decode cL_law 569 = .ok (.iconst 1, 1) := by decide +kernel
theorem dL_law_570 : decode cL_law 570 = .ok (.iadd, 1) := by decide +kernel
theorem dL_law_571 : decode cL_law 571 = .ok (.iaload, 1) := by decide +kernel
theorem dL_law_572 : decode cL_law 572 = .ok (.aload_n 0, 1) := by decide +kernel
theorem dL_law_573 : decode cL_law 573 = .ok (.iload_n 3, 1) := by decide +kernel
theorem dL_law_574 : decode cL_law 574 = .ok (.iconst 2, 1) := by decide +kernel
theorem dL_law_575 : decode cL_law 575 = .ok (.iadd, 1) := by decide +kernel
theorem dL_law_576 : decode cL_law 576 = .ok (.iaload, 1) := by decide +kernel
theorem dL_law_577 : decode cL_law 577 = .ok (.invokevirtual 69, 3) := by decide +kernel
theorem dL_law_580 : decode cL_law 580 = .ok (.if_icmp .eq 529, 3) := by decide +kernel
theorem dL_law_583 : decode cL_law 583 = .ok (.iconst 0, 1) := by decide +kernel
theorem dL_law_584 : decode cL_law 584 = .ok (.ireturn, 1) := by decide +kernel
theorem dL_law_585 : decode cL_law 585 = .ok (.aload_n 1, 1) := by decide +kernel
theorem dL_law_586 : decode cL_law 586 = .ok (.aload_n 0, 1) := by decide +kernel
theorem dL_law_587 : decode cL_law 587 = .ok (.iload_n 3, 1) := by decide +kernel
theorem dL_law_588 : decode cL_law 588 = .ok (.iconst 1, 1) := by decide +kernel
theorem dL_law_589 : decode cL_law 589 = .ok (.iadd, 1) := by decide +kernel
theorem dL_law_590 : decode cL_law 590 = .ok (.iaload, 1) := by decide +kernel
theorem dL_law_591 : decode cL_law 591 = .ok (.aload_n 0, 1) := by decide +kernel
theorem dL_law_592 : decode cL_law 592 = .ok (.iload_n 3, 1) := by decide +kernel
theorem dL_law_593 : decode cL_law 593 = .ok (.iconst 2, 1) := by decide +kernel
theorem dL_law_594 : decode cL_law 594 = .ok (.iadd, 1) := by decide +kernel
theorem dL_law_595 : decode cL_law 595 = .ok (.iaload, 1) := by decide +kernel
theorem dL_law_596 : decode cL_law 596 = .ok (.aload_n 0, 1) := by decide +kernel
theorem dL_law_597 : decode cL_law 597 = .ok (.iload_n 3, 1) := by decide +kernel
theorem dL_law_598 : decode cL_law 598 = .ok (.iconst 3, 1) := by decide +kernel
theorem dL_law_599 : decode cL_law 599 = .ok (.iadd, 1) := by decide +kernel
theorem dL_law_600 : decode cL_law 600 = .ok (.iaload, 1) := by decide +kernel
theorem dL_law_601 : decode cL_law 601 = .ok (.aload_n 0, 1) := by decide +kernel
theorem dL_law_602 : decode cL_law 602 = .ok (.iload_n 3, 1) := by decide +kernel
theorem dL_law_603 : decode cL_law 603 = .ok (.iconst 4, 1) := by decide +kernel
theorem dL_law_604 : decode cL_law 604 = .ok (.iadd, 1) := by decide +kernel
theorem dL_law_605 : decode cL_law 605 = .ok (.iaload, 1) := by decide +kernel
theorem dL_law_606 : decode cL_law 606 = .ok (.invokevirtual 70, 3) := by decide +kernel
theorem dL_law_609 : decode cL_law 609 = .ok (.aload_n 2, 1) := by decide +kernel
theorem dL_law_610 : decode cL_law 610 = .ok (.aload_n 0, 1) := by decide +kernel
theorem dL_law_611 : decode cL_law 611 = .ok (.iload_n 3, 1) := by decide +kernel
theorem dL_law_612 : decode cL_law 612 = .ok (.iconst 1, 1) := by decide +kernel
theorem dL_law_613 : decode cL_law 613 = .ok (.iadd, 1) := by decide +kernel
theorem dL_law_614 : decode cL_law 614 = .ok (.iaload, 1) := by decide +kernel
theorem dL_law_615 : decode cL_law 615 = .ok (.aload_n 0, 1) := by decide +kernel
theorem dL_law_616 : decode cL_law 616 = .ok (.iload_n 3, 1) := by decide +kernel
theorem dL_law_617 : decode cL_law 617 = .ok (.iconst 2, 1) := by decide +kernel
theorem dL_law_618 : decode cL_law 618 = .ok (.iadd, 1) := by decide +kernel
theorem dL_law_619 : decode cL_law 619 = .ok (.iaload, 1) := by decide +kernel
theorem dL_law_620 : decode cL_law 620 = .ok (.aload_n 0, 1) := by decide +kernel
theorem dL_law_621 : decode cL_law 621 = .ok (.iload_n 3, 1) := by decide +kernel
theorem dL_law_622 : decode cL_law 622 = .ok (.iconst 3, 1) := by decide +kernel
theorem dL_law_623 : decode cL_law 623 = .ok (.iadd, 1) := by decide +kernel
theorem dL_law_624 : decode cL_law 624 = .ok (.iaload, 1) := by decide +kernel
theorem dL_law_625 : decode cL_law 625 = .ok (.aload_n 0, 1) := by decide +kernel
theorem dL_law_626 : decode cL_law 626 = .ok (.iload_n 3, 1) := by decide +kernel
theorem dL_law_627 : decode cL_law 627 = .ok (.iconst 4, 1) := by decide +kernel
theorem dL_law_628 : decode cL_law 628 = .ok (.iadd, 1) := by decide +kernel
theorem dL_law_629 : decode cL_law 629 = .ok (.iaload, 1) := by decide +kernel
theorem dL_law_630 : decode cL_law 630 = .ok (.invokevirtual 73, 3) := by decide +kernel
theorem dL_law_633 : decode cL_law 633 = .ok (.if_icmp .eq 476, 3) := by decide +kernel
theorem dL_law_636 : decode cL_law 636 = .ok (.iconst 0, 1) := by decide +kernel
theorem dL_law_637 : decode cL_law 637 = .ok (.ireturn, 1) := by decide +kernel
theorem dL_law_638 : decode cL_law 638 = .ok (.aload_n 1, 1) := by decide +kernel
theorem dL_law_639 : decode cL_law 639 = .ok (.aload_n 0, 1) := by decide +kernel
theorem dL_law_640 : decode cL_law 640 = .ok (.iload_n 3, 1) := by decide +kernel
theorem dL_law_641 : decode cL_law 641 = .ok (.iconst 1, 1) := by decide +kernel
theorem dL_law_642 : decode cL_law 642 = .ok (.iadd, 1) := by decide +kernel
theorem dL_law_643 : decode cL_law 643 = .ok (.iaload, 1) := by decide +kernel
theorem dL_law_644 : decode cL_law 644 = .ok (.invokevirtual 74, 3) := by decide +kernel
theorem dL_law_647 : decode cL_law 647 = .ok (.aload_n 2, 1) := by decide +kernel
theorem dL_law_648 : decode cL_law 648 = .ok (.aload_n 0, 1) := by decide +kernel
theorem dL_law_649 : decode cL_law 649 = .ok (.iload_n 3, 1) := by decide +kernel
theorem dL_law_650 : decode cL_law 650 = .ok (.iconst 1, 1) := by decide +kernel
theorem dL_law_651 : decode cL_law 651 = .ok (.iadd, 1) := by decide +kernel
theorem dL_law_652 : decode cL_law 652 = .ok (.iaload, 1) := by decide +kernel
theorem dL_law_653 : decode cL_law 653 = .ok (.invokevirtual 77, 3) := by decide +kernel
theorem dL_law_656 : decode cL_law 656 = .ok (.if_icmp .eq 453, 3) := by decide +kernel
theorem dL_law_659 : decode cL_law 659 = .ok (.iconst 0, 1) := by decide +kernel
theorem dL_law_660 : decode cL_law 660 = .ok (.ireturn, 1) := by decide +kernel
theorem dL_law_661 : decode cL_law 661 = .ok (.aload_n 1, 1) := by decide +kernel
theorem dL_law_662 : decode cL_law 662 = .ok (.aload_n 0, 1) := by decide +kernel
theorem dL_law_663 : decode cL_law 663 = .ok (.iload_n 3, 1) := by decide +kernel
theorem dL_law_664 : decode cL_law 664 = .ok (.iconst 1, 1) := by decide +kernel
theorem dL_law_665 : decode cL_law 665 = .ok (.iadd, 1) := by decide +kernel
theorem dL_law_666 : decode cL_law 666 = .ok (.iaload, 1) := by decide +kernel
theorem dL_law_667 : decode cL_law 667 = .ok (.aload_n 0, 1) := by decide +kernel
theorem dL_law_668 : decode cL_law 668 = .ok (.iload_n 3, 1) := by decide +kernel
theorem dL_law_669 : decode cL_law 669 = .ok (.iconst 2, 1) := by decide +kernel
theorem dL_law_670 : decode cL_law 670 = .ok (.iadd, 1) := by decide +kernel
theorem dL_law_671 : decode cL_law 671 = .ok (.iaload, 1) := by decide +kernel
theorem dL_law_672 : decode cL_law 672 = .ok (.invokevirtual 78, 3) := by decide +kernel
theorem dL_law_675 : decode cL_law 675 = .ok (.aload_n 2, 1) := by decide +kernel
theorem dL_law_676 : decode cL_law 676 = .ok (.aload_n 0, 1) := by decide +kernel
theorem dL_law_677 : decode cL_law 677 = .ok (.iload_n 3, 1) := by decide +kernel
theorem dL_law_678 : decode cL_law 678 = .ok (.iconst 1, 1) := by decide +kernel
theorem dL_law_679 : decode cL_law 679 = .ok (.iadd, 1) := by decide +kernel
theorem dL_law_680 : decode cL_law 680 = .ok (.iaload, 1) := by decide +kernel
theorem dL_law_681 : decode cL_law 681 = .ok (.aload_n 0, 1) := by decide +kernel
theorem dL_law_682 : decode cL_law 682 = .ok (.iload_n 3, 1) := by decide +kernel
theorem dL_law_683 : decode cL_law 683 = .ok (.iconst 2, 1) := by decide +kernel
theorem dL_law_684 : decode cL_law 684 = .ok (.iadd, 1) := by decide +kernel
theorem dL_law_685 : decode cL_law 685 = .ok (.iaload, 1) := by decide +kernel
theorem dL_law_686 : decode cL_law 686 = .ok (.invokevirtual 81, 3) := by decide +kernel
theorem dL_law_689 : decode cL_law 689 = .ok (.if_icmp .eq 420, 3) := by decide +kernel
theorem dL_law_692 : decode cL_law 692 = .ok (.iconst 0, 1) := by decide +kernel
theorem dL_law_693 : decode cL_law 693 = .ok (.ireturn, 1) := by decide +kernel
theorem dL_law_694 : decode cL_law 694 = .ok (.aload_n 1, 1) := by decide +kernel
theorem dL_law_695 : decode cL_law 695 = .ok (.aload_n 0, 1) := by decide +kernel
theorem dL_law_696 : decode cL_law 696 = .ok (.iload_n 3, 1) := by decide +kernel
theorem dL_law_697 : decode cL_law 697 = .ok (.iconst 1, 1) := by decide +kernel
theorem dL_law_698 : decode cL_law 698 = .ok (.iadd, 1) := by decide +kernel
theorem dL_law_699 : decode cL_law 699 = .ok (.iaload, 1) := by decide +kernel
theorem dL_law_700 : decode cL_law 700 = .ok (.invokevirtual 82, 3) := by decide +kernel
theorem dL_law_703 : decode cL_law 703 = .ok (.aload_n 2, 1) := by decide +kernel
theorem dL_law_704 : decode cL_law 704 = .ok (.aload_n 0, 1) := by decide +kernel
theorem dL_law_705 : decode cL_law 705 = .ok (.iload_n 3, 1) := by decide +kernel
theorem dL_law_706 : decode cL_law 706 = .ok (.iconst 1, 1) := by decide +kernel
theorem dL_law_707 : decode cL_law 707 = .ok (.iadd, 1) := by decide +kernel
theorem dL_law_708 : decode cL_law 708 = .ok (.iaload, 1) := by decide +kernel
theorem dL_law_709 : decode cL_law 709 = .ok (.invokevirtual 85, 3) := by decide +kernel
theorem dL_law_712 : decode cL_law 712 = .ok (.if_icmp .eq 397, 3) := by decide +kernel
theorem dL_law_715 : decode cL_law 715 = .ok (.iconst 0, 1) := by decide +kernel
theorem dL_law_716 : decode cL_law 716 = .ok (.ireturn, 1) := by decide +kernel
theorem dL_law_717 : decode cL_law 717 = .ok (.aload_n 1, 1) := by decide +kernel
theorem dL_law_718 : decode cL_law 718 = .ok (.aload_n 0, 1) := by decide +kernel
theorem dL_law_719 : decode cL_law 719 = .ok (.iload_n 3, 1) := by decide +kernel
theorem dL_law_720 : decode cL_law 720 = .ok (.iconst 1, 1) := by decide +kernel
theorem dL_law_721 : decode cL_law 721 = .ok (.iadd, 1) := by decide +kernel
theorem dL_law_722 : decode cL_law 722 = .ok (.iaload, 1) := by decide +kernel
theorem dL_law_723 : decode cL_law 723 = .ok (.invokevirtual 86, 3) := by decide +kernel
theorem dL_law_726 : decode cL_law 726 = .ok (.aload_n 2, 1) := by decide +kernel
theorem dL_law_727 : decode cL_law 727 = .ok (.aload_n 0, 1) := by decide +kernel
theorem dL_law_728 : decode cL_law 728 = .ok (.iload_n 3, 1) := by decide +kernel
theorem dL_law_729 : decode cL_law 729 = .ok (.iconst 1, 1) := by decide +kernel
theorem dL_law_730 : decode cL_law 730 = .ok (.iadd, 1) := by decide +kernel
theorem dL_law_731 : decode cL_law 731 = .ok (.iaload, 1) := by decide +kernel
theorem dL_law_732 : decode cL_law 732 = .ok (.invokevirtual 89, 3) := by decide +kernel
theorem dL_law_735 : decode cL_law 735 = .ok (.if_icmp .eq 374, 3) := by decide +kernel
theorem dL_law_738 : decode cL_law 738 = .ok (.iconst 0, 1) := by decide +kernel
theorem dL_law_739 : decode cL_law 739 = .ok (.ireturn, 1) := by decide +kernel
theorem dL_law_740 : decode cL_law 740 = .ok (.aload_n 1, 1) := by decide +kernel
theorem dL_law_741 : decode cL_law 741 = .ok (.aload_n 0, 1) := by decide +kernel
theorem dL_law_742 : decode cL_law 742 = .ok (.iload_n 3, 1) := by decide +kernel
theorem dL_law_743 : decode cL_law 743 = .ok (.iconst 1, 1) := by decide +kernel
theorem dL_law_744 : decode cL_law 744 = .ok (.iadd, 1) := by decide +kernel
theorem dL_law_745 : decode cL_law 745 = .ok (.iaload, 1) := by decide +kernel
theorem dL_law_746 : decode cL_law 746 = .ok (.aload_n 0, 1) := by decide +kernel
theorem dL_law_747 : decode cL_law 747 = .ok (.iload_n 3, 1) := by decide +kernel
theorem dL_law_748 : decode cL_law 748 = .ok (.iconst 2, 1) := by decide +kernel
theorem dL_law_749 : decode cL_law 749 = .ok (.iadd, 1) := by decide +kernel
theorem dL_law_750 : decode cL_law 750 = .ok (.iaload, 1) := by decide +kernel
theorem dL_law_751 : decode cL_law 751 = .ok (.aload_n 0, 1) := by decide +kernel
theorem dL_law_752 : decode cL_law 752 = .ok (.iload_n 3, 1) := by decide +kernel
theorem dL_law_753 : decode cL_law 753 = .ok (.iconst 3, 1) := by decide +kernel
theorem dL_law_754 : decode cL_law 754 = .ok (.iadd, 1) := by decide +kernel
theorem dL_law_755 : decode cL_law 755 = .ok (.iaload, 1) := by decide +kernel
theorem dL_law_756 : decode cL_law 756 = .ok (.invokevirtual 90, 3) := by decide +kernel
theorem dL_law_759 : decode cL_law 759 = .ok (.aload_n 2, 1) := by decide +kernel
theorem dL_law_760 : decode cL_law 760 = .ok (.aload_n 0, 1) := by decide +kernel
theorem dL_law_761 : decode cL_law 761 = .ok (.iload_n 3, 1) := by decide +kernel
theorem dL_law_762 : decode cL_law 762 = .ok (.iconst 1, 1) := by decide +kernel
theorem dL_law_763 : decode cL_law 763 = .ok (.iadd, 1) := by decide +kernel
theorem dL_law_764 : decode cL_law 764 = .ok (.iaload, 1) := by decide +kernel
theorem dL_law_765 : decode cL_law 765 = .ok (.aload_n 0, 1) := by decide +kernel
theorem dL_law_766 : decode cL_law 766 = .ok (.iload_n 3, 1) := by decide +kernel
theorem dL_law_767 : decode cL_law 767 = .ok (.iconst 2, 1) := by decide +kernel
theorem dL_law_768 : decode cL_law 768 = .ok (.iadd, 1) := by decide +kernel
theorem dL_law_769 : decode cL_law 769 = .ok (.iaload, 1) := by decide +kernel
theorem dL_law_770 : decode cL_law 770 = .ok (.aload_n 0, 1) := by decide +kernel
theorem dL_law_771 : decode cL_law 771 = .ok (.iload_n 3, 1) := by decide +kernel
theorem dL_law_772 : decode cL_law 772 = .ok (.iconst 3, 1) := by decide +kernel
theorem dL_law_773 : decode cL_law 773 = .ok (.iadd, 1) := by decide +kernel
theorem dL_law_774 : decode cL_law 774 = .ok (.iaload, 1) := by decide +kernel
theorem dL_law_775 : decode cL_law 775 = .ok (.invokevirtual 93, 3) := by decide +kernel
theorem dL_law_778 : decode cL_law 778 = .ok (.if_icmp .eq 331, 3) := by decide +kernel
theorem dL_law_781 : decode cL_law 781 = .ok (.iconst 0, 1) := by decide +kernel
theorem dL_law_782 : decode cL_law 782 = .ok (.ireturn, 1) := by decide +kernel
theorem dL_law_783 : decode cL_law 783 = .ok (.aload_n 1, 1) := by decide +kernel
theorem dL_law_784 : decode cL_law 784 = .ok (.aload_n 0, 1) := by decide +kernel
theorem dL_law_785 : decode cL_law 785 = .ok (.iload_n 3, 1) := by decide +kernel
theorem dL_law_786 : decode cL_law 786 = .ok (.iconst 1, 1) := by decide +kernel
theorem dL_law_787 : decode cL_law 787 = .ok (.iadd, 1) := by decide +kernel
theorem dL_law_788 : decode cL_law 788 = .ok (.iaload, 1) := by decide +kernel
theorem dL_law_789 : decode cL_law 789 = .ok (.aload_n 0, 1) := by decide +kernel
theorem dL_law_790 : decode cL_law 790 = .ok (.iload_n 3, 1) := by decide +kernel
theorem dL_law_791 : decode cL_law 791 = .ok (.iconst 2, 1) := by decide +kernel
theorem dL_law_792 : decode cL_law 792 = .ok (.iadd, 1) := by decide +kernel
theorem dL_law_793 : decode cL_law 793 = .ok (.iaload, 1) := by decide +kernel
theorem dL_law_794 : decode cL_law 794 = .ok (.invokevirtual 94, 3) := by decide +kernel
theorem dL_law_797 : decode cL_law 797 = .ok (.aload_n 2, 1) := by decide +kernel
theorem dL_law_798 : decode cL_law 798 = .ok (.aload_n 0, 1) := by decide +kernel
theorem dL_law_799 : decode cL_law 799 = .ok (.iload_n 3, 1) := by decide +kernel
theorem dL_law_800 : decode cL_law 800 = .ok (.iconst 1, 1) := by decide +kernel
theorem dL_law_801 : decode cL_law 801 = .ok (.iadd, 1) := by decide +kernel
theorem dL_law_802 : decode cL_law 802 = .ok (.iaload, 1) := by decide +kernel
theorem dL_law_803 : decode cL_law 803 = .ok (.aload_n 0, 1) := by decide +kernel
theorem dL_law_804 : decode cL_law 804 = .ok (.iload_n 3, 1) := by decide +kernel
theorem dL_law_805 : decode cL_law 805 = .ok (.iconst 2, 1) := by decide +kernel
theorem dL_law_806 : decode cL_law 806 = .ok (.iadd, 1) := by decide +kernel
theorem dL_law_807 : decode cL_law 807 = .ok (.iaload, 1) := by decide +kernel
theorem dL_law_808 : decode cL_law 808 = .ok (.invokevirtual 97, 3) := by decide +kernel
theorem dL_law_811 : decode cL_law 811 = .ok (.if_icmp .eq 298, 3) := by decide +kernel
theorem dL_law_814 : decode cL_law 814 = .ok (.iconst 0, 1) := by decide +kernel
theorem dL_law_815 : decode cL_law 815 = .ok (.ireturn, 1) := by decide +kernel
theorem dL_law_816 : decode cL_law 816 = .ok (.aload_n 1, 1) := by decide +kernel
theorem dL_law_817 : decode cL_law 817 = .ok (.aload_n 0, 1) := by decide +kernel
theorem dL_law_818 : decode cL_law 818 = .ok (.iload_n 3, 1) := by decide +kernel
theorem dL_law_819 : decode cL_law 819 = .ok (.iconst 1, 1) := by decide +kernel
theorem dL_law_820 : decode cL_law 820 = .ok (.iadd, 1) := by decide +kernel
theorem dL_law_821 : decode cL_law 821 = .ok (.iaload, 1) := by decide +kernel
theorem dL_law_822 : decode cL_law 822 = .ok (.invokevirtual 98, 3) := by decide +kernel
theorem dL_law_825 : decode cL_law 825 = .ok (.aload_n 2, 1) := by decide +kernel
theorem dL_law_826 : decode cL_law 826 = .ok (.aload_n 0, 1) := by decide +kernel
theorem dL_law_827 : decode cL_law 827 = .ok (.iload_n 3, 1) := by decide +kernel
theorem dL_law_828 : decode cL_law 828 = .ok (.iconst 1, 1) := by decide +kernel
theorem dL_law_829 : decode cL_law 829 = .ok (.iadd, 1) := by decide +kernel
theorem dL_law_830 : decode cL_law 830 = .ok (.iaload, 1) := by decide +kernel
theorem dL_law_831 : decode cL_law 831 = .ok (.invokevirtual 101, 3) := by decide +kernel
theorem dL_law_834 : decode cL_law 834 = .ok (.if_icmp .eq 275, 3) := by decide +kernel
theorem dL_law_837 : decode cL_law 837 = .ok (.iconst 0, 1) := by decide +kernel
theorem dL_law_838 : decode cL_law 838 = .ok (.ireturn, 1) := by decide +kernel
theorem dL_law_839 : decode cL_law 839 = .ok (.aload_n 1, 1) := by decide +kernel
theorem dL_law_840 : decode cL_law 840 = .ok (.aload_n 0, 1) := by decide +kernel
theorem dL_law_841 : decode cL_law 841 = .ok (.iload_n 3, 1) := by decide +kernel
theorem dL_law_842 : decode cL_law 842 = .ok (.iconst 1, 1) := by decide +kernel
theorem dL_law_843 : decode cL_law 843 = .ok (.iadd, 1) := by decide +kernel
theorem dL_law_844 : decode cL_law 844 = .ok (.iaload, 1) := by decide +kernel
theorem dL_law_845 : decode cL_law 845 = .ok (.aload_n 0, 1) := by decide +kernel
theorem dL_law_846 : decode cL_law 846 = .ok (.iload_n 3, 1) := by decide +kernel
theorem dL_law_847 : decode cL_law 847 = .ok (.iconst 2, 1) := by decide +kernel
theorem dL_law_848 : decode cL_law 848 = .ok (.iadd, 1) := by decide +kernel
theorem dL_law_849 : decode cL_law 849 = .ok (.iaload, 1) := by decide +kernel
theorem dL_law_850 : decode cL_law 850 = .ok (.invokevirtual 102, 3) := by decide +kernel
theorem dL_law_853 : decode cL_law 853 = .ok (.aload_n 2, 1) := by decide +kernel
theorem dL_law_854 : decode cL_law 854 = .ok (.aload_n 0, 1) := by decide +kernel
theorem dL_law_855 : decode cL_law 855 = .ok (.iload_n 3, 1) := by decide +kernel
theorem dL_law_856 : decode cL_law 856 = .ok (.iconst 1, 1) := by decide +kernel
theorem dL_law_857 : decode cL_law 857 = .ok (.iadd, 1) := by decide +kernel
theorem dL_law_858 : decode cL_law 858 = .ok (.iaload, 1) := by decide +kernel
theorem dL_law_859 : decode cL_law 859 = .ok (.aload_n 0, 1) := by decide +kernel
theorem dL_law_860 : decode cL_law 860 = .ok (.iload_n 3, 1) := by decide +kernel
theorem dL_law_861 : decode cL_law 861 = .ok (.iconst 2, 1) := by decide +kernel
theorem dL_law_862 : decode cL_law 862 = .ok (.iadd, 1) := by decide +kernel
theorem dL_law_863 : decode cL_law 863 = .ok (.iaload, 1) := by decide +kernel
theorem dL_law_864 : decode cL_law 864 = .ok (.invokevirtual 105, 3) := by decide +kernel
theorem dL_law_867 : decode cL_law 867 = .ok (.if_icmp .eq 242, 3) := by decide +kernel
theorem dL_law_870 : decode cL_law 870 = .ok (.iconst 0, 1) := by decide +kernel
theorem dL_law_871 : decode cL_law 871 = .ok (.ireturn, 1) := by decide +kernel
theorem dL_law_872 : decode cL_law 872 = .ok (.aload_n 1, 1) := by decide +kernel
theorem dL_law_873 : decode cL_law 873 = .ok (.aload_n 0, 1) := by decide +kernel
theorem dL_law_874 : decode cL_law 874 = .ok (.iload_n 3, 1) := by decide +kernel
theorem dL_law_875 : decode cL_law 875 = .ok (.iconst 1, 1) := by decide +kernel
theorem dL_law_876 : decode cL_law 876 = .ok (.iadd, 1) := by decide +kernel
theorem dL_law_877 : decode cL_law 877 = .ok (.iaload, 1) := by decide +kernel
theorem dL_law_878 : decode cL_law 878 = .ok (.aload_n 0, 1) := by decide +kernel
theorem dL_law_879 : decode cL_law 879 = .ok (.iload_n 3, 1) := by decide +kernel
theorem dL_law_880 : decode cL_law 880 = .ok (.iconst 2, 1) := by decide +kernel
theorem dL_law_881 : decode cL_law 881 = .ok (.iadd, 1) := by decide +kernel
theorem dL_law_882 : decode cL_law 882 = .ok (.iaload, 1) := by decide +kernel
theorem dL_law_883 : decode cL_law 883 = .ok (.aload_n 0, 1) := by decide +kernel
theorem dL_law_884 : decode cL_law 884 = .ok (.iload_n 3, 1) := by decide +kernel
theorem dL_law_885 : decode cL_law 885 = .ok (.iconst 3, 1) := by decide +kernel
theorem dL_law_886 : decode cL_law 886 = .ok (.iadd, 1) := by decide +kernel
theorem dL_law_887 : decode cL_law 887 = .ok (.iaload, 1) := by decide +kernel
theorem dL_law_888 : decode cL_law 888 = .ok (.aload_n 0, 1) := by decide +kernel
theorem dL_law_889 : decode cL_law 889 = .ok (.iload_n 3, 1) := by decide +kernel
theorem dL_law_890 : decode cL_law 890 = .ok (.iconst 4, 1) := by decide +kernel
theorem dL_law_891 : decode cL_law 891 = .ok (.iadd, 1) := by decide +kernel
theorem dL_law_892 : decode cL_law 892 = .ok (.iaload, 1) := by decide +kernel
theorem dL_law_893 : decode cL_law 893 = .ok (.invokevirtual 106, 3) := by decide +kernel
theorem dL_law_896 : decode cL_law 896 = .ok (.aload_n 2, 1) := by decide +kernel
theorem dL_law_897 : decode cL_law 897 = .ok (.aload_n 0, 1) := by decide +kernel
theorem dL_law_898 : decode cL_law 898 = .ok (.iload_n 3, 1) := by decide +kernel
theorem dL_law_899 : decode cL_law 899 = .ok (.iconst 1, 1) := by decide +kernel
theorem dL_law_900 : decode cL_law 900 = .ok (.iadd, 1) := by decide +kernel
theorem dL_law_901 : decode cL_law 901 = .ok (.iaload, 1) := by decide +kernel
theorem dL_law_902 : decode cL_law 902 = .ok (.aload_n 0, 1) := by decide +kernel
theorem dL_law_903 : decode cL_law 903 = .ok (.iload_n 3, 1) := by decide +kernel
theorem dL_law_904 : decode cL_law 904 = .ok (.iconst 2, 1) := by decide +kernel
theorem dL_law_905 : decode cL_law 905 = .ok (.iadd, 1) := by decide +kernel
theorem dL_law_906 : decode cL_law 906 = .ok (.iaload, 1) := by decide +kernel
theorem dL_law_907 : decode cL_law 907 = .ok (.aload_n 0, 1) := by decide +kernel
theorem dL_law_908 : decode cL_law 908 = .ok (.iload_n 3, 1) := by decide +kernel
theorem dL_law_909 : decode cL_law 909 = .ok (.iconst 3, 1) := by decide +kernel
theorem dL_law_910 : decode cL_law 910 = .ok (.iadd, 1) := by decide +kernel
theorem dL_law_911 : decode cL_law 911 = .ok (.iaload, 1) := by decide +kernel
theorem dL_law_912 : decode cL_law 912 = .ok (.aload_n 0, 1) := by decide +kernel
theorem dL_law_913 : decode cL_law 913 = .ok (.iload_n 3, 1) := by decide +kernel
theorem dL_law_914 : decode cL_law 914 = .ok (.iconst 4, 1) := by decide +kernel
theorem dL_law_915 : decode cL_law 915 = .ok (.iadd, 1) := by decide +kernel
theorem dL_law_916 : decode cL_law 916 = .ok (.iaload, 1) := by decide +kernel
theorem dL_law_917 : decode cL_law 917 = .ok (.invokevirtual 109, 3) := by decide +kernel
theorem dL_law_920 : decode cL_law 920 = .ok (.if_icmp .eq 189, 3) := by decide +kernel
theorem dL_law_923 : decode cL_law 923 = .ok (.iconst 0, 1) := by decide +kernel
theorem dL_law_924 : decode cL_law 924 = .ok (.ireturn, 1) := by decide +kernel
theorem dL_law_925 : decode cL_law 925 = .ok (.aload_n 1, 1) := by decide +kernel
theorem dL_law_926 : decode cL_law 926 = .ok (.aload_n 0, 1) := by decide +kernel
theorem dL_law_927 : decode cL_law 927 = .ok (.iload_n 3, 1) := by decide +kernel
theorem dL_law_928 : decode cL_law 928 = .ok (.iconst 1, 1) := by decide +kernel
theorem dL_law_929 : decode cL_law 929 = .ok (.iadd, 1) := by decide +kernel
theorem dL_law_930 : decode cL_law 930 = .ok (.iaload, 1) := by decide +kernel
theorem dL_law_931 : decode cL_law 931 = .ok (.invokevirtual 110, 3) := by decide +kernel
theorem dL_law_934 : decode cL_law 934 = .ok (.aload_n 2, 1) := by decide +kernel
theorem dL_law_935 : decode cL_law 935 = .ok (.aload_n 0, 1) := by decide +kernel
theorem dL_law_936 : decode cL_law 936 = .ok (.iload_n 3, 1) := by decide +kernel
theorem dL_law_937 : decode cL_law 937 = .ok (.iconst 1, 1) := by decide +kernel
theorem dL_law_938 : decode cL_law 938 = .ok (.iadd, 1) := by decide +kernel
theorem dL_law_939 : decode cL_law 939 = .ok (.iaload, 1) := by decide +kernel
theorem dL_law_940 : decode cL_law 940 = .ok (.invokevirtual 113, 3) := by decide +kernel
theorem dL_law_943 : decode cL_law 943 = .ok (.if_icmp .eq 166, 3) := by decide +kernel
theorem dL_law_946 : decode cL_law 946 = .ok (.iconst 0, 1) := by decide +kernel
theorem dL_law_947 : decode cL_law 947 = .ok (.ireturn, 1) := by decide +kernel
theorem dL_law_948 : decode cL_law 948 = .ok (.aload_n 1, 1) := by decide +kernel
theorem dL_law_949 : decode cL_law 949 = .ok (.aload_n 0, 1) := by decide +kernel
theorem dL_law_950 : decode cL_law 950 = .ok (.iload_n 3, 1) := by decide +kernel
theorem dL_law_951 : decode cL_law 951 = .ok (.iconst 1, 1) := by decide +kernel
theorem dL_law_952 : decode cL_law 952 = .ok (.iadd, 1) := by decide +kernel
theorem dL_law_953 : decode cL_law 953 = .ok (.iaload, 1) := by decide +kernel
theorem dL_law_954 : decode cL_law 954 = .ok (.aload_n 0, 1) := by decide +kernel
theorem dL_law_955 : decode cL_law 955 = .ok (.iload_n 3, 1) := by decide +kernel
theorem dL_law_956 : decode cL_law 956 = .ok (.iconst 2, 1) := by decide +kernel
theorem dL_law_957 : decode cL_law 957 = .ok (.iadd, 1) := by decide +kernel
theorem dL_law_958 : decode cL_law 958 = .ok (.iaload, 1) := by decide +kernel
theorem dL_law_959 : decode cL_law 959 = .ok (.aload_n 0, 1) := by decide +kernel
theorem dL_law_960 : decode cL_law 960 = .ok (.iload_n 3, 1) := by decide +kernel
theorem dL_law_961 : decode cL_law 961 = .ok (.iconst 3, 1) := by decide +kernel
theorem dL_law_962 : decode cL_law 962 = .ok (.iadd, 1) := by decide +kernel
theorem dL_law_963 : decode cL_law 963 = .ok (.iaload, 1) := by decide +kernel
theorem dL_law_964 : decode cL_law 964 = .ok (.ifCond .eq 7, 3) := by decide +kernel
theorem dL_law_967 : decode cL_law 967 = .ok (.iconst 1, 1) := by decide +kernel
theorem dL_law_968 : decode cL_law 968 = .ok (.goto 4, 3) := by decide +kernel
theorem dL_law_971 : decode cL_law 971 = .ok (.iconst 0, 1) := by decide +kernel
theorem dL_law_972 : decode cL_law 972 = .ok (.invokevirtual 114, 3) := by decide +kernel
theorem dL_law_975 : decode cL_law 975 = .ok (.aload_n 2, 1) := by decide +kernel
theorem dL_law_976 : decode cL_law 976 = .ok (.aload_n 0, 1) := by decide +kernel
theorem dL_law_977 : decode cL_law 977 = .ok (.iload_n 3, 1) := by decide +kernel
theorem dL_law_978 : decode cL_law 978 = .ok (.iconst 1, 1) := by decide +kernel
theorem dL_law_979 : decode cL_law 979 = .ok (.iadd, 1) := by decide +kernel
theorem dL_law_980 : decode cL_law 980 = .ok (.iaload, 1) := by decide +kernel
theorem dL_law_981 : decode cL_law 981 = .ok (.aload_n 0, 1) := by decide +kernel
theorem dL_law_982 : decode cL_law 982 = .ok (.iload_n 3, 1) := by decide +kernel
theorem dL_law_983 : decode cL_law 983 = .ok (.iconst 2, 1) := by decide +kernel
theorem dL_law_984 : decode cL_law 984 = .ok (.iadd, 1) := by decide +kernel
theorem dL_law_985 : decode cL_law 985 = .ok (.iaload, 1) := by decide +kernel
theorem dL_law_986 : decode cL_law 986 = .ok (.aload_n 0, 1) := by decide +kernel
theorem dL_law_987 : decode cL_law 987 = .ok (.iload_n 3, 1) := by decide +kernel
theorem dL_law_988 : decode cL_law 988 = .ok (.iconst 3, 1) := by decide +kernel
theorem dL_law_989 : decode cL_law 989 = .ok (.iadd, 1) := by decide +kernel
theorem dL_law_990 : decode cL_law 990 = .ok (.iaload, 1) := by decide +kernel
theorem dL_law_991 : decode cL_law 991 = .ok (.ifCond .eq 7, 3) := by decide +kernel
theorem dL_law_994 : decode cL_law 994 = .ok (.iconst 1, 1) := by decide +kernel
theorem dL_law_995 : decode cL_law 995 = .ok (.goto 4, 3) := by decide +kernel
theorem dL_law_998 : decode cL_law 998 = .ok (.iconst 0, 1) := by decide +kernel
theorem dL_law_999 : decode cL_law 999 = .ok (.invokevirtual 118, 3) := by decide +kernel
theorem dL_law_1002 : decode cL_law 1002 = .ok (.if_icmp .eq 107, 3) := by decide +kernel
theorem dL_law_1005 : decode cL_law 1005 = .ok (.iconst 0, 1) := by decide +kernel
theorem dL_law_1006 : decode cL_law 1006 = .ok (.ireturn, 1) := by decide +kernel
theorem dL_law_1007 : decode cL_law 1007 = .ok (.aload_n 1, 1) := by decide +kernel
theorem dL_law_1008 : decode cL_law 1008 = .ok (.aload_n 0, 1) := by decide +kernel
theorem dL_law_1009 : decode cL_law 1009 = .ok (.iload_n 3, 1) := by decide +kernel
theorem dL_law_1010 : decode cL_law 1010 = .ok (.iconst 1, 1) := by decide +kernel
theorem dL_law_1011 : decode cL_law 1011 = .ok (.iadd, 1) := by decide +kernel
theorem dL_law_1012 : decode cL_law 1012 = .ok (.iaload, 1) := by decide +kernel
theorem dL_law_1013 : decode cL_law 1013 = .ok (.aload_n 0, 1) := by decide +kernel
theorem dL_law_1014 : decode cL_law 1014 = .ok (.iload_n 3, 1) := by decide +kernel
theorem dL_law_1015 : decode cL_law 1015 = .ok (.iconst 2, 1) := by decide +kernel
theorem dL_law_1016 : decode cL_law 1016 = .ok (.iadd, 1) := by decide +kernel
theorem dL_law_1017 : decode cL_law 1017 = .ok (.iaload, 1) := by decide +kernel
theorem dL_law_1018 : decode cL_law 1018 = .ok (.aload_n 0, 1) := by decide +kernel
theorem dL_law_1019 : decode cL_law 1019 = .ok (.iload_n 3, 1) := by decide +kernel
theorem dL_law_1020 : decode cL_law 1020 = .ok (.iconst 3, 1) := by decide +kernel
theorem dL_law_1021 : decode cL_law 1021 = .ok (.iadd, 1) := by decide +kernel
theorem dL_law_1022 : decode cL_law 1022 = .ok (.iaload, 1) := by decide +kernel
theorem dL_law_1023 : decode cL_law 1023 = .ok (.aload_n 0, 1) := by decide +kernel
theorem dL_law_1024 : decode cL_law 1024 = .ok (.iload_n 3, 1) := by decide +kernel
theorem dL_law_1025 : decode cL_law 1025 = .ok (.iconst 4, 1) := by decide +kernel
theorem dL_law_1026 : decode cL_law 1026 = .ok (.iadd, 1) := by decide +kernel
theorem dL_law_1027 : decode cL_law 1027 = .ok (.iaload, 1) := by decide +kernel
theorem dL_law_1028 : decode cL_law 1028 = .ok (.aload_n 0, 1) := by decide +kernel
theorem dL_law_1029 : decode cL_law 1029 = .ok (.iload_n 3, 1) := by decide +kernel
theorem dL_law_1030 : decode cL_law 1030 = .ok (.iconst 5, 1) := by decide +kernel
theorem dL_law_1031 : decode cL_law 1031 = .ok (.iadd, 1) := by decide +kernel
theorem dL_law_1032 : decode cL_law 1032 = .ok (.iaload, 1) := by decide +kernel
theorem dL_law_1033 : decode cL_law 1033 = .ok (.ifCond .eq 7, 3) := by decide +kernel
theorem dL_law_1036 : decode cL_law 1036 = .ok (.iconst 1, 1) := by decide +kernel
theorem dL_law_1037 : decode cL_law 1037 = .ok (.goto 4, 3) := by decide +kernel
theorem dL_law_1040 : decode cL_law 1040 = .ok (.iconst 0, 1) := by decide +kernel
theorem dL_law_1041 : decode cL_law 1041 = .ok (.invokevirtual 119, 3) := by decide +kernel
theorem dL_law_1044 : decode cL_law 1044 = .ok (.aload_n 2, 1) := by decide +kernel
theorem dL_law_1045 : decode cL_law 1045 = .ok (.aload_n 0, 1) := by decide +kernel
theorem dL_law_1046 : decode cL_law 1046 = .ok (.iload_n 3, 1) := by decide +kernel
theorem dL_law_1047 : decode cL_law 1047 = .ok (.iconst 1, 1) := by decide +kernel
theorem dL_law_1048 : decode cL_law 1048 = .ok (.iadd, 1) := by decide +kernel
theorem dL_law_1049 : decode cL_law 1049 = .ok (.iaload, 1) := by decide +kernel
theorem dL_law_1050 : decode cL_law 1050 = .ok (.aload_n 0, 1) := by decide +kernel
theorem dL_law_1051 : decode cL_law 1051 = .ok (.iload_n 3, 1) := by decide +kernel
theorem dL_law_1052 : decode cL_law 1052 = .ok (.iconst 2, 1) := by decide +kernel
theorem dL_law_1053 : decode cL_law 1053 = .ok (.iadd, 1) := by decide +kernel
theorem dL_law_1054 : decode cL_law 1054 = .ok (.iaload, 1) := by decide +kernel
theorem dL_law_1055 : decode cL_law 1055 = .ok (.aload_n 0, 1) := by decide +kernel
theorem dL_law_1056 : decode cL_law 1056 = .ok (.iload_n 3, 1) := by decide +kernel
theorem dL_law_1057 : decode cL_law 1057 = .ok (.iconst 3, 1) := by decide +kernel
theorem dL_law_1058 : decode cL_law 1058 = .ok (.iadd, 1) := by decide +kernel
theorem dL_law_1059 : decode cL_law 1059 = .ok (.iaload, 1) := by decide +kernel
theorem dL_law_1060 : decode cL_law 1060 = .ok (.aload_n 0, 1) := by decide +kernel
theorem dL_law_1061 : decode cL_law 1061 = .ok (.iload_n 3, 1) := by decide +kernel
theorem dL_law_1062 : decode cL_law 1062 = .ok (.iconst 4, 1) := by decide +kernel
theorem dL_law_1063 : decode cL_law 1063 = .ok (.iadd, 1) := by decide +kernel
theorem dL_law_1064 : decode cL_law 1064 = .ok (.iaload, 1) := by decide +kernel
theorem dL_law_1065 : decode cL_law 1065 = .ok (.aload_n 0, 1) := by decide +kernel
theorem dL_law_1066 : decode cL_law 1066 = .ok (.iload_n 3, 1) := by decide +kernel
theorem dL_law_1067 : decode cL_law 1067 = .ok (.iconst 5, 1) := by decide +kernel
theorem dL_law_1068 : decode cL_law 1068 = .ok (.iadd, 1) := by decide +kernel
theorem dL_law_1069 : decode cL_law 1069 = .ok (.iaload, 1) := by decide +kernel
theorem dL_law_1070 : decode cL_law 1070 = .ok (.ifCond .eq 7, 3) := by decide +kernel
theorem dL_law_1073 : decode cL_law 1073 = .ok (.iconst 1, 1) := by decide +kernel
theorem dL_law_1074 : decode cL_law 1074 = .ok (.goto 4, 3) := by decide +kernel
theorem dL_law_1077 : decode cL_law 1077 = .ok (.iconst 0, 1) := by decide +kernel
theorem dL_law_1078 : decode cL_law 1078 = .ok (.invokevirtual 123, 3) := by decide +kernel
theorem dL_law_1081 : decode cL_law 1081 = .ok (.if_icmp .eq 28, 3) := by decide +kernel
theorem dL_law_1084 : decode cL_law 1084 = .ok (.iconst 0, 1) := by decide +kernel
theorem dL_law_1085 : decode cL_law 1085 = .ok (.ireturn, 1) := by decide +kernel
theorem dL_law_1086 : decode cL_law 1086 = .ok (.aload_n 1, 1) := by decide +kernel
theorem dL_law_1087 : decode cL_law 1087 = .ok (.aload_n 0, 1) := by decide +kernel
theorem dL_law_1088 : decode cL_law 1088 = .ok (.iload_n 3, 1) := by decide +kernel
theorem dL_law_1089 : decode cL_law 1089 = .ok (.iconst 1, 1) := by decide +kernel
theorem dL_law_1090 : decode cL_law 1090 = .ok (.iadd, 1) := by decide +kernel
theorem dL_law_1091 : decode cL_law 1091 = .ok (.iaload, 1) := by decide +kernel
theorem dL_law_1092 : decode cL_law 1092 = .ok (.invokevirtual 124, 3) := by decide +kernel
theorem dL_law_1095 : decode cL_law 1095 = .ok (.aload_n 2, 1) := by decide +kernel
theorem dL_law_1096 : decode cL_law 1096 = .ok (.aload_n 0, 1) := by decide +kernel
theorem dL_law_1097 : decode cL_law 1097 = .ok (.iload_n 3, 1) := by decide +kernel
theorem dL_law_1098 : decode cL_law 1098 = .ok (.iconst 1, 1) := by decide +kernel
theorem dL_law_1099 : decode cL_law 1099 = .ok (.iadd, 1) := by decide +kernel
theorem dL_law_1100 : decode cL_law 1100 = .ok (.iaload, 1) := by decide +kernel
theorem dL_law_1101 : decode cL_law 1101 = .ok (.invokevirtual 127, 3) := by decide +kernel
theorem dL_law_1104 : decode cL_law 1104 = .ok (.if_icmp .eq 5, 3) := by decide +kernel
theorem dL_law_1107 : decode cL_law 1107 = .ok (.iconst 0, 1) := by decide +kernel
theorem dL_law_1108 : decode cL_law 1108 = .ok (.ireturn, 1) := by decide +kernel
theorem dL_law_1109 : decode cL_law 1109 = .ok (.iinc 3 6, 3) := by decide +kernel
theorem dL_law_1112 : decode cL_law 1112 = .ok (.goto (-1094), 3) := by decide +kernel
theorem dL_law_1115 : decode cL_law 1115 = .ok (.iconst 1, 1) := by decide +kernel
theorem dL_law_1116 : decode cL_law 1116 = .ok (.ireturn, 1) := by decide +kernel
end
section
/-! ===== the judgement of a walk: locals, stack and world as lists; rows an instruction ===== -/
abbrev WS : List Cond := wsL_law

theorem WS_in {cz : Cond} (h : cz ∈ WS) : GoodIn WS (cz :: WS) := fun w hw => by
  have hm : w ∈ WS := (List.mem_cons.mp hw).elim (fun e => e ▸ h) id
  exact ⟨hm, (wg_all w hm).2⟩
/-- the private members of nest mates -/
abbrev nw_0 : Cond := .methodLinkNest RX8 9 yX7_init "WingLooks"
abbrev nw_1 : Cond := .methodLinkNest RX8 27 yX3_init "WingLooks"
abbrev nw_2 : Cond := .methodLinkNest RX8 34 yX0_init "WingLooks"
abbrev nw_3 : Cond := .methodLinkNest RX8 41 yX1_init "WingLooks"
abbrev nw_4 : Cond := .methodLinkNest RX8 48 yX2_init "WingLooks"
abbrev nw_5 : Cond := .methodLinkNest RX8 55 yX4_init "WingLooks"
abbrev nw_6 : Cond := .methodLinkNest RX7 48 yX8_turn "WingLooks"
abbrev nw_7 : Cond := .methodLinkNest RX0 41 yX8_turn "WingLooks"
abbrev nw_8 : Cond := .methodLinkNest RX6 54 yX8_has "WingLooks"
def NW (U : State) : Prop := va_Nw nw_0 U ∧ va_Nw nw_1 U ∧ va_Nw nw_2 U ∧ va_Nw nw_3 U ∧ va_Nw nw_4 U ∧ va_Nw nw_5 U ∧ va_Nw nw_6 U ∧ va_Nw nw_7 U ∧ va_Nw nw_8 U
theorem NW.warm {s U : State} (hW : s.WarmedH U.vm) (h : NW s) : NW U := by
  obtain ⟨h0, h1, h2, h3, h4, h5, h6, h7, h8⟩ := h
  exact ⟨h0.warmM hW, h1.warmM hW, h2.warmM hW, h3.warmM hW, h4.warmM hW, h5.warmM hW, h6.warmM hW, h7.warmM hW, h8.warmM hW⟩
theorem NW.same {u U : State} (e : u.vm = U.vm) (h : NW u) : NW U := by
  obtain ⟨h0, h1, h2, h3, h4, h5, h6, h7, h8⟩ := h
  exact ⟨h0.same rfl e, h1.same rfl e, h2.same rfl e, h3.same rfl e, h4.same rfl e, h5.same rfl e, h6.same rfl e, h7.same rfl e, h8.same rfl e⟩
abbrev ED : Type := va_G × ClassId × ClassId
def EV (E : ED) (U : State) : Prop := va_K E.1 vwCl [(E.2.1, .int), (E.2.2, .boolean)] U ∧ NW U
theorem EV.warm {E : ED} {s U : State} (hW : s.WarmedH U.vm) (h : EV E s) : EV E U := ⟨va_K.moved hW.alike h.1, h.2.warm hW⟩
theorem EV.call {E : ED} {U : State} (g : JFrame) (mk : MethodId) (a : Array Value) (h : EV E U) : EV E (U.calling g mk a) := ⟨va_K.moved (u := U) (U := U.calling g mk a) (Vm.Alike.refl U.vm) h.1, h.2.same rfl⟩
/-- worlds: parts of a list -/
theorem p_l {D : va_G} {cl : List vw_C} {X Y : va_W} {H : Heap} (h : va_P D cl (X ++ Y) H) : va_P D cl X H := fun k q hq => h k q (by rw [List.getElem?_append_left (List.getElem?_eq_some_iff.mp hq).1]; exact hq)
theorem p_r {D : va_G} {cl : List vw_C} {X Y : va_W} {H : Heap} (h : va_P D cl (X ++ Y) H) : va_P D cl Y H := fun k q hq => h (X.length + k) q (by rw [List.getElem?_append_right (by omega), Nat.add_sub_cancel_left]; exact hq)
theorem d_l {A : Nat → Prop} {X Y : va_W} (h : va_D A (X ++ Y)) : va_D A X := ⟨fun i j p q hi hj e => h.1 i j p q (by rw [List.getElem?_append_left (List.getElem?_eq_some_iff.mp hi).1]; exact hi) (by rw [List.getElem?_append_left (List.getElem?_eq_some_iff.mp hj).1]; exact hj) e, fun k q hk => h.2 k q (by rw [List.getElem?_append_left (List.getElem?_eq_some_iff.mp hk).1]; exact hk)⟩
theorem d_r {A : Nat → Prop} {X Y : va_W} (h : va_D A (X ++ Y)) : va_D A Y := ⟨fun i j p q hi hj e => by
  have := h.1 (X.length + i) (X.length + j) p q (by rw [List.getElem?_append_right (by omega), Nat.add_sub_cancel_left]; exact hi) (by rw [List.getElem?_append_right (by omega), Nat.add_sub_cancel_left]; exact hj) e
  omega, fun k q hk => h.2 (X.length + k) q (by rw [List.getElem?_append_right (by omega), Nat.add_sub_cancel_left]; exact hk)⟩
theorem d_x {A : Nat → Prop} {X Y : va_W} (h : va_D A (X ++ Y)) {i j : Nat} {p q : Nat × va_E} (hi : X[i]? = some p) (hj : Y[j]? = some q) : p.1 ≠ q.1 := fun e => by
  have hl := (List.getElem?_eq_some_iff.mp hi).1
  have := h.1 i (X.length + j) p q (by rw [List.getElem?_append_left hl]; exact hi) (by rw [List.getElem?_append_right (by omega), Nat.add_sub_cancel_left]; exact hj) e
  omega
theorem p_out {D : va_G} {cl : List vw_C} {Y wi : va_W} {H H1 : Heap} (hP : va_P D cl Y H) (hx : ∀ (i j : Nat) (p q : Nat × va_E), Y[i]? = some p → wi[j]? = some q → p.1 ≠ q.1) (hk : ∀ q : Nat, q < H.size → ¬ va_A wi H.size q → H1[q]? = H[q]?) : va_P D cl Y H1 := fun k q hq => (hP k q hq).kept (hk q.1 ((hP k q hq).lt) (fun h => by
  rcases h with ⟨j, e, h⟩ | h
  · exact hx k j q (q.1, e) hq h rfl
  · exact absurd ((hP k q hq).lt) (by omega)))
theorem d_out {D : va_G} {cl : List vw_C} {Y wi w1 : va_W} {H : Heap} (hP : va_P D cl Y H) (hx : ∀ (i j : Nat) (p q : Nat × va_E), Y[i]? = some p → wi[j]? = some q → p.1 ≠ q.1) (hD1 : va_D (va_A wi H.size) w1) : ∀ (i j : Nat) (p q : Nat × va_E), Y[i]? = some p → w1[j]? = some q → p.1 ≠ q.1 := fun i j p q hi hj e => by
  rcases hD1.2 j q hj with ⟨j2, e2, h⟩ | h
  · exact hx i j2 p (q.1, e2) hi h e
  · have := (hP i p hi).lt
    omega
/-- the frame rule: a part of the world is changed by a call, the rest stays -/
theorem jn {A0 : Nat → Prop} {D : va_G} {cl : List vw_C} {X wi Y w1 : va_W} {H H1 : Heap} (hP : va_P D cl (X ++ (wi ++ Y)) H) (hD : va_D A0 (X ++ (wi ++ Y))) (hk : ∀ q : Nat, q < H.size → ¬ va_A wi H.size q → H1[q]? = H[q]?) (hF : ∀ q, va_A wi H.size q → A0 q) (hP1 : va_P D cl w1 H1) (hD1 : va_D (va_A wi H.size) w1) : va_P D cl (X ++ (w1 ++ Y)) H1 ∧ va_D A0 (X ++ (w1 ++ Y)) := by
  have pX := p_l hP
  have pY := p_r (p_r hP)
  have xX : ∀ (i j : Nat) (p q : Nat × va_E), X[i]? = some p → wi[j]? = some q → p.1 ≠ q.1 := fun i j p q hi hj => d_x hD hi (show (wi ++ Y)[j]? = some q by rw [List.getElem?_append_left (List.getElem?_eq_some_iff.mp hj).1]; exact hj)
  have xY : ∀ (i j : Nat) (p q : Nat × va_E), Y[i]? = some p → wi[j]? = some q → p.1 ≠ q.1 := fun i j p q hi hj => (d_x (d_r hD) hj hi).symm
  have hD1' : va_D A0 w1 := hD1.weaken (fun _ q _ h => hF q.1 h)
  have xXY : ∀ (i j : Nat) (p q : Nat × va_E), X[i]? = some p → Y[j]? = some q → p.1 ≠ q.1 := fun i j p q hi hj => d_x hD hi (show (wi ++ Y)[wi.length + j]? = some q by rw [List.getElem?_append_right (by omega), Nat.add_sub_cancel_left]; exact hj)
  have oX := d_out pX xX hD1
  have oY := d_out pY xY hD1
  refine ⟨(p_out pX xX hk).app (hP1.app (p_out pY xY hk)), (d_l hD).app (hD1'.app (d_r (d_r hD)) (fun i j p q hi hj => (oY j i q p hj hi).symm)) (fun i j p q hi hj => ?_)⟩
  by_cases hl : j < w1.length
  · rw [List.getElem?_append_left hl] at hj
    exact oX i j p q hi hj
  · rw [List.getElem?_append_right (by omega)] at hj
    exact xXY i _ p q hi hj
theorem fr {A0 : Nat → Prop} {X wi Y : va_W} {H0 H : Heap} {locs : List Loc} (hD : va_D A0 (X ++ (wi ++ Y))) (hS : va_S A0 H0 H locs) (hA : ∀ q, H0.size ≤ q → A0 q) : ∀ q, va_A wi H.size q → A0 q := fun q h => by
  rcases h with ⟨k, e, h⟩ | h
  · exact (d_l (d_r hD)).2 k _ h
  · exact hA q (Nat.le_trans hS.1 h)
/-- a part of a world, by its places -/
def Sub (wc ws : va_W) : Prop := ∃ is : List Nat, va_nd is = true ∧ is.map (fun i => ws[i]?) = wc.map some
theorem Sub.P {wc ws : va_W} (h : Sub wc ws) {D : va_G} {cl : List vw_C} {H : Heap} (hP : va_P D cl ws H) : va_P D cl wc H := fun k q hq => by
  obtain ⟨is, -, hs⟩ := h
  have h1 : (is.map (fun i => ws[i]?))[k]? = some (some q) := by rw [hs]; simp [hq]
  rw [List.getElem?_map] at h1
  cases h2 : is[k]? with
  | none => rw [h2] at h1; cases h1
  | some i => rw [h2] at h1; exact hP i q (Option.some.inj h1)
theorem Sub.D {wc ws : va_W} (h : Sub wc ws) {A : Nat → Prop} (hD : va_D A ws) : va_D A wc := by
  obtain ⟨is, hn, hs⟩ := h
  exact hD.sub is hn hs
theorem Sub.nil {ws : va_W} : Sub [] ws := ⟨[], rfl, rfl⟩
theorem Sub.of {wc ws : va_W} (is : List Nat) (hn : va_nd is = true) (hs : is.map (fun i => ws[i]?) = wc.map some) : Sub wc ws := ⟨is, hn, hs⟩
/-- the part in the middle, or the whole, for readers -/
def Has (wc ws : va_W) : Prop := Sub wc ws ∨ wc = ws ∨ ∃ X Y, ws = X ++ (wc ++ Y)
theorem Has.P {wc ws : va_W} (h : Has wc ws) {D : va_G} {cl : List vw_C} {H : Heap} (hP : va_P D cl ws H) : va_P D cl wc H := by
  rcases h with h | rfl | ⟨X, Y, rfl⟩
  · exact h.P hP
  · exact hP
  · exact p_l (p_r hP)
theorem Has.D {wc ws : va_W} (h : Has wc ws) {A : Nat → Prop} (hD : va_D A ws) : va_D A wc := by
  rcases h with h | rfl | ⟨X, Y, rfl⟩
  · exact h.D hD
  · exact hD
  · exact d_l (d_r hD)
theorem Has.nil {ws : va_W} : Has [] ws := Or.inl Sub.nil
theorem Has.rf {ws : va_W} : Has ws ws := Or.inr (Or.inl rfl)
theorem Has.of {wc ws : va_W} (is : List Nat) (hn : va_nd is = true) (hs : is.map (fun i => ws[i]?) = wc.map some) : Has wc ws := Or.inl ⟨is, hn, hs⟩
theorem Has.mid {wc ws : va_W} (X Y : va_W) (h : ws = X ++ (wc ++ Y)) : Has wc ws := Or.inr (Or.inr ⟨X, Y, h⟩)
/-- the judgement -/
abbrev CX := Program × Launch × Env × Room × State × MethodId × Array Value × List Frame × Method × Code × (State → Prop) × ED × Nat × (Nat → Prop) × Bool
def J (Z : CX) (cells slots : Nat) (ws : va_W) (pc : Nat) (L : List (Nat × Value)) (st : List Value) : Prop :=
  match Z with
  | (p, l, e, R, s, m, args, below, meth, c, Q, E, nL, A, md) =>
    ∀ (H : Heap) (locs : List Loc) (ls : Array Slot), va_P E.1 vwCl ws H → va_D A ws → va_S A s.heap H locs → (md = true → H = s.heap ∧ locs = []) → lv_has ls nL L → W p l e R s m args below meth c H locs cells slots Q (F0 m pc ls st)
def OK (Z : CX) (cc : ByteArray) (nL : Nat) (own : String) (R : Room) (E : ED) (md : Bool) (l : Launch) : Prop :=
  match Z with
  | (p, l', _, R', s, m, args, _, _, c, _, E', nL', A, md') =>
    CallFix p m c cc nL s args WS own ∧ EV E s ∧ (∀ q, s.heap.size ≤ q → A q) ∧ R' = R ∧ E' = E ∧ nL' = nL ∧ md' = md ∧ l' = l
def ZI (Z : CX) : Prop := match Z with
  | (_, _, _, _, _, _, _, _, meth, _, _, _, _, _, _) => meth.name = "<init>"
def bI (b : Bool) : Int32 := if b then 1 else 0
theorem bI_t : bI true = 1 := rfl
theorem bI_f : bI false = 0 := rfl
theorem bI_0 {b : Bool} : bI b = 0 ↔ b = false := by cases b <;> decide
theorem bI_n {b : Bool} : ¬ bI b = 0 ↔ b = true := by cases b <;> decide
theorem bI_z (b : Bool) : narrow .boolean (.int (bI b)) = .int (bI b) := by cases b <;> decide
theorem n_i (v : Int32) : narrow .int (.int v) = .int v := rfl
section JR
variable {Z : CX} {cc : ByteArray} {nL : Nat} {own : String} {R : Room} {E : ED} {md : Bool} {l : Launch} {cells slots pc : Nat} {ws : va_W} {L L' : List (Nat × Value)} {rest : List Value}
theorem i_iconst (B : OK Z cc nL own R E md l) {n : Int} {v : Int32} (hdg : decode cc pc = .ok (.iconst n, 1)) (hv : Int32.ofInt n = v) (k : J Z cells slots ws (pc + 1) L (.int v :: rest)) : J Z cells slots ws pc L (rest) := by
  obtain ⟨p, l', e, R', s, m, args, below, meth, c, Q, E', nL', A, md'⟩ := Z
  obtain ⟨⟨hx, hb, hml, hown, hts⟩, hE, hA, rfl, rfl, rfl, rfl, rfl⟩ := B
  intro H locs ls hP hD hS hmd hl
  exact lv_iconst hx hb hdg hv (k H locs ls hP hD hS hmd hl)
theorem i_bipush (B : OK Z cc nL own R E md l) {n : Int} {v : Int32} (hdg : decode cc pc = .ok (.bipush n, 2)) (hv : (Int8.ofInt n).toInt32 = v) (k : J Z cells slots ws (pc + 2) L (.int v :: rest)) : J Z cells slots ws pc L (rest) := by
  obtain ⟨p, l', e, R', s, m, args, below, meth, c, Q, E', nL', A, md'⟩ := Z
  obtain ⟨⟨hx, hb, hml, hown, hts⟩, hE, hA, rfl, rfl, rfl, rfl, rfl⟩ := B
  intro H locs ls hP hD hS hmd hl
  exact lv_bipush hx hb hdg hv (k H locs ls hP hD hS hmd hl)
theorem i_sipush (B : OK Z cc nL own R E md l) {n : Int} {v : Int32} (hdg : decode cc pc = .ok (.sipush n, 3)) (hv : (Int16.ofInt n).toInt32 = v) (k : J Z cells slots ws (pc + 3) L (.int v :: rest)) : J Z cells slots ws pc L (rest) := by
  obtain ⟨p, l', e, R', s, m, args, below, meth, c, Q, E', nL', A, md'⟩ := Z
  obtain ⟨⟨hx, hb, hml, hown, hts⟩, hE, hA, rfl, rfl, rfl, rfl, rfl⟩ := B
  intro H locs ls hP hD hS hmd hl
  exact lv_sipush hx hb hdg hv (k H locs ls hP hD hS hmd hl)
theorem i_lconst (B : OK Z cc nL own R E md l) {n : Fin 2} {v : Int64} (hdg : decode cc pc = .ok (.lconst n, 1)) (hv : Int64.ofNat (n : Nat) = v) (k : J Z cells slots ws (pc + 1) L (.long v :: rest)) : J Z cells slots ws pc L (rest) := by
  obtain ⟨p, l', e, R', s, m, args, below, meth, c, Q, E', nL', A, md'⟩ := Z
  obtain ⟨⟨hx, hb, hml, hown, hts⟩, hE, hA, rfl, rfl, rfl, rfl, rfl⟩ := B
  intro H locs ls hP hD hS hmd hl
  exact lv_lconst hx hb hdg hv (k H locs ls hP hD hS hmd hl)
theorem i_ldc (B : OK Z cc nL own R E md l) {ix : Nat} {v : Int32} (hc : Cond.constant own ix v ∈ WS) (hdg : decode cc pc = .ok (.ldc ix, 2)) (k : J Z cells slots ws (pc + 2) L (.int v :: rest)) : J Z cells slots ws pc L (rest) := by
  obtain ⟨p, l', e, R', s, m, args, below, meth, c, Q, E', nL', A, md'⟩ := Z
  obtain ⟨⟨hx, hb, hml, hown, hts⟩, hE, hA, rfl, rfl, rfl, rfl, rfl⟩ := B
  intro H locs ls hP hD hS hmd hl
  exact lv_ldc hx hb hown (hts _ hc) hdg (k H locs ls hP hD hS hmd hl)
theorem i_ldcw (B : OK Z cc nL own R E md l) {ix : Nat} {v : Int32} (hc : Cond.constant own ix v ∈ WS) (hdg : decode cc pc = .ok (.ldc_w ix, 3)) (k : J Z cells slots ws (pc + 3) L (.int v :: rest)) : J Z cells slots ws pc L (rest) := by
  obtain ⟨p, l', e, R', s, m, args, below, meth, c, Q, E', nL', A, md'⟩ := Z
  obtain ⟨⟨hx, hb, hml, hown, hts⟩, hE, hA, rfl, rfl, rfl, rfl, rfl⟩ := B
  intro H locs ls hP hD hS hmd hl
  exact lv_ldcw hx hb hown (hts _ hc) hdg (k H locs ls hP hD hS hmd hl)
theorem i_ldc2 (B : OK Z cc nL own R E md l) {ix : Nat} {v : Int64} (hc : Cond.constantLong own ix v ∈ WS) (hdg : decode cc pc = .ok (.ldc2_w ix, 3)) (k : J Z cells slots ws (pc + 3) L (.long v :: rest)) : J Z cells slots ws pc L (rest) := by
  obtain ⟨p, l', e, R', s, m, args, below, meth, c, Q, E', nL', A, md'⟩ := Z
  obtain ⟨⟨hx, hb, hml, hown, hts⟩, hE, hA, rfl, rfl, rfl, rfl, rfl⟩ := B
  intro H locs ls hP hD hS hmd hl
  exact lv_ldc2 hx hb hown (hts _ hc) hdg (k H locs ls hP hD hS hmd hl)
theorem i_iload_n (B : OK Z cc nL own R E md l) {j : Fin 4} {x : Int32} (n : Nat) (hdg : decode cc pc = .ok (.iload_n j, 1)) (h : L[n]? = some ((j : Nat), .int x)) (k : J Z cells slots ws (pc + 1) L (.int x :: rest)) : J Z cells slots ws pc L (rest) := by
  obtain ⟨p, l', e, R', s, m, args, below, meth, c, Q, E', nL', A, md'⟩ := Z
  obtain ⟨⟨hx, hb, hml, hown, hts⟩, hE, hA, rfl, rfl, rfl, rfl, rfl⟩ := B
  intro H locs ls hP hD hS hmd hl
  exact lv_iload_n hx hb hdg rfl (lv_at hl n h) (k H locs ls hP hD hS hmd hl)
theorem i_iload (B : OK Z cc nL own R E md l) {j : Nat} {x : Int32} (n : Nat) (hdg : decode cc pc = .ok (.iload j, 2)) (h : L[n]? = some (j, .int x)) (k : J Z cells slots ws (pc + 2) L (.int x :: rest)) : J Z cells slots ws pc L (rest) := by
  obtain ⟨p, l', e, R', s, m, args, below, meth, c, Q, E', nL', A, md'⟩ := Z
  obtain ⟨⟨hx, hb, hml, hown, hts⟩, hE, hA, rfl, rfl, rfl, rfl, rfl⟩ := B
  intro H locs ls hP hD hS hmd hl
  exact lv_iload hx hb hdg (lv_at hl n h) (k H locs ls hP hD hS hmd hl)
theorem i_istore (B : OK Z cc nL own R E md l) {j : Nat} {x : Int32} (L' : List (Nat × Value)) (hdg : decode cc pc = .ok (.istore j, 2)) (hn : j < nL) (hL : (j, Value.int x) :: L.filter (fun q => !(q.1 == j) && !(q.1 + 1 == j && q.2.category == 2)) = L') (k : J Z cells slots ws (pc + 2) L' (rest)) : J Z cells slots ws pc L (.int x :: rest) := by
  obtain ⟨p, l', e, R', s, m, args, below, meth, c, Q, E', nL', A, md'⟩ := Z
  obtain ⟨⟨hx, hb, hml, hown, hts⟩, hE, hA, rfl, rfl, rfl, rfl, rfl⟩ := B
  intro H locs ls hP hD hS hmd hl
  exact lv_istore hx hb hdg hl hn hL (fun ls hl => k H locs ls hP hD hS hmd hl)
theorem i_istore_n (B : OK Z cc nL own R E md l) {j : Fin 4} {x : Int32} (L' : List (Nat × Value)) (hdg : decode cc pc = .ok (.istore_n j, 1)) (hn : (j : Nat) < nL) (hL : ((j : Nat), Value.int x) :: L.filter (fun q => !(q.1 == (j : Nat)) && !(q.1 + 1 == (j : Nat) && q.2.category == 2)) = L') (k : J Z cells slots ws (pc + 1) L' (rest)) : J Z cells slots ws pc L (.int x :: rest) := by
  obtain ⟨p, l', e, R', s, m, args, below, meth, c, Q, E', nL', A, md'⟩ := Z
  obtain ⟨⟨hx, hb, hml, hown, hts⟩, hE, hA, rfl, rfl, rfl, rfl, rfl⟩ := B
  intro H locs ls hP hD hS hmd hl
  exact lv_istore_n hx hb hdg rfl hl hn hL (fun ls hl => k H locs ls hP hD hS hmd hl)
theorem i_lload_n (B : OK Z cc nL own R E md l) {j : Fin 4} {x : Int64} (n : Nat) (hdg : decode cc pc = .ok (.lload_n j, 1)) (h : L[n]? = some ((j : Nat), .long x)) (k : J Z cells slots ws (pc + 1) L (.long x :: rest)) : J Z cells slots ws pc L (rest) := by
  obtain ⟨p, l', e, R', s, m, args, below, meth, c, Q, E', nL', A, md'⟩ := Z
  obtain ⟨⟨hx, hb, hml, hown, hts⟩, hE, hA, rfl, rfl, rfl, rfl, rfl⟩ := B
  intro H locs ls hP hD hS hmd hl
  exact lv_lload_n hx hb hdg rfl (lv_at hl n h) (k H locs ls hP hD hS hmd hl)
theorem i_lload (B : OK Z cc nL own R E md l) {j : Nat} {x : Int64} (n : Nat) (hdg : decode cc pc = .ok (.lload j, 2)) (h : L[n]? = some (j, .long x)) (k : J Z cells slots ws (pc + 2) L (.long x :: rest)) : J Z cells slots ws pc L (rest) := by
  obtain ⟨p, l', e, R', s, m, args, below, meth, c, Q, E', nL', A, md'⟩ := Z
  obtain ⟨⟨hx, hb, hml, hown, hts⟩, hE, hA, rfl, rfl, rfl, rfl, rfl⟩ := B
  intro H locs ls hP hD hS hmd hl
  exact lv_lload hx hb hdg (lv_at hl n h) (k H locs ls hP hD hS hmd hl)
theorem i_lstore (B : OK Z cc nL own R E md l) {j : Nat} {x : Int64} (L' : List (Nat × Value)) (hdg : decode cc pc = .ok (.lstore j, 2)) (hn : j + 1 < nL) (hL : (j, Value.long x) :: L.filter (fun q => !(q.1 == j) && (!(q.1 == j + 1) && !(q.1 + 1 == j && q.2.category == 2))) = L') (k : J Z cells slots ws (pc + 2) L' (rest)) : J Z cells slots ws pc L (.long x :: rest) := by
  obtain ⟨p, l', e, R', s, m, args, below, meth, c, Q, E', nL', A, md'⟩ := Z
  obtain ⟨⟨hx, hb, hml, hown, hts⟩, hE, hA, rfl, rfl, rfl, rfl, rfl⟩ := B
  intro H locs ls hP hD hS hmd hl
  exact lv_lstore hx hb hdg hl hn hL (fun ls hl => k H locs ls hP hD hS hmd hl)
theorem i_lstore_n (B : OK Z cc nL own R E md l) {j : Fin 4} {x : Int64} (L' : List (Nat × Value)) (hdg : decode cc pc = .ok (.lstore_n j, 1)) (hn : (j : Nat) + 1 < nL) (hL : ((j : Nat), Value.long x) :: L.filter (fun q => !(q.1 == (j : Nat)) && (!(q.1 == (j : Nat) + 1) && !(q.1 + 1 == (j : Nat) && q.2.category == 2))) = L') (k : J Z cells slots ws (pc + 1) L' (rest)) : J Z cells slots ws pc L (.long x :: rest) := by
  obtain ⟨p, l', e, R', s, m, args, below, meth, c, Q, E', nL', A, md'⟩ := Z
  obtain ⟨⟨hx, hb, hml, hown, hts⟩, hE, hA, rfl, rfl, rfl, rfl, rfl⟩ := B
  intro H locs ls hP hD hS hmd hl
  exact lv_lstore_n hx hb hdg rfl hl hn hL (fun ls hl => k H locs ls hP hD hS hmd hl)
theorem i_aload_n (B : OK Z cc nL own R E md l) {j : Fin 4} {x : Nat} (n : Nat) (hdg : decode cc pc = .ok (.aload_n j, 1)) (h : L[n]? = some ((j : Nat), .ref x)) (k : J Z cells slots ws (pc + 1) L (.ref x :: rest)) : J Z cells slots ws pc L (rest) := by
  obtain ⟨p, l', e, R', s, m, args, below, meth, c, Q, E', nL', A, md'⟩ := Z
  obtain ⟨⟨hx, hb, hml, hown, hts⟩, hE, hA, rfl, rfl, rfl, rfl, rfl⟩ := B
  intro H locs ls hP hD hS hmd hl
  exact lv_aload_n hx hb hdg rfl (lv_at hl n h) (k H locs ls hP hD hS hmd hl)
theorem i_aload (B : OK Z cc nL own R E md l) {j : Nat} {x : Nat} (n : Nat) (hdg : decode cc pc = .ok (.aload j, 2)) (h : L[n]? = some (j, .ref x)) (k : J Z cells slots ws (pc + 2) L (.ref x :: rest)) : J Z cells slots ws pc L (rest) := by
  obtain ⟨p, l', e, R', s, m, args, below, meth, c, Q, E', nL', A, md'⟩ := Z
  obtain ⟨⟨hx, hb, hml, hown, hts⟩, hE, hA, rfl, rfl, rfl, rfl, rfl⟩ := B
  intro H locs ls hP hD hS hmd hl
  exact lv_aload hx hb hdg (lv_at hl n h) (k H locs ls hP hD hS hmd hl)
theorem i_astore (B : OK Z cc nL own R E md l) {j : Nat} {x : Nat} (L' : List (Nat × Value)) (hdg : decode cc pc = .ok (.astore j, 2)) (hn : j < nL) (hL : (j, Value.ref x) :: L.filter (fun q => !(q.1 == j) && !(q.1 + 1 == j && q.2.category == 2)) = L') (k : J Z cells slots ws (pc + 2) L' (rest)) : J Z cells slots ws pc L (.ref x :: rest) := by
  obtain ⟨p, l', e, R', s, m, args, below, meth, c, Q, E', nL', A, md'⟩ := Z
  obtain ⟨⟨hx, hb, hml, hown, hts⟩, hE, hA, rfl, rfl, rfl, rfl, rfl⟩ := B
  intro H locs ls hP hD hS hmd hl
  exact lv_astore hx hb hdg hl hn hL (fun ls hl => k H locs ls hP hD hS hmd hl)
theorem i_astore_n (B : OK Z cc nL own R E md l) {j : Fin 4} {x : Nat} (L' : List (Nat × Value)) (hdg : decode cc pc = .ok (.astore_n j, 1)) (hn : (j : Nat) < nL) (hL : ((j : Nat), Value.ref x) :: L.filter (fun q => !(q.1 == (j : Nat)) && !(q.1 + 1 == (j : Nat) && q.2.category == 2)) = L') (k : J Z cells slots ws (pc + 1) L' (rest)) : J Z cells slots ws pc L (.ref x :: rest) := by
  obtain ⟨p, l', e, R', s, m, args, below, meth, c, Q, E', nL', A, md'⟩ := Z
  obtain ⟨⟨hx, hb, hml, hown, hts⟩, hE, hA, rfl, rfl, rfl, rfl, rfl⟩ := B
  intro H locs ls hP hD hS hmd hl
  exact lv_astore_n hx hb hdg rfl hl hn hL (fun ls hl => k H locs ls hP hD hS hmd hl)
theorem i_iinc (B : OK Z cc nL own R E md l) {j : Nat} {d : Int} {x v : Int32} (n : Nat) (L' : List (Nat × Value)) (hdg : decode cc pc = .ok (.iinc j d, 3)) (h : L[n]? = some (j, .int x)) (hv : x + Int32.ofInt d = v) (hn : j < nL) (hL : (j, Value.int v) :: L.filter (fun q => !(q.1 == j) && !(q.1 + 1 == j && q.2.category == 2)) = L') (k : J Z cells slots ws (pc + 3) L' (rest)) : J Z cells slots ws pc L (rest) := by
  obtain ⟨p, l', e, R', s, m, args, below, meth, c, Q, E', nL', A, md'⟩ := Z
  obtain ⟨⟨hx, hb, hml, hown, hts⟩, hE, hA, rfl, rfl, rfl, rfl, rfl⟩ := B
  intro H locs ls hP hD hS hmd hl
  exact lv_iinc hx hb hdg hl h hv hn hL (fun ls hl => k H locs ls hP hD hS hmd hl)
theorem i_iadd (B : OK Z cc nL own R E md l) {x y : Int32} (hdg : decode cc pc = .ok (.iadd, 1)) (k : J Z cells slots ws (pc + 1) L (.int (x + y) :: rest)) : J Z cells slots ws pc L (.int y :: .int x :: rest) := by
  obtain ⟨p, l', e, R', s, m, args, below, meth, c, Q, E', nL', A, md'⟩ := Z
  obtain ⟨⟨hx, hb, hml, hown, hts⟩, hE, hA, rfl, rfl, rfl, rfl, rfl⟩ := B
  intro H locs ls hP hD hS hmd hl
  exact lv_iadd hx hb hdg (k H locs ls hP hD hS hmd hl)
theorem i_isub (B : OK Z cc nL own R E md l) {x y : Int32} (hdg : decode cc pc = .ok (.isub, 1)) (k : J Z cells slots ws (pc + 1) L (.int (x - y) :: rest)) : J Z cells slots ws pc L (.int y :: .int x :: rest) := by
  obtain ⟨p, l', e, R', s, m, args, below, meth, c, Q, E', nL', A, md'⟩ := Z
  obtain ⟨⟨hx, hb, hml, hown, hts⟩, hE, hA, rfl, rfl, rfl, rfl, rfl⟩ := B
  intro H locs ls hP hD hS hmd hl
  exact lv_isub hx hb hdg (k H locs ls hP hD hS hmd hl)
theorem i_imul (B : OK Z cc nL own R E md l) {x y : Int32} (hdg : decode cc pc = .ok (.imul, 1)) (k : J Z cells slots ws (pc + 1) L (.int (x * y) :: rest)) : J Z cells slots ws pc L (.int y :: .int x :: rest) := by
  obtain ⟨p, l', e, R', s, m, args, below, meth, c, Q, E', nL', A, md'⟩ := Z
  obtain ⟨⟨hx, hb, hml, hown, hts⟩, hE, hA, rfl, rfl, rfl, rfl, rfl⟩ := B
  intro H locs ls hP hD hS hmd hl
  exact lv_imul hx hb hdg (k H locs ls hP hD hS hmd hl)
theorem i_iand (B : OK Z cc nL own R E md l) {x y : Int32} (hdg : decode cc pc = .ok (.iand, 1)) (k : J Z cells slots ws (pc + 1) L (.int (x &&& y) :: rest)) : J Z cells slots ws pc L (.int y :: .int x :: rest) := by
  obtain ⟨p, l', e, R', s, m, args, below, meth, c, Q, E', nL', A, md'⟩ := Z
  obtain ⟨⟨hx, hb, hml, hown, hts⟩, hE, hA, rfl, rfl, rfl, rfl, rfl⟩ := B
  intro H locs ls hP hD hS hmd hl
  exact lv_iand hx hb hdg (k H locs ls hP hD hS hmd hl)
theorem i_ior (B : OK Z cc nL own R E md l) {x y : Int32} (hdg : decode cc pc = .ok (.ior, 1)) (k : J Z cells slots ws (pc + 1) L (.int (x ||| y) :: rest)) : J Z cells slots ws pc L (.int y :: .int x :: rest) := by
  obtain ⟨p, l', e, R', s, m, args, below, meth, c, Q, E', nL', A, md'⟩ := Z
  obtain ⟨⟨hx, hb, hml, hown, hts⟩, hE, hA, rfl, rfl, rfl, rfl, rfl⟩ := B
  intro H locs ls hP hD hS hmd hl
  exact lv_ior hx hb hdg (k H locs ls hP hD hS hmd hl)
theorem i_ixor (B : OK Z cc nL own R E md l) {x y : Int32} (hdg : decode cc pc = .ok (.ixor, 1)) (k : J Z cells slots ws (pc + 1) L (.int (x ^^^ y) :: rest)) : J Z cells slots ws pc L (.int y :: .int x :: rest) := by
  obtain ⟨p, l', e, R', s, m, args, below, meth, c, Q, E', nL', A, md'⟩ := Z
  obtain ⟨⟨hx, hb, hml, hown, hts⟩, hE, hA, rfl, rfl, rfl, rfl, rfl⟩ := B
  intro H locs ls hP hD hS hmd hl
  exact lv_ixor hx hb hdg (k H locs ls hP hD hS hmd hl)
theorem i_ladd (B : OK Z cc nL own R E md l) {x y : Int64} (hdg : decode cc pc = .ok (.ladd, 1)) (k : J Z cells slots ws (pc + 1) L (.long (x + y) :: rest)) : J Z cells slots ws pc L (.long y :: .long x :: rest) := by
  obtain ⟨p, l', e, R', s, m, args, below, meth, c, Q, E', nL', A, md'⟩ := Z
  obtain ⟨⟨hx, hb, hml, hown, hts⟩, hE, hA, rfl, rfl, rfl, rfl, rfl⟩ := B
  intro H locs ls hP hD hS hmd hl
  exact lv_ladd hx hb hdg (k H locs ls hP hD hS hmd hl)
theorem i_lsub (B : OK Z cc nL own R E md l) {x y : Int64} (hdg : decode cc pc = .ok (.lsub, 1)) (k : J Z cells slots ws (pc + 1) L (.long (x - y) :: rest)) : J Z cells slots ws pc L (.long y :: .long x :: rest) := by
  obtain ⟨p, l', e, R', s, m, args, below, meth, c, Q, E', nL', A, md'⟩ := Z
  obtain ⟨⟨hx, hb, hml, hown, hts⟩, hE, hA, rfl, rfl, rfl, rfl, rfl⟩ := B
  intro H locs ls hP hD hS hmd hl
  exact lv_lsub hx hb hdg (k H locs ls hP hD hS hmd hl)
theorem i_lmul (B : OK Z cc nL own R E md l) {x y : Int64} (hdg : decode cc pc = .ok (.lmul, 1)) (k : J Z cells slots ws (pc + 1) L (.long (x * y) :: rest)) : J Z cells slots ws pc L (.long y :: .long x :: rest) := by
  obtain ⟨p, l', e, R', s, m, args, below, meth, c, Q, E', nL', A, md'⟩ := Z
  obtain ⟨⟨hx, hb, hml, hown, hts⟩, hE, hA, rfl, rfl, rfl, rfl, rfl⟩ := B
  intro H locs ls hP hD hS hmd hl
  exact lv_lmul hx hb hdg (k H locs ls hP hD hS hmd hl)
theorem i_idiv (B : OK Z cc nL own R E md l) {x y : Int32} (hdg : decode cc pc = .ok (.idiv, 1)) (hne : ¬ y = 0) (k : J Z cells slots ws (pc + 1) L (.int (x / y) :: rest)) : J Z cells slots ws pc L (.int y :: .int x :: rest) := by
  obtain ⟨p, l', e, R', s, m, args, below, meth, c, Q, E', nL', A, md'⟩ := Z
  obtain ⟨⟨hx, hb, hml, hown, hts⟩, hE, hA, rfl, rfl, rfl, rfl, rfl⟩ := B
  intro H locs ls hP hD hS hmd hl
  exact lv_idiv hx hb hdg hne (k H locs ls hP hD hS hmd hl)
theorem i_irem (B : OK Z cc nL own R E md l) {x y : Int32} (hdg : decode cc pc = .ok (.irem, 1)) (hne : ¬ y = 0) (k : J Z cells slots ws (pc + 1) L (.int (x - x / y * y) :: rest)) : J Z cells slots ws pc L (.int y :: .int x :: rest) := by
  obtain ⟨p, l', e, R', s, m, args, below, meth, c, Q, E', nL', A, md'⟩ := Z
  obtain ⟨⟨hx, hb, hml, hown, hts⟩, hE, hA, rfl, rfl, rfl, rfl, rfl⟩ := B
  intro H locs ls hP hD hS hmd hl
  exact lv_irem hx hb hdg hne (k H locs ls hP hD hS hmd hl)
theorem i_ineg (B : OK Z cc nL own R E md l) {x : Int32} (hdg : decode cc pc = .ok (.ineg, 1)) (k : J Z cells slots ws (pc + 1) L (.int (-x) :: rest)) : J Z cells slots ws pc L (.int x :: rest) := by
  obtain ⟨p, l', e, R', s, m, args, below, meth, c, Q, E', nL', A, md'⟩ := Z
  obtain ⟨⟨hx, hb, hml, hown, hts⟩, hE, hA, rfl, rfl, rfl, rfl, rfl⟩ := B
  intro H locs ls hP hD hS hmd hl
  exact lv_ineg hx hb hdg (k H locs ls hP hD hS hmd hl)
theorem i_ishl (B : OK Z cc nL own R E md l) {x y : Int32} (hdg : decode cc pc = .ok (.ishl, 1)) (k : J Z cells slots ws (pc + 1) L (.int (x <<< (y &&& 31)) :: rest)) : J Z cells slots ws pc L (.int y :: .int x :: rest) := by
  obtain ⟨p, l', e, R', s, m, args, below, meth, c, Q, E', nL', A, md'⟩ := Z
  obtain ⟨⟨hx, hb, hml, hown, hts⟩, hE, hA, rfl, rfl, rfl, rfl, rfl⟩ := B
  intro H locs ls hP hD hS hmd hl
  exact lv_ishl hx hb hdg (k H locs ls hP hD hS hmd hl)
theorem i_ishr (B : OK Z cc nL own R E md l) {x y : Int32} (hdg : decode cc pc = .ok (.ishr, 1)) (k : J Z cells slots ws (pc + 1) L (.int (x >>> (y &&& 31)) :: rest)) : J Z cells slots ws pc L (.int y :: .int x :: rest) := by
  obtain ⟨p, l', e, R', s, m, args, below, meth, c, Q, E', nL', A, md'⟩ := Z
  obtain ⟨⟨hx, hb, hml, hown, hts⟩, hE, hA, rfl, rfl, rfl, rfl, rfl⟩ := B
  intro H locs ls hP hD hS hmd hl
  exact lv_ishr hx hb hdg (k H locs ls hP hD hS hmd hl)
theorem i_iushr (B : OK Z cc nL own R E md l) {x y v : Int32} (hdg : decode cc pc = .ok (.iushr, 1)) (hv : (x.toUInt32 >>> (y.toUInt32 &&& Int32.toUInt32 31)).toInt32 = v) (k : J Z cells slots ws (pc + 1) L (.int v :: rest)) : J Z cells slots ws pc L (.int y :: .int x :: rest) := by
  obtain ⟨p, l', e, R', s, m, args, below, meth, c, Q, E', nL', A, md'⟩ := Z
  obtain ⟨⟨hx, hb, hml, hown, hts⟩, hE, hA, rfl, rfl, rfl, rfl, rfl⟩ := B
  intro H locs ls hP hD hS hmd hl
  exact lv_iushr hx hb hdg hv (k H locs ls hP hD hS hmd hl)
theorem i_i2l (B : OK Z cc nL own R E md l) {x : Int32} (hdg : decode cc pc = .ok (.i2l, 1)) (k : J Z cells slots ws (pc + 1) L (.long x.toInt64 :: rest)) : J Z cells slots ws pc L (.int x :: rest) := by
  obtain ⟨p, l', e, R', s, m, args, below, meth, c, Q, E', nL', A, md'⟩ := Z
  obtain ⟨⟨hx, hb, hml, hown, hts⟩, hE, hA, rfl, rfl, rfl, rfl, rfl⟩ := B
  intro H locs ls hP hD hS hmd hl
  exact lv_i2l hx hb hdg rfl (k H locs ls hP hD hS hmd hl)
theorem i_dup (B : OK Z cc nL own R E md l) {va : Value} (hdg : decode cc pc = .ok (.dup, 1)) (hva : va.category = 1) (k : J Z cells slots ws (pc + 1) L (va :: va :: rest)) : J Z cells slots ws pc L (va :: rest) := by
  obtain ⟨p, l', e, R', s, m, args, below, meth, c, Q, E', nL', A, md'⟩ := Z
  obtain ⟨⟨hx, hb, hml, hown, hts⟩, hE, hA, rfl, rfl, rfl, rfl, rfl⟩ := B
  intro H locs ls hP hD hS hmd hl
  exact lv_dup hx hb hdg hva (k H locs ls hP hD hS hmd hl)
theorem i_lcmp (B : OK Z cc nL own R E md l) {x y : Int64} (hdg : decode cc pc = .ok (.lcmp, 1)) (k : J Z cells slots ws (pc + 1) L (.int (lg_cmp x y) :: rest)) : J Z cells slots ws pc L (.long y :: .long x :: rest) := by
  obtain ⟨p, l', e, R', s, m, args, below, meth, c, Q, E', nL', A, md'⟩ := Z
  obtain ⟨⟨hx, hb, hml, hown, hts⟩, hE, hA, rfl, rfl, rfl, rfl, rfl⟩ := B
  intro H locs ls hP hD hS hmd hl
  exact W.lcmp hx hb hdg (k H locs ls hP hD hS hmd hl)
theorem i_goto (B : OK Z cc nL own R E md l) {off : Int} (tgt : Nat) (hdg : decode cc pc = .ok (.goto off, 3)) (ht : (pc : Int) + off = (tgt : Int)) (k : J Z cells slots ws (tgt) L (rest)) : J Z cells slots ws pc L (rest) := by
  obtain ⟨p, l', e, R', s, m, args, below, meth, c, Q, E', nL', A, md'⟩ := Z
  obtain ⟨⟨hx, hb, hml, hown, hts⟩, hE, hA, rfl, rfl, rfl, rfl, rfl⟩ := B
  intro H locs ls hP hD hS hmd hl
  exact lv_goto hx hb hdg ht (k H locs ls hP hD hS hmd hl)
theorem i_if_eq (B : OK Z cc nL own R E md l) {x : Int32} {off : Int} (tgt : Nat) (hdg : decode cc pc = .ok (.ifCond .eq off, 3)) (ht : (pc : Int) + off = (tgt : Int)) (kt : x = 0 → J Z cells slots ws tgt L rest) (kf : ¬ x = 0 → J Z cells slots ws (pc + 3) L rest) : J Z cells slots ws pc L (.int x :: rest) := by
  obtain ⟨p, l', e, R', s, m, args, below, meth, c, Q, E', nL', A, md'⟩ := Z
  obtain ⟨⟨hx, hb, hml, hown, hts⟩, hE, hA, rfl, rfl, rfl, rfl, rfl⟩ := B
  intro H locs ls hP hD hS hmd hl
  exact lv_if_eq hx hb hdg ht (fun h => kt h H locs ls hP hD hS hmd hl) (fun h => kf h H locs ls hP hD hS hmd hl)
theorem i_if_ne (B : OK Z cc nL own R E md l) {x : Int32} {off : Int} (tgt : Nat) (hdg : decode cc pc = .ok (.ifCond .ne off, 3)) (ht : (pc : Int) + off = (tgt : Int)) (kt : ¬ x = 0 → J Z cells slots ws tgt L rest) (kf : x = 0 → J Z cells slots ws (pc + 3) L rest) : J Z cells slots ws pc L (.int x :: rest) := by
  obtain ⟨p, l', e, R', s, m, args, below, meth, c, Q, E', nL', A, md'⟩ := Z
  obtain ⟨⟨hx, hb, hml, hown, hts⟩, hE, hA, rfl, rfl, rfl, rfl, rfl⟩ := B
  intro H locs ls hP hD hS hmd hl
  exact lv_if_ne hx hb hdg ht (fun h => kt h H locs ls hP hD hS hmd hl) (fun h => kf h H locs ls hP hD hS hmd hl)
theorem i_if_lt (B : OK Z cc nL own R E md l) {x : Int32} {off : Int} (tgt : Nat) (hdg : decode cc pc = .ok (.ifCond .lt off, 3)) (ht : (pc : Int) + off = (tgt : Int)) (kt : x < 0 → J Z cells slots ws tgt L rest) (kf : ¬ x < 0 → J Z cells slots ws (pc + 3) L rest) : J Z cells slots ws pc L (.int x :: rest) := by
  obtain ⟨p, l', e, R', s, m, args, below, meth, c, Q, E', nL', A, md'⟩ := Z
  obtain ⟨⟨hx, hb, hml, hown, hts⟩, hE, hA, rfl, rfl, rfl, rfl, rfl⟩ := B
  intro H locs ls hP hD hS hmd hl
  exact lv_if_lt hx hb hdg ht (fun h => kt h H locs ls hP hD hS hmd hl) (fun h => kf h H locs ls hP hD hS hmd hl)
theorem i_if_ge (B : OK Z cc nL own R E md l) {x : Int32} {off : Int} (tgt : Nat) (hdg : decode cc pc = .ok (.ifCond .ge off, 3)) (ht : (pc : Int) + off = (tgt : Int)) (kt : 0 ≤ x → J Z cells slots ws tgt L rest) (kf : ¬ 0 ≤ x → J Z cells slots ws (pc + 3) L rest) : J Z cells slots ws pc L (.int x :: rest) := by
  obtain ⟨p, l', e, R', s, m, args, below, meth, c, Q, E', nL', A, md'⟩ := Z
  obtain ⟨⟨hx, hb, hml, hown, hts⟩, hE, hA, rfl, rfl, rfl, rfl, rfl⟩ := B
  intro H locs ls hP hD hS hmd hl
  exact lv_if_ge hx hb hdg ht (fun h => kt h H locs ls hP hD hS hmd hl) (fun h => kf h H locs ls hP hD hS hmd hl)
theorem i_if_gt (B : OK Z cc nL own R E md l) {x : Int32} {off : Int} (tgt : Nat) (hdg : decode cc pc = .ok (.ifCond .gt off, 3)) (ht : (pc : Int) + off = (tgt : Int)) (kt : 0 < x → J Z cells slots ws tgt L rest) (kf : ¬ 0 < x → J Z cells slots ws (pc + 3) L rest) : J Z cells slots ws pc L (.int x :: rest) := by
  obtain ⟨p, l', e, R', s, m, args, below, meth, c, Q, E', nL', A, md'⟩ := Z
  obtain ⟨⟨hx, hb, hml, hown, hts⟩, hE, hA, rfl, rfl, rfl, rfl, rfl⟩ := B
  intro H locs ls hP hD hS hmd hl
  exact lv_if_gt hx hb hdg ht (fun h => kt h H locs ls hP hD hS hmd hl) (fun h => kf h H locs ls hP hD hS hmd hl)
theorem i_if_le (B : OK Z cc nL own R E md l) {x : Int32} {off : Int} (tgt : Nat) (hdg : decode cc pc = .ok (.ifCond .le off, 3)) (ht : (pc : Int) + off = (tgt : Int)) (kt : x ≤ 0 → J Z cells slots ws tgt L rest) (kf : ¬ x ≤ 0 → J Z cells slots ws (pc + 3) L rest) : J Z cells slots ws pc L (.int x :: rest) := by
  obtain ⟨p, l', e, R', s, m, args, below, meth, c, Q, E', nL', A, md'⟩ := Z
  obtain ⟨⟨hx, hb, hml, hown, hts⟩, hE, hA, rfl, rfl, rfl, rfl, rfl⟩ := B
  intro H locs ls hP hD hS hmd hl
  exact lv_if_le hx hb hdg ht (fun h => kt h H locs ls hP hD hS hmd hl) (fun h => kf h H locs ls hP hD hS hmd hl)
theorem i_icmp_eq (B : OK Z cc nL own R E md l) {x y : Int32} {off : Int} (tgt : Nat) (hdg : decode cc pc = .ok (.if_icmp .eq off, 3)) (ht : (pc : Int) + off = (tgt : Int)) (kt : x = y → J Z cells slots ws tgt L rest) (kf : ¬ x = y → J Z cells slots ws (pc + 3) L rest) : J Z cells slots ws pc L (.int y :: .int x :: rest) := by
  obtain ⟨p, l', e, R', s, m, args, below, meth, c, Q, E', nL', A, md'⟩ := Z
  obtain ⟨⟨hx, hb, hml, hown, hts⟩, hE, hA, rfl, rfl, rfl, rfl, rfl⟩ := B
  intro H locs ls hP hD hS hmd hl
  exact lv_icmp_eq hx hb hdg ht (fun h => kt h H locs ls hP hD hS hmd hl) (fun h => kf h H locs ls hP hD hS hmd hl)
theorem i_icmp_ne (B : OK Z cc nL own R E md l) {x y : Int32} {off : Int} (tgt : Nat) (hdg : decode cc pc = .ok (.if_icmp .ne off, 3)) (ht : (pc : Int) + off = (tgt : Int)) (kt : ¬ x = y → J Z cells slots ws tgt L rest) (kf : x = y → J Z cells slots ws (pc + 3) L rest) : J Z cells slots ws pc L (.int y :: .int x :: rest) := by
  obtain ⟨p, l', e, R', s, m, args, below, meth, c, Q, E', nL', A, md'⟩ := Z
  obtain ⟨⟨hx, hb, hml, hown, hts⟩, hE, hA, rfl, rfl, rfl, rfl, rfl⟩ := B
  intro H locs ls hP hD hS hmd hl
  exact lv_icmp_ne hx hb hdg ht (fun h => kt h H locs ls hP hD hS hmd hl) (fun h => kf h H locs ls hP hD hS hmd hl)
theorem i_icmp_lt (B : OK Z cc nL own R E md l) {x y : Int32} {off : Int} (tgt : Nat) (hdg : decode cc pc = .ok (.if_icmp .lt off, 3)) (ht : (pc : Int) + off = (tgt : Int)) (kt : x < y → J Z cells slots ws tgt L rest) (kf : ¬ x < y → J Z cells slots ws (pc + 3) L rest) : J Z cells slots ws pc L (.int y :: .int x :: rest) := by
  obtain ⟨p, l', e, R', s, m, args, below, meth, c, Q, E', nL', A, md'⟩ := Z
  obtain ⟨⟨hx, hb, hml, hown, hts⟩, hE, hA, rfl, rfl, rfl, rfl, rfl⟩ := B
  intro H locs ls hP hD hS hmd hl
  exact lv_icmp_lt hx hb hdg ht (fun h => kt h H locs ls hP hD hS hmd hl) (fun h => kf h H locs ls hP hD hS hmd hl)
theorem i_icmp_ge (B : OK Z cc nL own R E md l) {x y : Int32} {off : Int} (tgt : Nat) (hdg : decode cc pc = .ok (.if_icmp .ge off, 3)) (ht : (pc : Int) + off = (tgt : Int)) (kt : y ≤ x → J Z cells slots ws tgt L rest) (kf : ¬ y ≤ x → J Z cells slots ws (pc + 3) L rest) : J Z cells slots ws pc L (.int y :: .int x :: rest) := by
  obtain ⟨p, l', e, R', s, m, args, below, meth, c, Q, E', nL', A, md'⟩ := Z
  obtain ⟨⟨hx, hb, hml, hown, hts⟩, hE, hA, rfl, rfl, rfl, rfl, rfl⟩ := B
  intro H locs ls hP hD hS hmd hl
  exact lv_icmp_ge hx hb hdg ht (fun h => kt h H locs ls hP hD hS hmd hl) (fun h => kf h H locs ls hP hD hS hmd hl)
theorem i_icmp_gt (B : OK Z cc nL own R E md l) {x y : Int32} {off : Int} (tgt : Nat) (hdg : decode cc pc = .ok (.if_icmp .gt off, 3)) (ht : (pc : Int) + off = (tgt : Int)) (kt : y < x → J Z cells slots ws tgt L rest) (kf : ¬ y < x → J Z cells slots ws (pc + 3) L rest) : J Z cells slots ws pc L (.int y :: .int x :: rest) := by
  obtain ⟨p, l', e, R', s, m, args, below, meth, c, Q, E', nL', A, md'⟩ := Z
  obtain ⟨⟨hx, hb, hml, hown, hts⟩, hE, hA, rfl, rfl, rfl, rfl, rfl⟩ := B
  intro H locs ls hP hD hS hmd hl
  exact lv_icmp_gt hx hb hdg ht (fun h => kt h H locs ls hP hD hS hmd hl) (fun h => kf h H locs ls hP hD hS hmd hl)
theorem i_icmp_le (B : OK Z cc nL own R E md l) {x y : Int32} {off : Int} (tgt : Nat) (hdg : decode cc pc = .ok (.if_icmp .le off, 3)) (ht : (pc : Int) + off = (tgt : Int)) (kt : x ≤ y → J Z cells slots ws tgt L rest) (kf : ¬ x ≤ y → J Z cells slots ws (pc + 3) L rest) : J Z cells slots ws pc L (.int y :: .int x :: rest) := by
  obtain ⟨p, l', e, R', s, m, args, below, meth, c, Q, E', nL', A, md'⟩ := Z
  obtain ⟨⟨hx, hb, hml, hown, hts⟩, hE, hA, rfl, rfl, rfl, rfl, rfl⟩ := B
  intro H locs ls hP hD hS hmd hl
  exact lv_icmp_le hx hb hdg ht (fun h => kt h H locs ls hP hD hS hmd hl) (fun h => kf h H locs ls hP hD hS hmd hl)
end JR
section JH
variable {Z : CX} {cc : ByteArray} {nL : Nat} {own : String} {R : Room} {E : ED} {md : Bool} {l : Launch} {cells slots pc : Nat} {ws : va_W} {L L' : List (Nat × Value)} {rest : List Value} {a : Nat}
/-- a class of the worlds: its words, its place, its types -/
def CLS (ci : Nat) (C : String) (T : u_T) (N : Nat) (ty : Nat → FieldType) : Prop := (∀ w ∈ u_ws C T N, w ∈ WS) ∧ vwCl[ci]? = some (C, T, N) ∧ (∀ k, k < N → parseFieldDescriptor (T k).2.2.1 = some (ty k)) ∧ (∀ a, a < N → ∀ b, b < N → a ≠ b → (T a).2.1 ≠ (T b).2.1)
/-- a field as an instruction of 'own' names it -/
def FL (own : String) (ix ci k : Nat) (C : String) (T : u_T) (N : Nat) (ty : Nat → FieldType) : Prop := CLS ci C T N ty ∧ k < N ∧ Cond.fieldLink own ix (T k).1 (T k).2.1 (T k).2.2.1 ∈ WS
theorem i_get (B : OK Z cc nL own R E md l) {ix ci k N : Nat} {C : String} {T : u_T} {ty : Nat → FieldType} {fs : List Value} {v : Value} (f : FL own ix ci k C T N ty) (q0 : Nat) (he : ws[q0]? = some (a, .inr (ci, fs))) (hv : fs[k]? = some v) (hdg : decode cc pc = .ok (.getfield ix, 3)) (kk : J Z cells slots ws (pc + 3) L (v :: rest)) : J Z cells slots ws pc L (.ref a :: rest) := by
  obtain ⟨p, l', e, R', s, m, args, below, meth, c, Q, E', nL', A, md'⟩ := Z
  obtain ⟨⟨hx, hb, hml, hown, hts⟩, hE, hA, rfl, rfl, rfl, rfl, rfl⟩ := B
  intro H locs ls hP hD hS hmd hl
  obtain ⟨⟨hin, hc, -, -⟩, hk, hlink⟩ := f
  exact va_get hx hb hts hin hown hE.1 hP q0 he hc k hk (hts _ hlink) (fun _ h => h) hv hdg (kk H locs ls hP hD hS hmd hl)
theorem i_put (B : OK Z cc nL own R E false l) {ix ci k N : Nat} {C : String} {T : u_T} {ty : Nat → FieldType} {fs : List Value} {v : Value} (f : FL own ix ci k C T N ty) (q0 : Nat) (ws' : va_W) (he : ws[q0]? = some (a, .inr (ci, fs))) (hfin : (T k).2.2.2 = false) (hn : narrow (ty k) v = v) (hfit : fits (ty k) v = true) (hlen : k < fs.length) (hw : ws.set q0 (a, .inr (ci, fs.set k v)) = ws') (hdg : decode cc pc = .ok (.putfield ix, 3)) (kk : J Z cells slots ws' (pc + 3) L rest) : J Z cells slots ws pc L (v :: .ref a :: rest) := by
  subst hw
  obtain ⟨p, l', e, R', s, m, args, below, meth, c, Q, E', nL', A, md'⟩ := Z
  obtain ⟨⟨hx, hb, hml, hown, hts⟩, hE, hA, rfl, rfl, rfl, rfl, rfl⟩ := B
  intro H locs ls hP hD hS hmd hl
  obtain ⟨⟨hin, hc, hty, hnm⟩, hk, hlink⟩ := f
  exact va_put hx hb hts hin ty hty hnm hown hE.1 hP hD hS q0 he hc k hk (hts _ hlink) (fun _ h => h) hfin (hty k hk) hn hfit hlen hdg (fun H1 locs1 hP hD hS => kk H1 locs1 ls hP hD hS (fun h => by cases h) hl)
theorem i_putF (B : OK Z cc nL own R E false l) (hI : ZI Z) {ix ci k N : Nat} {C : String} {T : u_T} {ty : Nat → FieldType} {fs : List Value} {v : Value} (f : FL own ix ci k C T N ty) (q0 : Nat) (ws' : va_W) (he : ws[q0]? = some (a, .inr (ci, fs))) (hfin : (T k).2.2.2 = true) (hdecl : (T k).1 = own) (hn : narrow (ty k) v = v) (hfit : fits (ty k) v = true) (hlen : k < fs.length) (hw : ws.set q0 (a, .inr (ci, fs.set k v)) = ws') (hdg : decode cc pc = .ok (.putfield ix, 3)) (kk : J Z cells slots ws' (pc + 3) L rest) : J Z cells slots ws pc L (v :: .ref a :: rest) := by
  subst hw
  obtain ⟨p, l', e, R', s, m, args, below, meth, c, Q, E', nL', A, md'⟩ := Z
  obtain ⟨⟨hx, hb, hml, hown, hts⟩, hE, hA, rfl, rfl, rfl, rfl, rfl⟩ := B
  intro H locs ls hP hD hS hmd hl
  obtain ⟨⟨hin, hc, hty, hnm⟩, hk, hlink⟩ := f
  exact va_putF hx hb hts hin ty hty hnm hown hE.1 hP hD hS q0 he hc k hk (hts _ hlink) (fun _ h => h) hfin hI hdecl (hty k hk) hn hfit hlen hdg (fun H1 locs1 hP hD hS => kk H1 locs1 ls hP hD hS (fun h => by cases h) hl)
theorem i_iald (B : OK Z cc nL own R E md l) {n : Nat} {f : Nat → Int32} {i : Int32} (q0 : Nat) (ha : ws[q0]? = some (a, .inl (E.2.1, n, .inl f))) (hin : vp_in i n) (hdg : decode cc pc = .ok (.iaload, 1)) (kk : J Z cells slots ws (pc + 1) L (.int (f i.toNatClampNeg) :: rest)) : J Z cells slots ws pc L (.int i :: .ref a :: rest) := by
  obtain ⟨p, l', e, R', s, m, args, below, meth, c, Q, E', nL', A, md'⟩ := Z
  obtain ⟨⟨hx, hb, hml, hown, hts⟩, hE, hA, rfl, rfl, rfl, rfl, rfl⟩ := B
  intro H locs ls hP hD hS hmd hl
  exact va_iald hx hb hE.1 hP q0 0 ha rfl hin hdg (kk H locs ls hP hD hS hmd hl)
theorem i_zald (B : OK Z cc nL own R E md l) {n : Nat} {f : Nat → Int32} {i : Int32} (q0 : Nat) (ha : ws[q0]? = some (a, .inl (E.2.2, n, .inl f))) (hin : vp_in i n) (hdg : decode cc pc = .ok (.baload, 1)) (kk : J Z cells slots ws (pc + 1) L (.int (f i.toNatClampNeg) :: rest)) : J Z cells slots ws pc L (.int i :: .ref a :: rest) := by
  obtain ⟨p, l', e, R', s, m, args, below, meth, c, Q, E', nL', A, md'⟩ := Z
  obtain ⟨⟨hx, hb, hml, hown, hts⟩, hE, hA, rfl, rfl, rfl, rfl, rfl⟩ := B
  intro H locs ls hP hD hS hmd hl
  exact va_zald hx hb hE.1 hP q0 1 ha rfl hin hdg (kk H locs ls hP hD hS hmd hl)
/-- an index that is a number below the length -/
theorem i_ialdN (B : OK Z cc nL own R E md l) {n : Nat} {f : Nat → Int32} {i : Int32} (q0 j : Nat) (ha : ws[q0]? = some (a, .inl (E.2.1, n, .inl f))) (hi : i = nI j) (hj : j < n) (hn : n < 2 ^ 31) (hdg : decode cc pc = .ok (.iaload, 1)) (kk : J Z cells slots ws (pc + 1) L (.int (f j) :: rest)) : J Z cells slots ws pc L (.int i :: .ref a :: rest) := by
  subst hi
  exact i_iald B q0 ha (vp_in_nI hj hn) hdg (by rw [nI_clamp (by omega)]; exact kk)
theorem i_zaldN (B : OK Z cc nL own R E md l) {n : Nat} {f : Nat → Int32} {i : Int32} (q0 j : Nat) (ha : ws[q0]? = some (a, .inl (E.2.2, n, .inl f))) (hi : i = nI j) (hj : j < n) (hn : n < 2 ^ 31) (hdg : decode cc pc = .ok (.baload, 1)) (kk : J Z cells slots ws (pc + 1) L (.int (f j) :: rest)) : J Z cells slots ws pc L (.int i :: .ref a :: rest) := by
  subst hi
  exact i_zald B q0 ha (vp_in_nI hj hn) hdg (by rw [nI_clamp (by omega)]; exact kk)
theorem i_iastN (B : OK Z cc nL own R E false l) {n : Nat} {f : Nat → Int32} {i x : Int32} (q0 j : Nat) (ws' : va_W) (ha : ws[q0]? = some (a, .inl (E.2.1, n, .inl f))) (hi : i = nI j) (hj : j < n) (hn : n < 2 ^ 31) (hw : ws.set q0 (a, .inl (E.2.1, n, .inl (upd f j x))) = ws') (hdg : decode cc pc = .ok (.iastore, 1)) (kk : J Z cells slots ws' (pc + 1) L rest) : J Z cells slots ws pc L (.int x :: .int i :: .ref a :: rest) := by
  subst hi hw
  obtain ⟨p, l', e, R', s, m, args, below, meth, c, Q, E', nL', A, md'⟩ := Z
  obtain ⟨⟨hx, hb, hml, hown, hts⟩, hE, hA, rfl, rfl, rfl, rfl, rfl⟩ := B
  intro H locs ls hP hD hS hmd hl
  exact va_iast hx hb hE.1 hP hD hS q0 0 ha rfl (vp_in_nI hj hn) hdg (fun H1 locs1 hP hD hS => by
    rw [nI_clamp (by omega)] at hP hD
    exact kk H1 locs1 ls hP hD hS (fun h => by cases h) hl)
theorem i_zastN (B : OK Z cc nL own R E false l) {n : Nat} {f : Nat → Int32} {i x : Int32} (q0 j : Nat) (ws' : va_W) (ha : ws[q0]? = some (a, .inl (E.2.2, n, .inl f))) (hi : i = nI j) (hj : j < n) (hn : n < 2 ^ 31) (hw : ws.set q0 (a, .inl (E.2.2, n, .inl (upd f j (vp_nar .boolean x)))) = ws') (hdg : decode cc pc = .ok (.bastore, 1)) (kk : J Z cells slots ws' (pc + 1) L rest) : J Z cells slots ws pc L (.int x :: .int i :: .ref a :: rest) := by
  subst hi hw
  obtain ⟨p, l', e, R', s, m, args, below, meth, c, Q, E', nL', A, md'⟩ := Z
  obtain ⟨⟨hx, hb, hml, hown, hts⟩, hE, hA, rfl, rfl, rfl, rfl, rfl⟩ := B
  intro H locs ls hP hD hS hmd hl
  exact va_zast hx hb hE.1 hP hD hS q0 1 ha rfl (vp_in_nI hj hn) hdg (fun H1 locs1 hP hD hS => by
    rw [nI_clamp (by omega)] at hP hD
    exact kk H1 locs1 ls hP hD hS (fun h => by cases h) hl)
/-- new arrays, new objects: behind the world -/
theorem i_newI (B : OK Z cc nL own R E false l) {n : Int32} (N : Nat) (hw : Cond.arrayClass .int ∈ WS) (hn : n = nI N) (hN : N < 2 ^ 24) (hcells : cells + 1 ≤ R.cells) (hslots : slots + N ≤ R.slots) (hdg : decode cc pc = .ok (.newarray .int, 2)) (kk : ∀ q : Nat, J Z (cells + 1) (slots + N) (ws ++ [(q, .inl (E.2.1, N, .inl (fun _ => 0)))]) (pc + 2) L (.ref q :: rest)) : J Z cells slots ws pc L (.int n :: rest) := by
  obtain ⟨p, l', e, R', s, m, args, below, meth, c, Q, E', nL', A, md'⟩ := Z
  obtain ⟨⟨hx, hb, hml, hown, hts⟩, hE, hA, rfl, rfl, rfl, rfl, rfl⟩ := B
  intro H locs ls hP hD hS hmd hl
  subst hn
  refine va_newa (atype := .int) (a0 := (N, .inl (fun _ => 0))) hx hb (hts _ hw) rfl hE.1 hP hD hS hA (fun cA => rfl) (nI_pos (by omega)) (nI_clamp (by omega)) (by show N * 4 ≤ 536870912; omega) hcells hslots hdg (fun q cA H1 hK hP hD hS => ?_)
  have e1 : cA = E'.2.1 := by
    have h1 := (hK.2 2 _ rfl).2
    have h2 := (hK.2 0 _ rfl).2
    exact Option.some.inj (h1.symm.trans h2)
  subst e1
  exact kk q H1 locs ls hP hD hS (fun h => by cases h) hl
theorem i_newZ (B : OK Z cc nL own R E false l) {n : Int32} (N : Nat) (hw : Cond.arrayClass .boolean ∈ WS) (hn : n = nI N) (hN : N < 2 ^ 24) (hcells : cells + 1 ≤ R.cells) (hslots : slots + N ≤ R.slots) (hdg : decode cc pc = .ok (.newarray .boolean, 2)) (kk : ∀ q : Nat, J Z (cells + 1) (slots + N) (ws ++ [(q, .inl (E.2.2, N, .inl (fun _ => 0)))]) (pc + 2) L (.ref q :: rest)) : J Z cells slots ws pc L (.int n :: rest) := by
  obtain ⟨p, l', e, R', s, m, args, below, meth, c, Q, E', nL', A, md'⟩ := Z
  obtain ⟨⟨hx, hb, hml, hown, hts⟩, hE, hA, rfl, rfl, rfl, rfl, rfl⟩ := B
  intro H locs ls hP hD hS hmd hl
  subst hn
  refine va_newa (atype := .boolean) (a0 := (N, .inl (fun _ => 0))) hx hb (hts _ hw) rfl hE.1 hP hD hS hA (fun cA => rfl) (nI_pos (by omega)) (nI_clamp (by omega)) (by show N * 1 ≤ 536870912; omega) hcells hslots hdg (fun q cA H1 hK hP hD hS => ?_)
  have e1 : cA = E'.2.2 := by
    have h1 := (hK.2 2 _ rfl).2
    have h2 := (hK.2 1 _ rfl).2
    exact Option.some.inj (h1.symm.trans h2)
  subst e1
  exact kk q H1 locs ls hP hD hS (fun h => by cases h) hl
theorem i_new (B : OK Z cc nL own R E false l) {ix ci N : Nat} {C : String} {T : u_T} {ty : Nat → FieldType} (K : CLS ci C T N ty) (fs : List Value) (h1 : Cond.classLink own ix C ∈ WS) (h2 : Cond.instantiable C N ∈ WS) (h3 : Cond.initialized C ∈ WS) (hfs : ∀ j, j < N → defaultValue (ty j) = vp_V fs j) (hcells : cells + 1 ≤ R.cells) (hslots : slots + N ≤ R.slots) (hdg : decode cc pc = .ok (.new ix, 3)) (kk : ∀ q : Nat, J Z (cells + 1) (slots + N) (ws ++ [(q, .inr (ci, fs))]) (pc + 3) L (.ref q :: rest)) : J Z cells slots ws pc L rest := by
  obtain ⟨p, l', e, R', s, m, args, below, meth, c, Q, E', nL', A, md'⟩ := Z
  obtain ⟨⟨hx, hb, hml, hown, hts⟩, hE, hA, rfl, rfl, rfl, rfl, rfl⟩ := B
  intro H locs ls hP hD hS hmd hl
  obtain ⟨hin, hc, hty, hnm⟩ := K
  exact va_new hx hb hts hin ty hty hown (hts _ h1) (hts _ h2) (hts _ h3) hE.1 hP hD hS hA hc hfs hcells hslots hdg (fun q H1 hP hD hS => kk q H1 locs ls hP hD hS (fun h => by cases h) hl)
theorem i_objInit (B : OK Z cc nL own R E md l) {ix : Nat} (h1 : Cond.methodLink own ix objectInit ∈ WS) (h2 : Cond.instanceMethod objectInit ∈ WS) (h3 : Cond.code objectInit ⟨#[0xb1]⟩ 1 none ∈ WS) (hdg : decode cc pc = .ok (.invokespecial ix, 3)) (hf : 1 ≤ R.frames) (hlo : (rest.map fun v => v.category).sum + 12 ≤ R.locals) (k : J Z cells slots ws (pc + 3) L rest) : J Z cells slots ws pc L (.ref a :: rest) := by
  obtain ⟨p, l', e, R', s, m, args, below, meth, c, Q, E', nL', A, md'⟩ := Z
  obtain ⟨⟨hx, hb, hml, hown, hts⟩, hE, hA, rfl, rfl, rfl, rfl, rfl⟩ := B
  intro H locs ls hP hD hS hmd hl
  exact W.objInit hx hb hown (hts _ h1) (hts _ h2) (hts _ h3) rfl (by rw [hml]; exact hl.1) rfl hdg hf (by show 2 * 0 + _ + 12 ≤ _; omega) (k H locs ls hP hD hS hmd hl)
theorem i_widen {k n : Nat} (h1 : cells ≤ k) (h2 : slots ≤ n) (kk : J Z k n ws pc L rest) : J Z cells slots ws pc L rest := by
  obtain ⟨p, l', e, R', s, m, args, below, meth, c, Q, E', nL', A, md'⟩ := Z
  intro H locs ls hP hD hS hmd hl
  exact W.widen h1 h2 (kk H locs ls hP hD hS hmd hl)
/-- the world written otherwise -/
theorem i_world {ws' : va_W} (h : ws = ws') (kk : J Z cells slots ws' pc L rest) : J Z cells slots ws pc L rest := h ▸ kk
theorem i_locals (is : List Nat) (hL : lv_pick L is = L') (kk : J Z cells slots ws pc L' rest) : J Z cells slots ws pc L rest := by
  obtain ⟨p, l', e, R', s, m, args, below, meth, c, Q, E', nL', A, md'⟩ := Z
  intro H locs ls hP hD hS hmd hl
  exact kk H locs ls hP hD hS hmd (lv_sub hl is hL)
theorem i_val {v v' : Value} (h : v = v') (kk : J Z cells slots ws pc L (v' :: rest)) : J Z cells slots ws pc L (v :: rest) := h ▸ kk
theorem i_ifnullN (B : OK Z cc nL own R E md l) {off : Int} (tgt : Nat) (hdg : decode cc pc = .ok (.ifnull off, 3)) (ht : (pc : Int) + off = (tgt : Int)) (k : J Z cells slots ws tgt L rest) : J Z cells slots ws pc L (.null :: rest) := by
  obtain ⟨p, l', e, R', s, m, args, below, meth, c, Q, E', nL', A, md'⟩ := Z
  obtain ⟨⟨hx, hb, hml, hown, hts⟩, hE, hA, rfl, rfl, rfl, rfl, rfl⟩ := B
  intro H locs ls hP hD hS hmd hl
  exact lv_ifnullN hx hb hdg ht (k H locs ls hP hD hS hmd hl)
theorem i_ifnull (B : OK Z cc nL own R E md l) {off : Int} {x : Nat} (hdg : decode cc pc = .ok (.ifnull off, 3)) (k : J Z cells slots ws (pc + 3) L rest) : J Z cells slots ws pc L (.ref x :: rest) := by
  obtain ⟨p, l', e, R', s, m, args, below, meth, c, Q, E', nL', A, md'⟩ := Z
  obtain ⟨⟨hx, hb, hml, hown, hts⟩, hE, hA, rfl, rfl, rfl, rfl, rfl⟩ := B
  intro H locs ls hP hD hS hmd hl
  exact lv_ifnull hx hb hdg (k H locs ls hP hD hS hmd hl)
theorem i_ifnonnullN (B : OK Z cc nL own R E md l) {off : Int} (hdg : decode cc pc = .ok (.ifnonnull off, 3)) (k : J Z cells slots ws (pc + 3) L rest) : J Z cells slots ws pc L (.null :: rest) := by
  obtain ⟨p, l', e, R', s, m, args, below, meth, c, Q, E', nL', A, md'⟩ := Z
  obtain ⟨⟨hx, hb, hml, hown, hts⟩, hE, hA, rfl, rfl, rfl, rfl, rfl⟩ := B
  intro H locs ls hP hD hS hmd hl
  exact lv_ifnonnullN hx hb hdg (k H locs ls hP hD hS hmd hl)
theorem i_ifnonnull (B : OK Z cc nL own R E md l) {off : Int} {x : Nat} (tgt : Nat) (hdg : decode cc pc = .ok (.ifnonnull off, 3)) (ht : (pc : Int) + off = (tgt : Int)) (k : J Z cells slots ws tgt L rest) : J Z cells slots ws pc L (.ref x :: rest) := by
  obtain ⟨p, l', e, R', s, m, args, below, meth, c, Q, E', nL', A, md'⟩ := Z
  obtain ⟨⟨hx, hb, hml, hown, hts⟩, hE, hA, rfl, rfl, rfl, rfl, rfl⟩ := B
  intro H locs ls hP hD hS hmd hl
  exact lv_ifnonnull hx hb hdg ht (k H locs ls hP hD hS hmd hl)
theorem i_max (B : OK Z cc nL own R E md l) {ix : Nat} {x y : Int32} (h1 : Cond.methodLink own ix Lib.Math.max.name ∈ WS) (h2 : Cond.static Lib.Math.max.name ∈ WS) (h3 : Cond.initialized "java/lang/Math" ∈ WS) (h4 : Cond.code Lib.Math.max.name Lib.Math.max.code 2 (some .int) ∈ WS) (hf : 1 ≤ R.frames) (hlo : (rest.map fun v => v.category).sum + 13 ≤ R.locals) (hc : cells ≤ R.cells ∧ slots ≤ R.slots) (hdg : decode cc pc = .ok (.invokestatic ix, 3)) (k : J Z cells slots ws (pc + 3) L (.int (if x < y then y else x) :: rest)) : J Z cells slots ws pc L (.int y :: .int x :: rest) := by
  obtain ⟨p, l', e, R', s, m, args, below, meth, c, Q, E', nL', A, md'⟩ := Z
  obtain ⟨⟨hx, hb, hml, hown, hts⟩, hE, hA, rfl, rfl, rfl, rfl, rfl⟩ := B
  intro H locs ls hP hD hS hmd hl
  exact va_mmax hx hb (by rw [hml]; exact hl.1.symm) hown (hts _ h1) (hts _ h2) (hts _ h3) (hts _ h4) hf hlo hc.1 hc.2 hdg (k H locs ls hP hD hS hmd hl)
theorem i_min (B : OK Z cc nL own R E md l) {ix : Nat} {x y : Int32} (h1 : Cond.methodLink own ix Lib.Math.min.name ∈ WS) (h2 : Cond.static Lib.Math.min.name ∈ WS) (h3 : Cond.initialized "java/lang/Math" ∈ WS) (h4 : Cond.code Lib.Math.min.name Lib.Math.min.code 2 (some .int) ∈ WS) (hf : 1 ≤ R.frames) (hlo : (rest.map fun v => v.category).sum + 13 ≤ R.locals) (hc : cells ≤ R.cells ∧ slots ≤ R.slots) (hdg : decode cc pc = .ok (.invokestatic ix, 3)) (k : J Z cells slots ws (pc + 3) L (.int (if y < x then y else x) :: rest)) : J Z cells slots ws pc L (.int y :: .int x :: rest) := by
  obtain ⟨p, l', e, R', s, m, args, below, meth, c, Q, E', nL', A, md'⟩ := Z
  obtain ⟨⟨hx, hb, hml, hown, hts⟩, hE, hA, rfl, rfl, rfl, rfl, rfl⟩ := B
  intro H locs ls hP hD hS hmd hl
  exact va_mmin hx hb (by rw [hml]; exact hl.1.symm) hown (hts _ h1) (hts _ h2) (hts _ h3) (hts _ h4) hf hlo hc.1 hc.2 hdg (k H locs ls hP hD hS hmd hl)
theorem i_abs (B : OK Z cc nL own R E md l) {ix : Nat} {x : Int32} (h1 : Cond.methodLink own ix Lib.Math.abs.name ∈ WS) (h2 : Cond.static Lib.Math.abs.name ∈ WS) (h3 : Cond.initialized "java/lang/Math" ∈ WS) (h4 : Cond.code Lib.Math.abs.name Lib.Math.abs.code 1 (some .int) ∈ WS) (hf : 1 ≤ R.frames) (hlo : (rest.map fun v => v.category).sum + 13 ≤ R.locals) (hc : cells ≤ R.cells ∧ slots ≤ R.slots) (hdg : decode cc pc = .ok (.invokestatic ix, 3)) (k : J Z cells slots ws (pc + 3) L (.int (if 0 ≤ x then x else 0 - x) :: rest)) : J Z cells slots ws pc L (.int x :: rest) := by
  obtain ⟨p, l', e, R', s, m, args, below, meth, c, Q, E', nL', A, md'⟩ := Z
  obtain ⟨⟨hx, hb, hml, hown, hts⟩, hE, hA, rfl, rfl, rfl, rfl, rfl⟩ := B
  intro H locs ls hP hD hS hmd hl
  exact va_mabs hx hb (by rw [hml]; exact hl.1.symm) hown (hts _ h1) (hts _ h2) (hts _ h3) (hts _ h4) hf hlo hc.1 hc.2 hdg (k H locs ls hP hD hS hmd hl)
end JH
section JL
variable {Z : CX} {cc : ByteArray} {nL : Nat} {own : String} {R : Room} {E : ED} {md : Bool} {l : Launch} {cells slots pc : Nat} {ws : va_W} {L L' : List (Nat × Value)} {rest : List Value}
theorem j_nameI {x : Int32} (k : ∀ y : Int32, y = x → J Z cells slots ws pc L (.int y :: rest)) : J Z cells slots ws pc L (.int x :: rest) := k x rfl
theorem j_nameL {x : Int64} (k : ∀ y : Int64, y = x → J Z cells slots ws pc L (.long y :: rest)) : J Z cells slots ws pc L (.long x :: rest) := k x rfl
theorem i_Leq (h : L = L') (kk : J Z cells slots ws pc L' rest) : J Z cells slots ws pc L rest := h ▸ kk
theorem i_st {st' : List Value} (h : rest = st') (kk : J Z cells slots ws pc L st') : J Z cells slots ws pc L rest := h ▸ kk
theorem q_lt {x y : Int64} : lg_cmp x y < 0 ↔ x < y := by
  unfold lg_cmp
  by_cases h : x > y
  · rw [if_pos h]
    refine ⟨fun q => absurd q (by decide), fun q => ?_⟩
    rw [gt_iff_lt, Int64.lt_iff_toInt_lt] at h
    rw [Int64.lt_iff_toInt_lt] at q
    omega
  · rw [if_neg h]
    by_cases e : x = y
    · rw [if_pos e]
      subst e
      exact ⟨fun q => absurd q (by decide), fun q => absurd q h⟩
    · rw [if_neg e]
      refine ⟨fun _ => ?_, fun _ => by decide⟩
      rw [gt_iff_lt, Int64.lt_iff_toInt_lt] at h
      rw [Int64.lt_iff_toInt_lt]
      have : x.toInt ≠ y.toInt := fun q => e (Int64.toInt_inj.mp q)
      omega
theorem q_gt {x y : Int64} : 0 < lg_cmp x y ↔ y < x := by
  unfold lg_cmp
  by_cases h : x > y
  · rw [if_pos h]
    exact ⟨fun _ => h, fun _ => by decide⟩
  · rw [if_neg h]
    by_cases e : x = y
    · rw [if_pos e]
      exact ⟨fun q => absurd q (by decide), fun q => absurd q h⟩
    · rw [if_neg e]
      exact ⟨fun q => absurd q (by decide), fun q => absurd q h⟩
theorem q_n32 {a b : Int32} : ¬ a < b ↔ b ≤ a := by
  rw [Int32.lt_iff_toInt_lt, Int32.le_iff_toInt_le]
  omega
theorem q_n64 {a b : Int64} : ¬ a < b ↔ b ≤ a := by
  rw [Int64.lt_iff_toInt_lt, Int64.le_iff_toInt_le]
  omega
theorem q_m32 {a b : Int32} : ¬ b ≤ a ↔ a < b := by
  rw [Int32.lt_iff_toInt_lt, Int32.le_iff_toInt_le]
  omega
theorem q_m64 {a b : Int64} : ¬ b ≤ a ↔ a < b := by
  rw [Int64.lt_iff_toInt_lt, Int64.le_iff_toInt_le]
  omega
theorem q_ge {x y : Int64} : 0 ≤ lg_cmp x y ↔ y ≤ x := by
  rw [← q_n32, ← q_n64, q_lt]
theorem q_le {x y : Int64} : lg_cmp x y ≤ 0 ↔ x ≤ y := by
  rw [← q_n32, ← q_n64, q_gt]
theorem i_lc_lt (B : OK Z cc nL own R E md l) {x y : Int64} {off : Int} (tgt : Nat) (hdg : decode cc pc = .ok (.lcmp, 1)) (hdg2 : decode cc (pc + 1) = .ok (.ifCond .lt off, 3)) (ht : ((pc + 1 : Nat) : Int) + off = (tgt : Int)) (kt : x < y → J Z cells slots ws tgt L rest) (kf : ¬ x < y → J Z cells slots ws (pc + 1 + 3) L rest) : J Z cells slots ws pc L (.long y :: .long x :: rest) :=
  i_lcmp B hdg (i_if_lt B tgt hdg2 ht (fun h => kt (q_lt.mp h)) (fun h => kf (fun q => h (q_lt.mpr q))))
theorem i_lc_gt (B : OK Z cc nL own R E md l) {x y : Int64} {off : Int} (tgt : Nat) (hdg : decode cc pc = .ok (.lcmp, 1)) (hdg2 : decode cc (pc + 1) = .ok (.ifCond .gt off, 3)) (ht : ((pc + 1 : Nat) : Int) + off = (tgt : Int)) (kt : y < x → J Z cells slots ws tgt L rest) (kf : ¬ y < x → J Z cells slots ws (pc + 1 + 3) L rest) : J Z cells slots ws pc L (.long y :: .long x :: rest) :=
  i_lcmp B hdg (i_if_gt B tgt hdg2 ht (fun h => kt (q_gt.mp h)) (fun h => kf (fun q => h (q_gt.mpr q))))
theorem i_lc_ge (B : OK Z cc nL own R E md l) {x y : Int64} {off : Int} (tgt : Nat) (hdg : decode cc pc = .ok (.lcmp, 1)) (hdg2 : decode cc (pc + 1) = .ok (.ifCond .ge off, 3)) (ht : ((pc + 1 : Nat) : Int) + off = (tgt : Int)) (kt : y ≤ x → J Z cells slots ws tgt L rest) (kf : ¬ y ≤ x → J Z cells slots ws (pc + 1 + 3) L rest) : J Z cells slots ws pc L (.long y :: .long x :: rest) :=
  i_lcmp B hdg (i_if_ge B tgt hdg2 ht (fun h => kt (q_ge.mp h)) (fun h => kf (fun q => h (q_ge.mpr q))))
theorem i_lc_le (B : OK Z cc nL own R E md l) {x y : Int64} {off : Int} (tgt : Nat) (hdg : decode cc pc = .ok (.lcmp, 1)) (hdg2 : decode cc (pc + 1) = .ok (.ifCond .le off, 3)) (ht : ((pc + 1 : Nat) : Int) + off = (tgt : Int)) (kt : x ≤ y → J Z cells slots ws tgt L rest) (kf : ¬ x ≤ y → J Z cells slots ws (pc + 1 + 3) L rest) : J Z cells slots ws pc L (.long y :: .long x :: rest) :=
  i_lcmp B hdg (i_if_le B tgt hdg2 ht (fun h => kt (q_le.mp h)) (fun h => kf (fun q => h (q_le.mpr q))))
end JL
/-! ===== contracts: readers (the heap stays), writers (a part of the world changes) ===== -/
/-- a method as a callee: its code, its class, its parameters -/
def Cal (y : MethodName) (bytes : ByteArray) (maxL : Nat) (ret : Option FieldType) (n : Nat) : Prop := Cond.code y bytes maxL ret ∈ WS ∧ Cond.initialized y.cls ∈ WS ∧ (y.cls ≠ "java/lang/invoke/MethodHandle" ∧ y.cls ≠ "java/lang/invoke/VarHandle" ∧ (parseMethodDescriptor y.desc).map (fun d => d.parameters.length) = some n)
def RO (l : Launch) (E : ED) (y : MethodName) (bytes : ByteArray) (maxL : Nat) (rt : FieldType) (F Lc : Nat) (As : List Value) (ws : va_W) (post : Int32 → Prop) : Prop := Met l y (Cond.code y bytes maxL (some rt) :: WS) { frames := F, cells := 0, slots := 0, locals := Lc } (va_Pc As (fun U => EV E U ∧ va_P E.1 vwCl ws U.heap ∧ va_D (fun _ => True) ws)) (vp_Si post) 0 0 (fun _ => False)
def WR {S : Type} (l : Launch) (E : ED) (y : MethodName) (bytes : ByteArray) (maxL : Nat) (rt : FieldType) (F Lc mc ms : Nat) (As : List Value) (wi : va_W) (post : Int32 → S → Prop) (wo : S → va_W) : Prop := ∀ sz : Nat, Met l y (Cond.code y bytes maxL (some rt) :: WS) { frames := F, cells := mc, slots := ms, locals := Lc } (va_Pc As (fun U => U.heap.size = sz ∧ EV E U ∧ va_P E.1 vwCl wi U.heap ∧ va_D (fun _ => True) wi)) (va_Qi post (fun u t => va_P E.1 vwCl (wo u) t.heap ∧ va_D (va_A wi sz) (wo u)) (va_A wi sz)) mc ms (va_A wi sz)
def WV {S : Type} (l : Launch) (E : ED) (y : MethodName) (bytes : ByteArray) (maxL : Nat) (F Lc mc ms : Nat) (As : List Value) (wi : va_W) (post : S → Prop) (wo : S → va_W) : Prop := ∀ sz : Nat, Met l y (Cond.code y bytes maxL none :: WS) { frames := F, cells := mc, slots := ms, locals := Lc } (va_Pc As (fun U => U.heap.size = sz ∧ EV E U ∧ va_P E.1 vwCl wi U.heap ∧ va_D (fun _ => True) wi)) (va_Qv post (fun u t => va_P E.1 vwCl (wo u) t.heap ∧ va_D (va_A wi sz) (wo u)) (va_A wi sz)) mc ms (va_A wi sz)
theorem FB_ro {E : ED} {As : List Value} {ws : va_W} : FrameBlind (va_Pc As (fun U => EV E U ∧ va_P E.1 vwCl ws U.heap ∧ va_D (fun _ => True) ws)) := fun a U g mk h => ⟨h.1, h.2.1.call g mk a, h.2.2.1, h.2.2.2⟩
theorem FB_wr {E : ED} {As : List Value} {ws : va_W} {sz : Nat} : FrameBlind (va_Pc As (fun U => U.heap.size = sz ∧ EV E U ∧ va_P E.1 vwCl ws U.heap ∧ va_D (fun _ => True) ws)) := fun a U g mk h => ⟨h.1, h.2.1, h.2.2.1.call g mk a, h.2.2.2.1, h.2.2.2.2⟩
theorem RO.mk {l : Launch} {E : ED} {y : MethodName} {bytes : ByteArray} {maxL : Nat} {rt : FieldType} {F Lc : Nat} {As : List Value} {ws : va_W} {post : Int32 → Prop} (hy : plainName y.cls = true) (hm : (lg_sl As).length ≤ maxL) (L0 : List (Nat × Value)) (hL0 : lv_args 0 As = L0)
    (body : ∀ Z : CX, OK Z bytes maxL y.cls { frames := F, cells := 0, slots := 0, locals := Lc } E true l → (∀ (pc : Nat) (L : List (Nat × Value)) (v : Int32), narrow rt (.int v) = .int v → decode bytes pc = .ok (.ireturn, 1) → post v → J Z 0 0 ws pc L [.int v]) → J Z 0 0 ws 0 L0 []) : RO l E y bytes maxL rt F Lc As ws post := by
  subst hL0
  refine Met.ofW (cc := bytes) (maxL := maxL) (ret := some rt) hy rfl ?_
  intro p e s m args below meth c s₁ B hml hv
  obtain ⟨rfl, hE, hP, hD⟩ := hv
  have hl := lv_entry As hm
  rw [lg_entry_eq]
  have hr := B.returns
  have hlk := B.notSynchronized
  have hts := atoms_spec (ws := Cond.code y bytes maxL (some rt) :: WS) B.pre
  have hfix : CallFix p m c bytes maxL s As.toArray WS y.cls := ⟨B.exec, B.bytes, hml, findClass_of_methodNamed B.named, fun w h => hts w (List.mem_cons_of_mem _ h)⟩
  refine body (p, l, e, _, s, m, As.toArray, below, meth, c, _, E, maxL, va_A ws s.heap.size, true) ⟨hfix, hE, fun q h => Or.inr h, rfl, rfl, rfl, rfl, rfl⟩ ?_ s.heap [] _ hP hD.self va_S.rf (fun _ => ⟨rfl, rfl⟩) hl
  intro pc L v hn hdg hpost H locs ls hP hD hS hmd hl
  obtain ⟨rfl, rfl⟩ := hmd rfl
  exact W.zret hfix.1 hfix.2.1 hr hn (fun t ht hW => ⟨v, rfl, hpost, ht⟩) (fun q h => by cases h) hdg hlk
theorem WR.mk {S : Type} {l : Launch} {E : ED} {y : MethodName} {bytes : ByteArray} {maxL : Nat} {rt : FieldType} {F Lc mc ms : Nat} {As : List Value} {wi : va_W} {post : Int32 → S → Prop} {wo : S → va_W} (hy : plainName y.cls = true) (hm : (lg_sl As).length ≤ maxL) (L0 : List (Nat × Value)) (hL0 : lv_args 0 As = L0)
    (body : ∀ Z : CX, OK Z bytes maxL y.cls { frames := F, cells := mc, slots := ms, locals := Lc } E false l → (∀ (pc : Nat) (L : List (Nat × Value)) (v : Int32) (u : S), narrow rt (.int v) = .int v → decode bytes pc = .ok (.ireturn, 1) → post v u → J Z mc ms (wo u) pc L [.int v]) → J Z 0 0 wi 0 L0 []) : WR l E y bytes maxL rt F Lc mc ms As wi post wo := by
  subst hL0
  intro sz
  refine Met.ofW (cc := bytes) (maxL := maxL) (ret := some rt) hy rfl ?_
  intro p e s m args below meth c s₁ B hml hv
  obtain ⟨rfl, rfl, hE, hP, hD⟩ := hv
  have hl := lv_entry As hm
  rw [lg_entry_eq]
  have hr := B.returns
  have hlk := B.notSynchronized
  have hts := atoms_spec (ws := Cond.code y bytes maxL (some rt) :: WS) B.pre
  have hfix : CallFix p m c bytes maxL s As.toArray WS y.cls := ⟨B.exec, B.bytes, hml, findClass_of_methodNamed B.named, fun w h => hts w (List.mem_cons_of_mem _ h)⟩
  refine body (p, l, e, _, s, m, As.toArray, below, meth, c, _, E, maxL, va_A wi s.heap.size, false) ⟨hfix, hE, fun q h => Or.inr h, rfl, rfl, rfl, rfl, rfl⟩ ?_ s.heap [] _ hP hD.self va_S.rf (fun h => by cases h) hl
  intro pc L v u hn hdg hpost H locs ls hP hD hS hmd hl
  exact W.zret hfix.1 hfix.2.1 hr hn (fun t ht hW => ⟨⟨v, u, rfl, hpost, by rw [ht]; exact hP, hD⟩, hS.F ht⟩) hS.2.2 hdg hlk
theorem WV.mk {S : Type} {l : Launch} {E : ED} {y : MethodName} {bytes : ByteArray} {maxL : Nat} {F Lc mc ms : Nat} {As : List Value} {wi : va_W} {post : S → Prop} {wo : S → va_W} (hy : plainName y.cls = true) (hm : (lg_sl As).length ≤ maxL) (L0 : List (Nat × Value)) (hL0 : lv_args 0 As = L0)
    (body : ∀ Z : CX, OK Z bytes maxL y.cls { frames := F, cells := mc, slots := ms, locals := Lc } E false l → (y.name = "<init>" → ZI Z) → (∀ (pc : Nat) (L : List (Nat × Value)) (u : S), decode bytes pc = .ok (.return_, 1) → post u → J Z mc ms (wo u) pc L []) → J Z 0 0 wi 0 L0 []) : WV l E y bytes maxL F Lc mc ms As wi post wo := by
  subst hL0
  intro sz
  refine Met.ofW (cc := bytes) (maxL := maxL) (ret := none) hy rfl ?_
  intro p e s m args below meth c s₁ B hml hv
  obtain ⟨rfl, rfl, hE, hP, hD⟩ := hv
  have hl := lv_entry As hm
  rw [lg_entry_eq]
  have hr := B.returns
  have hlk := B.notSynchronized
  have hnm : meth.name = y.name := (name_of_methodNamed B.named B.method).1
  have hts := atoms_spec (ws := Cond.code y bytes maxL none :: WS) B.pre
  have hfix : CallFix p m c bytes maxL s As.toArray WS y.cls := ⟨B.exec, B.bytes, hml, findClass_of_methodNamed B.named, fun w h => hts w (List.mem_cons_of_mem _ h)⟩
  refine body (p, l, e, _, s, m, As.toArray, below, meth, c, _, E, maxL, va_A wi s.heap.size, false) ⟨hfix, hE, fun q h => Or.inr h, rfl, rfl, rfl, rfl, rfl⟩ (fun h => hnm.trans h) ?_ s.heap [] _ hP hD.self va_S.rf (fun h => by cases h) hl
  intro pc L u hdg hpost H locs ls hP hD hS hmd hl
  exact W.vret hfix.1 hfix.2.1 hr (fun t ht hW => ⟨⟨u, rfl, hpost, by rw [ht]; exact hP, hD⟩, hS.F ht⟩) hS.2.2 hdg hlk
section JC
variable {Z : CX} {cc : ByteArray} {nL : Nat} {own : String} {R : Room} {E : ED} {md : Bool} {l : Launch} {cells slots pc : Nat} {ws : va_W} {L L' : List (Nat × Value)} {rest : List Value}
variable {y : MethodName} {bytes : ByteArray} {maxL n F Lc mc ms ix : Nat} {rt : FieldType} {As : List Value}
/-- a reader's run: the heap is as it was -/
theorem j_ro {p : Program} {e : Env} {s : State} {m : MethodId} {args : Array Value} {below : List Frame} {meth : Method} {c : Code} {H : Heap} {locs : List Loc} {Q : State → Prop} {ls : Array Slot} {st0 : List Value} {a : Array Value} {post : Int32 → Prop} (hr : va_Run p l e R s m args below meth c H locs cells slots 0 0 (F0 m pc ls st0) rest (vp_Si post a) (fun _ => False))
    (kk : ∀ r : Int32, post r → W p l e R s m args below meth c H locs cells slots Q (F0 m (pc + 3) ls (.int r :: rest))) : W p l e R s m args below meth c H locs cells slots Q (F0 m pc ls st0) := by
  intro T hT X
  obtain ⟨v, st₀, t, T', K, h0, X', hL, e1, e2, ⟨r, hv, hp, hh⟩, st⟩ := hr T hT X
  cases hv
  have hK : K = [] := List.eq_nil_iff_forall_not_mem.mpr (fun q hq => hL q hq)
  subst hK
  rw [List.append_nil] at X'
  obtain ⟨t2, a1, b1⟩ := kk r hp T' (by rw [e1, hh, h0]) X'
  exact ⟨t2, st t2 a1, b1⟩
theorem c_roS (B : OK Z cc nL own R E md l) {wc : va_W} {post : Int32 → Prop} (hM : RO l E y bytes maxL rt F Lc (As) wc post) (K : Cal y bytes maxL (some rt) n) (hst : Cond.static y ∈ WS) (hlk : Cond.methodLink own ix y ∈ WS) (hR : F + 1 ≤ R.frames ∧ 8 + (maxL + 11) + Lc ≤ R.locals) (hC : cells ≤ R.cells ∧ slots ≤ R.slots) (hn : As.length = n) (hcat : (rest.map fun v => v.category).sum ≤ 8) (hw : Has wc ws) (st : List Value) (hstk : As.reverse ++ rest = st) (hdg : decode cc pc = .ok (.invokestatic ix, 3)) (kk : ∀ r : Int32, post r → J Z cells slots ws (pc + 3) L (.int r :: rest)) : J Z cells slots ws pc L st := by
  subst hstk
  obtain ⟨p, l', e, R', s, m, args, below, meth, c, Q, E', nL', A, md'⟩ := Z
  obtain ⟨⟨hx, hb, hml, hown, hts⟩, hE, hA, rfl, rfl, rfl, rfl, rfl⟩ := B
  intro H locs ls hP hD hS hmd hl
  obtain ⟨k1, k2, k3⟩ := K
  exact j_ro (va_runS (As := As) (rest := rest) (g := F0 m pc ls _) ⟨hx, hb, hml, hown, hts⟩ hM ⟨callB_of (ws' := WS) n hts (WS_in k1) rfl rfl rfl (hts _ k2) (hts _ hlk) k3 hR, hts _ hst⟩ ⟨FB_ro, fun U hU hW => ⟨rfl, hE.warm hW, by rw [hU]; exact hw.P hP, (hw.D hD).weaken (fun _ _ _ _ => trivial)⟩⟩ rfl hn hl.1 rfl (by show 2 * 0 + _ ≤ 8; omega) hdg hC) (fun r h => kk r h H locs ls hP hD hS hmd hl)
theorem c_roV (B : OK Z cc nL own R E md l) {b : Nat} {wc : va_W} {post : Int32 → Prop} (hM : RO l E y bytes maxL rt F Lc (.ref b :: As) wc post) (K : Cal y bytes maxL (some rt) n) (hst : Cond.instanceMethod y ∈ WS ∧ Cond.selects y.cls y y ∈ WS) (hlk : Cond.methodLink own ix y ∈ WS) {ci N : Nat} {T : u_T} {fs : List Value} (hc : vwCl[ci]? = some (y.cls, T, N)) (q0 : Nat) (he : ws[q0]? = some (b, .inr (ci, fs))) (hR : F + 1 ≤ R.frames ∧ 8 + (maxL + 11) + Lc ≤ R.locals) (hC : cells ≤ R.cells ∧ slots ≤ R.slots) (hn : As.length = n) (hcat : (rest.map fun v => v.category).sum ≤ 8) (hw : Has wc ws) (st : List Value) (hstk : As.reverse ++ .ref b :: rest = st) (hdg : decode cc pc = .ok (.invokevirtual ix, 3)) (kk : ∀ r : Int32, post r → J Z cells slots ws (pc + 3) L (.int r :: rest)) : J Z cells slots ws pc L st := by
  subst hstk
  obtain ⟨p, l', e, R', s, m, args, below, meth, c, Q, E', nL', A, md'⟩ := Z
  obtain ⟨⟨hx, hb, hml, hown, hts⟩, hE, hA, rfl, rfl, rfl, rfl, rfl⟩ := B
  intro H locs ls hP hD hS hmd hl
  obtain ⟨k1, k2, k3⟩ := K
  exact j_ro (va_runV (As := As) (rest := rest) (b := b) (C := y.cls) (g := F0 m pc ls _) ⟨hx, hb, hml, hown, hts⟩ hM ⟨callB_of (ws' := WS) n hts (WS_in k1) rfl rfl rfl (hts _ k2) (hts _ hlk) k3 hR, hts _ hst.1, hts _ hst.2⟩ ⟨FB_ro, va_recv hE.1 hP hc he, fun U hU hW => ⟨rfl, hE.warm hW, by rw [hU]; exact hw.P hP, (hw.D hD).weaken (fun _ _ _ _ => trivial)⟩⟩ rfl hn hl.1 rfl (by show 2 * 0 + _ ≤ 8; omega) hdg hC) (fun r h => kk r h H locs ls hP hD hS hmd hl)
theorem c_roSN (B : OK Z cc nL own R E md l) {wc : va_W} {post : Int32 → Prop} (hM : RO l E y bytes maxL rt F Lc (As) wc post) (K : Cal y bytes maxL (some rt) n) (hst : Cond.static y ∈ WS) {host : String} (hlk : ∀ U : State, NW U → va_Nw (.methodLinkNest own ix y host) U) (hR : F + 1 ≤ R.frames ∧ 8 + (maxL + 11) + Lc ≤ R.locals) (hC : cells ≤ R.cells ∧ slots ≤ R.slots) (hn : As.length = n) (hcat : (rest.map fun v => v.category).sum ≤ 8) (hw : Has wc ws) (st : List Value) (hstk : As.reverse ++ rest = st) (hdg : decode cc pc = .ok (.invokestatic ix, 3)) (kk : ∀ r : Int32, post r → J Z cells slots ws (pc + 3) L (.int r :: rest)) : J Z cells slots ws pc L st := by
  subst hstk
  obtain ⟨p, l', e, R', s, m, args, below, meth, c, Q, E', nL', A, md'⟩ := Z
  obtain ⟨⟨hx, hb, hml, hown, hts⟩, hE, hA, rfl, rfl, rfl, rfl, rfl⟩ := B
  intro H locs ls hP hD hS hmd hl
  obtain ⟨k1, k2, k3⟩ := K
  exact j_ro (va_runSN (As := As) (rest := rest) (g := F0 m pc ls _) ⟨hx, hb, hml, hown, hts⟩ hM ⟨va_cnB (ws' := WS) n hts (WS_in k1) rfl rfl rfl (hlk s hE.2) (hts _ k2) k3 hR, hts _ hst, trivial⟩ ⟨FB_ro, fun U hU hW => ⟨rfl, hE.warm hW, by rw [hU]; exact hw.P hP, (hw.D hD).weaken (fun _ _ _ _ => trivial)⟩⟩ rfl hn hl.1 rfl (by show 2 * 0 + _ ≤ 8; omega) hdg hC) (fun r h => kk r h H locs ls hP hD hS hmd hl)
theorem c_wiV (B : OK Z cc nL own R E false l) {b : Nat} {S : Type} {wi : va_W} {post : Int32 → S → Prop} {wo : S → va_W} (hM : WR l E y bytes maxL rt F Lc mc ms (.ref b :: As) wi post wo) (K : Cal y bytes maxL (some rt) n) (hst : Cond.instanceMethod y ∈ WS ∧ Cond.selects y.cls y y ∈ WS) (hlk : Cond.methodLink own ix y ∈ WS) {ci N : Nat} {T : u_T} {fs : List Value} (hc : vwCl[ci]? = some (y.cls, T, N)) (q0 : Nat) (he : ws[q0]? = some (b, .inr (ci, fs))) (hR : F + 1 ≤ R.frames ∧ 8 + (maxL + 11) + Lc ≤ R.locals) (hC : cells + mc ≤ R.cells ∧ slots + ms ≤ R.slots) (hn : As.length = n) (hcat : (rest.map fun v => v.category).sum ≤ 8) (X Y : va_W) (hw : ws = X ++ (wi ++ Y)) (st : List Value) (hstk : As.reverse ++ .ref b :: rest = st) (hdg : decode cc pc = .ok (.invokevirtual ix, 3)) (kk : ∀ (r : Int32) (u : S), post r u → J Z (cells + mc) (slots + ms) (X ++ (wo u ++ Y)) (pc + 3) L (.int r :: rest)) : J Z cells slots ws pc L st := by
  subst hstk
  subst hw
  obtain ⟨p, l', e, R', s, m, args, below, meth, c, Q, E', nL', A, md'⟩ := Z
  obtain ⟨⟨hx, hb, hml, hown, hts⟩, hE, hA, rfl, rfl, rfl, rfl, rfl⟩ := B
  intro H locs ls hP hD hS hmd hl
  obtain ⟨k1, k2, k3⟩ := K
  have hF := fr hD hS hA
  refine va_calli (va_runV (As := As) (rest := rest) (b := b) (C := y.cls) (g := F0 m pc ls _) ⟨hx, hb, hml, hown, hts⟩ (hM H.size) ⟨callB_of (ws' := WS) n hts (WS_in k1) rfl rfl rfl (hts _ k2) (hts _ hlk) k3 hR, hts _ hst.1, hts _ hst.2⟩ ⟨FB_wr, va_recv hE.1 hP hc he, fun U hU hW => ⟨rfl, by rw [hU], hE.warm hW, by rw [hU]; exact p_l (p_r hP), (d_l (d_r hD)).weaken (fun _ _ _ _ => trivial)⟩⟩ rfl hn hl.1 rfl (by show 2 * 0 + _ ≤ 8; omega) hdg hC) hS (fun q _ h => hF q h) hF (fun r u t H1 locs1 ht hvm hpost hB hz hk hS1 => ?_)
  obtain ⟨hP1, hD1⟩ := hB
  rw [ht] at hP1
  obtain ⟨hP2, hD2⟩ := jn hP hD hk hF hP1 hD1
  exact kk r u hpost H1 locs1 ls hP2 hD2 hS1 (fun h => by cases h) hl
theorem c_wvV (B : OK Z cc nL own R E false l) {b : Nat} {S : Type} {wi : va_W} {post : S → Prop} {wo : S → va_W} (hM : WV l E y bytes maxL F Lc mc ms (.ref b :: As) wi post wo) (K : Cal y bytes maxL (none) n) (hst : Cond.instanceMethod y ∈ WS ∧ Cond.selects y.cls y y ∈ WS) (hlk : Cond.methodLink own ix y ∈ WS) {ci N : Nat} {T : u_T} {fs : List Value} (hc : vwCl[ci]? = some (y.cls, T, N)) (q0 : Nat) (he : ws[q0]? = some (b, .inr (ci, fs))) (hR : F + 1 ≤ R.frames ∧ 8 + (maxL + 11) + Lc ≤ R.locals) (hC : cells + mc ≤ R.cells ∧ slots + ms ≤ R.slots) (hn : As.length = n) (hcat : (rest.map fun v => v.category).sum ≤ 8) (X Y : va_W) (hw : ws = X ++ (wi ++ Y)) (st : List Value) (hstk : As.reverse ++ .ref b :: rest = st) (hdg : decode cc pc = .ok (.invokevirtual ix, 3)) (kk : ∀ u : S, post u → J Z (cells + mc) (slots + ms) (X ++ (wo u ++ Y)) (pc + 3) L rest) : J Z cells slots ws pc L st := by
  subst hstk
  subst hw
  obtain ⟨p, l', e, R', s, m, args, below, meth, c, Q, E', nL', A, md'⟩ := Z
  obtain ⟨⟨hx, hb, hml, hown, hts⟩, hE, hA, rfl, rfl, rfl, rfl, rfl⟩ := B
  intro H locs ls hP hD hS hmd hl
  obtain ⟨k1, k2, k3⟩ := K
  have hF := fr hD hS hA
  refine va_callv (va_runV (As := As) (rest := rest) (b := b) (C := y.cls) (g := F0 m pc ls _) ⟨hx, hb, hml, hown, hts⟩ (hM H.size) ⟨callB_of (ws' := WS) n hts (WS_in k1) rfl rfl rfl (hts _ k2) (hts _ hlk) k3 hR, hts _ hst.1, hts _ hst.2⟩ ⟨FB_wr, va_recv hE.1 hP hc he, fun U hU hW => ⟨rfl, by rw [hU], hE.warm hW, by rw [hU]; exact p_l (p_r hP), (d_l (d_r hD)).weaken (fun _ _ _ _ => trivial)⟩⟩ rfl hn hl.1 rfl (by show 2 * 0 + _ ≤ 8; omega) hdg hC) hS (fun q _ h => hF q h) hF (fun u t H1 locs1 ht hvm hpost hB hz hk hS1 => ?_)
  obtain ⟨hP1, hD1⟩ := hB
  rw [ht] at hP1
  obtain ⟨hP2, hD2⟩ := jn hP hD hk hF hP1 hD1
  exact kk u hpost H1 locs1 ls hP2 hD2 hS1 (fun h => by cases h) hl
theorem c_wvI (B : OK Z cc nL own R E false l) {b : Nat} {S : Type} {wi : va_W} {post : S → Prop} {wo : S → va_W} (hM : WV l E y bytes maxL F Lc mc ms (.ref b :: As) wi post wo) (K : Cal y bytes maxL (none) n) (hst : y.name = "<init>" ∧ Cond.instanceMethod y ∈ WS) (hlk : Cond.methodLink own ix y ∈ WS) (hR : F + 1 ≤ R.frames ∧ 8 + (maxL + 11) + Lc ≤ R.locals) (hC : cells + mc ≤ R.cells ∧ slots + ms ≤ R.slots) (hn : As.length = n) (hcat : (rest.map fun v => v.category).sum ≤ 8) (X Y : va_W) (hw : ws = X ++ (wi ++ Y)) (st : List Value) (hstk : As.reverse ++ .ref b :: rest = st) (hdg : decode cc pc = .ok (.invokespecial ix, 3)) (kk : ∀ u : S, post u → J Z (cells + mc) (slots + ms) (X ++ (wo u ++ Y)) (pc + 3) L rest) : J Z cells slots ws pc L st := by
  subst hstk
  subst hw
  obtain ⟨p, l', e, R', s, m, args, below, meth, c, Q, E', nL', A, md'⟩ := Z
  obtain ⟨⟨hx, hb, hml, hown, hts⟩, hE, hA, rfl, rfl, rfl, rfl, rfl⟩ := B
  intro H locs ls hP hD hS hmd hl
  obtain ⟨k1, k2, k3⟩ := K
  have hF := fr hD hS hA
  refine va_callv (va_runI (As := As) (rest := rest) (b := b) (g := F0 m pc ls _) ⟨hx, hb, hml, hown, hts⟩ (hM H.size) ⟨callB_of (ws' := WS) n hts (WS_in k1) rfl rfl rfl (hts _ k2) (hts _ hlk) k3 hR, hst.1, hts _ hst.2⟩ ⟨FB_wr, fun U hU hW => ⟨rfl, by rw [hU], hE.warm hW, by rw [hU]; exact p_l (p_r hP), (d_l (d_r hD)).weaken (fun _ _ _ _ => trivial)⟩⟩ rfl hn hl.1 rfl (by show 2 * 0 + _ ≤ 8; omega) hdg hC) hS (fun q _ h => hF q h) hF (fun u t H1 locs1 ht hvm hpost hB hz hk hS1 => ?_)
  obtain ⟨hP1, hD1⟩ := hB
  rw [ht] at hP1
  obtain ⟨hP2, hD2⟩ := jn hP hD hk hF hP1 hD1
  exact kk u hpost H1 locs1 ls hP2 hD2 hS1 (fun h => by cases h) hl
theorem c_wvIN (B : OK Z cc nL own R E false l) {b : Nat} {S : Type} {wi : va_W} {post : S → Prop} {wo : S → va_W} (hM : WV l E y bytes maxL F Lc mc ms (.ref b :: As) wi post wo) (K : Cal y bytes maxL (none) n) (hst : y.name = "<init>" ∧ Cond.instanceMethod y ∈ WS) {host : String} (hlk : ∀ U : State, NW U → va_Nw (.methodLinkNest own ix y host) U) (hR : F + 1 ≤ R.frames ∧ 8 + (maxL + 11) + Lc ≤ R.locals) (hC : cells + mc ≤ R.cells ∧ slots + ms ≤ R.slots) (hn : As.length = n) (hcat : (rest.map fun v => v.category).sum ≤ 8) (X Y : va_W) (hw : ws = X ++ (wi ++ Y)) (st : List Value) (hstk : As.reverse ++ .ref b :: rest = st) (hdg : decode cc pc = .ok (.invokespecial ix, 3)) (kk : ∀ u : S, post u → J Z (cells + mc) (slots + ms) (X ++ (wo u ++ Y)) (pc + 3) L rest) : J Z cells slots ws pc L st := by
  subst hstk
  subst hw
  obtain ⟨p, l', e, R', s, m, args, below, meth, c, Q, E', nL', A, md'⟩ := Z
  obtain ⟨⟨hx, hb, hml, hown, hts⟩, hE, hA, rfl, rfl, rfl, rfl, rfl⟩ := B
  intro H locs ls hP hD hS hmd hl
  obtain ⟨k1, k2, k3⟩ := K
  have hF := fr hD hS hA
  refine va_callv (va_runIN (As := As) (rest := rest) (b := b) (g := F0 m pc ls _) ⟨hx, hb, hml, hown, hts⟩ (hM H.size) ⟨va_cnB (ws' := WS) n hts (WS_in k1) rfl rfl rfl (hlk s hE.2) (hts _ k2) k3 hR, hst.1, hts _ hst.2⟩ ⟨FB_wr, fun U hU hW => ⟨rfl, by rw [hU], hE.warm hW, by rw [hU]; exact p_l (p_r hP), (d_l (d_r hD)).weaken (fun _ _ _ _ => trivial)⟩⟩ rfl hn hl.1 rfl (by show 2 * 0 + _ ≤ 8; omega) hdg hC) hS (fun q _ h => hF q h) hF (fun u t H1 locs1 ht hvm hpost hB hz hk hS1 => ?_)
  obtain ⟨hP1, hD1⟩ := hB
  rw [ht] at hP1
  obtain ⟨hP2, hD2⟩ := jn hP hD hk hF hP1 hD1
  exact kk u hpost H1 locs1 ls hP2 hD2 hS1 (fun h => by cases h) hl
end JC
end
section
theorem wl_wsL_law_r1 : ∀ w ∈ wsL_law_r1, w ∈ WS := fun _ h => List.mem_append_left _ (List.mem_append_left _ (List.mem_append_left _ (List.mem_append_left _ (List.mem_append_left _ (List.mem_append_left _ (List.mem_append_left _ (List.mem_append_left _ (List.mem_append_left _ (List.mem_append_left _ (List.mem_append_left _ (List.mem_append_left _ h)))))))))))
theorem wl_wsL_law_r2 : ∀ w ∈ wsL_law_r2, w ∈ WS := fun _ h => List.mem_append_left _ (List.mem_append_left _ (List.mem_append_left _ (List.mem_append_left _ (List.mem_append_left _ (List.mem_append_left _ (List.mem_append_left _ (List.mem_append_left _ (List.mem_append_left _ (List.mem_append_left _ (List.mem_append_left _ (List.mem_append_right _ (List.mem_append_left _ h))))))))))))
theorem wl_wsL_law_r3 : ∀ w ∈ wsL_law_r3, w ∈ WS := fun _ h => List.mem_append_left _ (List.mem_append_left _ (List.mem_append_left _ (List.mem_append_left _ (List.mem_append_left _ (List.mem_append_left _ (List.mem_append_left _ (List.mem_append_left _ (List.mem_append_left _ (List.mem_append_left _ (List.mem_append_left _ (List.mem_append_right _ (List.mem_append_right _ (List.mem_append_left _ h)))))))))))))
theorem wl_wsL_law_r4 : ∀ w ∈ wsL_law_r4, w ∈ WS := fun _ h => List.mem_append_left _ (List.mem_append_left _ (List.mem_append_left _ (List.mem_append_left _ (List.mem_append_left _ (List.mem_append_left _ (List.mem_append_left _ (List.mem_append_left _ (List.mem_append_left _ (List.mem_append_left _ (List.mem_append_left _ (List.mem_append_right _ (List.mem_append_right _ (List.mem_append_right _ (List.mem_append_left _ h))))))))))))))
theorem wl_wsL_law_r5 : ∀ w ∈ wsL_law_r5, w ∈ WS := fun _ h => List.mem_append_left _ (List.mem_append_left _ (List.mem_append_left _ (List.mem_append_left _ (List.mem_append_left _ (List.mem_append_left _ (List.mem_append_left _ (List.mem_append_left _ (List.mem_append_left _ (List.mem_append_left _ (List.mem_append_left _ (List.mem_append_right _ (List.mem_append_right _ (List.mem_append_right _ (List.mem_append_right _ (List.mem_append_left _ h)))))))))))))))
theorem wl_wsL_law_r6 : ∀ w ∈ wsL_law_r6, w ∈ WS := fun _ h => List.mem_append_left _ (List.mem_append_left _ (List.mem_append_left _ (List.mem_append_left _ (List.mem_append_left _ (List.mem_append_left _ (List.mem_append_left _ (List.mem_append_left _ (List.mem_append_left _ (List.mem_append_left _ (List.mem_append_left _ (List.mem_append_right _ (List.mem_append_right _ (List.mem_append_right _ (List.mem_append_right _ (List.mem_append_right _ (List.mem_append_left _ h))))))))))))))))
theorem wl_wsL_law_r7 : ∀ w ∈ wsL_law_r7, w ∈ WS := fun _ h => List.mem_append_left _ (List.mem_append_left _ (List.mem_append_left _ (List.mem_append_left _ (List.mem_append_left _ (List.mem_append_left _ (List.mem_append_left _ (List.mem_append_left _ (List.mem_append_left _ (List.mem_append_left _ (List.mem_append_left _ (List.mem_append_right _ (List.mem_append_right _ (List.mem_append_right _ (List.mem_append_right _ (List.mem_append_right _ (List.mem_append_right _ (List.mem_append_left _ h)))))))))))))))))
theorem wl_wsL_law_r8 : ∀ w ∈ wsL_law_r8, w ∈ WS := fun _ h => List.mem_append_left _ (List.mem_append_left _ (List.mem_append_left _ (List.mem_append_left _ (List.mem_append_left _ (List.mem_append_left _ (List.mem_append_left _ (List.mem_append_left _ (List.mem_append_left _ (List.mem_append_left _ (List.mem_append_left _ (List.mem_append_right _ (List.mem_append_right _ (List.mem_append_right _ (List.mem_append_right _ (List.mem_append_right _ (List.mem_append_right _ (List.mem_append_right _ (List.mem_append_left _ h))))))))))))))))))
theorem wl_wsL_law_r9 : ∀ w ∈ wsL_law_r9, w ∈ WS := fun _ h => List.mem_append_left _ (List.mem_append_left _ (List.mem_append_left _ (List.mem_append_left _ (List.mem_append_left _ (List.mem_append_left _ (List.mem_append_left _ (List.mem_append_left _ (List.mem_append_left _ (List.mem_append_left _ (List.mem_append_left _ (List.mem_append_right _ (List.mem_append_right _ (List.mem_append_right _ (List.mem_append_right _ (List.mem_append_right _ (List.mem_append_right _ (List.mem_append_right _ (List.mem_append_right _ (List.mem_append_left _ h)))))))))))))))))))
theorem wl_wsL_law_r10 : ∀ w ∈ wsL_law_r10, w ∈ WS := fun _ h => List.mem_append_left _ (List.mem_append_left _ (List.mem_append_left _ (List.mem_append_left _ (List.mem_append_left _ (List.mem_append_left _ (List.mem_append_left _ (List.mem_append_left _ (List.mem_append_left _ (List.mem_append_left _ (List.mem_append_left _ (List.mem_append_right _ (List.mem_append_right _ (List.mem_append_right _ (List.mem_append_right _ (List.mem_append_right _ (List.mem_append_right _ (List.mem_append_right _ (List.mem_append_right _ (List.mem_append_right _ (List.mem_append_left _ h))))))))))))))))))))
theorem wl_wsL_law_r11 : ∀ w ∈ wsL_law_r11, w ∈ WS := fun _ h => List.mem_append_left _ (List.mem_append_left _ (List.mem_append_left _ (List.mem_append_left _ (List.mem_append_left _ (List.mem_append_left _ (List.mem_append_left _ (List.mem_append_left _ (List.mem_append_left _ (List.mem_append_left _ (List.mem_append_left _ (List.mem_append_right _ (List.mem_append_right _ (List.mem_append_right _ (List.mem_append_right _ (List.mem_append_right _ (List.mem_append_right _ (List.mem_append_right _ (List.mem_append_right _ (List.mem_append_right _ (List.mem_append_right _ (List.mem_append_left _ h)))))))))))))))))))))
theorem wl_wsL_law_r12 : ∀ w ∈ wsL_law_r12, w ∈ WS := fun _ h => List.mem_append_left _ (List.mem_append_left _ (List.mem_append_left _ (List.mem_append_left _ (List.mem_append_left _ (List.mem_append_left _ (List.mem_append_left _ (List.mem_append_left _ (List.mem_append_left _ (List.mem_append_left _ (List.mem_append_left _ (List.mem_append_right _ (List.mem_append_right _ (List.mem_append_right _ (List.mem_append_right _ (List.mem_append_right _ (List.mem_append_right _ (List.mem_append_right _ (List.mem_append_right _ (List.mem_append_right _ (List.mem_append_right _ (List.mem_append_right _ (List.mem_append_left _ h))))))))))))))))))))))
theorem wl_wsL_law_r13 : ∀ w ∈ wsL_law_r13, w ∈ WS := fun _ h => List.mem_append_left _ (List.mem_append_left _ (List.mem_append_left _ (List.mem_append_left _ (List.mem_append_left _ (List.mem_append_left _ (List.mem_append_left _ (List.mem_append_left _ (List.mem_append_left _ (List.mem_append_left _ (List.mem_append_left _ (List.mem_append_right _ (List.mem_append_right _ (List.mem_append_right _ (List.mem_append_right _ (List.mem_append_right _ (List.mem_append_right _ (List.mem_append_right _ (List.mem_append_right _ (List.mem_append_right _ (List.mem_append_right _ (List.mem_append_right _ (List.mem_append_right _ (List.mem_append_left _ h)))))))))))))))))))))))
theorem wl_wsL_law_r14 : ∀ w ∈ wsL_law_r14, w ∈ WS := fun _ h => List.mem_append_left _ (List.mem_append_left _ (List.mem_append_left _ (List.mem_append_left _ (List.mem_append_left _ (List.mem_append_left _ (List.mem_append_left _ (List.mem_append_left _ (List.mem_append_left _ (List.mem_append_left _ (List.mem_append_left _ (List.mem_append_right _ (List.mem_append_right _ (List.mem_append_right _ (List.mem_append_right _ (List.mem_append_right _ (List.mem_append_right _ (List.mem_append_right _ (List.mem_append_right _ (List.mem_append_right _ (List.mem_append_right _ (List.mem_append_right _ (List.mem_append_right _ (List.mem_append_right _ (List.mem_append_left _ h))))))))))))))))))))))))
theorem wl_wsL_law_r15 : ∀ w ∈ wsL_law_r15, w ∈ WS := fun _ h => List.mem_append_left _ (List.mem_append_left _ (List.mem_append_left _ (List.mem_append_left _ (List.mem_append_left _ (List.mem_append_left _ (List.mem_append_left _ (List.mem_append_left _ (List.mem_append_left _ (List.mem_append_left _ (List.mem_append_left _ (List.mem_append_right _ (List.mem_append_right _ (List.mem_append_right _ (List.mem_append_right _ (List.mem_append_right _ (List.mem_append_right _ (List.mem_append_right _ (List.mem_append_right _ (List.mem_append_right _ (List.mem_append_right _ (List.mem_append_right _ (List.mem_append_right _ (List.mem_append_right _ (List.mem_append_right _ (List.mem_append_left _ h)))))))))))))))))))))))))
theorem wl_wsL_law_r16 : ∀ w ∈ wsL_law_r16, w ∈ WS := fun _ h => List.mem_append_left _ (List.mem_append_left _ (List.mem_append_left _ (List.mem_append_left _ (List.mem_append_left _ (List.mem_append_left _ (List.mem_append_left _ (List.mem_append_left _ (List.mem_append_left _ (List.mem_append_left _ (List.mem_append_left _ (List.mem_append_right _ (List.mem_append_right _ (List.mem_append_right _ (List.mem_append_right _ (List.mem_append_right _ (List.mem_append_right _ (List.mem_append_right _ (List.mem_append_right _ (List.mem_append_right _ (List.mem_append_right _ (List.mem_append_right _ (List.mem_append_right _ (List.mem_append_right _ (List.mem_append_right _ (List.mem_append_right _ (List.mem_append_left _ h))))))))))))))))))))))))))
theorem wl_wsL_law_r17 : ∀ w ∈ wsL_law_r17, w ∈ WS := fun _ h => List.mem_append_left _ (List.mem_append_left _ (List.mem_append_left _ (List.mem_append_left _ (List.mem_append_left _ (List.mem_append_left _ (List.mem_append_left _ (List.mem_append_left _ (List.mem_append_left _ (List.mem_append_left _ (List.mem_append_left _ (List.mem_append_right _ (List.mem_append_right _ (List.mem_append_right _ (List.mem_append_right _ (List.mem_append_right _ (List.mem_append_right _ (List.mem_append_right _ (List.mem_append_right _ (List.mem_append_right _ (List.mem_append_right _ (List.mem_append_right _ (List.mem_append_right _ (List.mem_append_right _ (List.mem_append_right _ (List.mem_append_right _ (List.mem_append_right _ (List.mem_append_left _ h)))))))))))))))))))))))))))
theorem wl_wsL_law_r18 : ∀ w ∈ wsL_law_r18, w ∈ WS := fun _ h => List.mem_append_left _ (List.mem_append_left _ (List.mem_append_left _ (List.mem_append_left _ (List.mem_append_left _ (List.mem_append_left _ (List.mem_append_left _ (List.mem_append_left _ (List.mem_append_left _ (List.mem_append_left _ (List.mem_append_left _ (List.mem_append_right _ (List.mem_append_right _ (List.mem_append_right _ (List.mem_append_right _ (List.mem_append_right _ (List.mem_append_right _ (List.mem_append_right _ (List.mem_append_right _ (List.mem_append_right _ (List.mem_append_right _ (List.mem_append_right _ (List.mem_append_right _ (List.mem_append_right _ (List.mem_append_right _ (List.mem_append_right _ (List.mem_append_right _ (List.mem_append_right _ (List.mem_append_left _ h))))))))))))))))))))))))))))
theorem wl_wsL_law_r19 : ∀ w ∈ wsL_law_r19, w ∈ WS := fun _ h => List.mem_append_left _ (List.mem_append_left _ (List.mem_append_left _ (List.mem_append_left _ (List.mem_append_left _ (List.mem_append_left _ (List.mem_append_left _ (List.mem_append_left _ (List.mem_append_left _ (List.mem_append_left _ (List.mem_append_left _ (List.mem_append_right _ (List.mem_append_right _ (List.mem_append_right _ (List.mem_append_right _ (List.mem_append_right _ (List.mem_append_right _ (List.mem_append_right _ (List.mem_append_right _ (List.mem_append_right _ (List.mem_append_right _ (List.mem_append_right _ (List.mem_append_right _ (List.mem_append_right _ (List.mem_append_right _ (List.mem_append_right _ (List.mem_append_right _ (List.mem_append_right _ (List.mem_append_right _ (List.mem_append_left _ h)))))))))))))))))))))))))))))
theorem wl_wsL_law_r20 : ∀ w ∈ wsL_law_r20, w ∈ WS := fun _ h => List.mem_append_left _ (List.mem_append_left _ (List.mem_append_left _ (List.mem_append_left _ (List.mem_append_left _ (List.mem_append_left _ (List.mem_append_left _ (List.mem_append_left _ (List.mem_append_left _ (List.mem_append_left _ (List.mem_append_left _ (List.mem_append_right _ (List.mem_append_right _ (List.mem_append_right _ (List.mem_append_right _ (List.mem_append_right _ (List.mem_append_right _ (List.mem_append_right _ (List.mem_append_right _ (List.mem_append_right _ (List.mem_append_right _ (List.mem_append_right _ (List.mem_append_right _ (List.mem_append_right _ (List.mem_append_right _ (List.mem_append_right _ (List.mem_append_right _ (List.mem_append_right _ (List.mem_append_right _ (List.mem_append_right _ (List.mem_append_left _ h))))))))))))))))))))))))))))))
theorem wl_wsL_law_r21 : ∀ w ∈ wsL_law_r21, w ∈ WS := fun _ h => List.mem_append_left _ (List.mem_append_left _ (List.mem_append_left _ (List.mem_append_left _ (List.mem_append_left _ (List.mem_append_left _ (List.mem_append_left _ (List.mem_append_left _ (List.mem_append_left _ (List.mem_append_left _ (List.mem_append_left _ (List.mem_append_right _ (List.mem_append_right _ (List.mem_append_right _ (List.mem_append_right _ (List.mem_append_right _ (List.mem_append_right _ (List.mem_append_right _ (List.mem_append_right _ (List.mem_append_right _ (List.mem_append_right _ (List.mem_append_right _ (List.mem_append_right _ (List.mem_append_right _ (List.mem_append_right _ (List.mem_append_right _ (List.mem_append_right _ (List.mem_append_right _ (List.mem_append_right _ (List.mem_append_right _ (List.mem_append_right _ (List.mem_append_left _ h)))))))))))))))))))))))))))))))
theorem wl_wsL_law_r22 : ∀ w ∈ wsL_law_r22, w ∈ WS := fun _ h => List.mem_append_left _ (List.mem_append_left _ (List.mem_append_left _ (List.mem_append_left _ (List.mem_append_left _ (List.mem_append_left _ (List.mem_append_left _ (List.mem_append_left _ (List.mem_append_left _ (List.mem_append_left _ (List.mem_append_left _ (List.mem_append_right _ (List.mem_append_right _ (List.mem_append_right _ (List.mem_append_right _ (List.mem_append_right _ (List.mem_append_right _ (List.mem_append_right _ (List.mem_append_right _ (List.mem_append_right _ (List.mem_append_right _ (List.mem_append_right _ (List.mem_append_right _ (List.mem_append_right _ (List.mem_append_right _ (List.mem_append_right _ (List.mem_append_right _ (List.mem_append_right _ (List.mem_append_right _ (List.mem_append_right _ (List.mem_append_right _ (List.mem_append_right _ (List.mem_append_left _ h))))))))))))))))))))))))))))))))
theorem wl_wsL_law_r23 : ∀ w ∈ wsL_law_r23, w ∈ WS := fun _ h => List.mem_append_left _ (List.mem_append_left _ (List.mem_append_left _ (List.mem_append_left _ (List.mem_append_left _ (List.mem_append_left _ (List.mem_append_left _ (List.mem_append_left _ (List.mem_append_left _ (List.mem_append_left _ (List.mem_append_left _ (List.mem_append_right _ (List.mem_append_right _ (List.mem_append_right _ (List.mem_append_right _ (List.mem_append_right _ (List.mem_append_right _ (List.mem_append_right _ (List.mem_append_right _ (List.mem_append_right _ (List.mem_append_right _ (List.mem_append_right _ (List.mem_append_right _ (List.mem_append_right _ (List.mem_append_right _ (List.mem_append_right _ (List.mem_append_right _ (List.mem_append_right _ (List.mem_append_right _ (List.mem_append_right _ (List.mem_append_right _ (List.mem_append_right _ (List.mem_append_right _ (List.mem_append_left _ h)))))))))))))))))))))))))))))))))
theorem wl_wsL_law_r24 : ∀ w ∈ wsL_law_r24, w ∈ WS := fun _ h => List.mem_append_left _ (List.mem_append_left _ (List.mem_append_left _ (List.mem_append_left _ (List.mem_append_left _ (List.mem_append_left _ (List.mem_append_left _ (List.mem_append_left _ (List.mem_append_left _ (List.mem_append_left _ (List.mem_append_left _ (List.mem_append_right _ (List.mem_append_right _ (List.mem_append_right _ (List.mem_append_right _ (List.mem_append_right _ (List.mem_append_right _ (List.mem_append_right _ (List.mem_append_right _ (List.mem_append_right _ (List.mem_append_right _ (List.mem_append_right _ (List.mem_append_right _ (List.mem_append_right _ (List.mem_append_right _ (List.mem_append_right _ (List.mem_append_right _ (List.mem_append_right _ (List.mem_append_right _ (List.mem_append_right _ (List.mem_append_right _ (List.mem_append_right _ (List.mem_append_right _ (List.mem_append_right _ (List.mem_append_left _ h))))))))))))))))))))))))))))))))))
theorem wl_wsL_law_r25 : ∀ w ∈ wsL_law_r25, w ∈ WS := fun _ h => List.mem_append_left _ (List.mem_append_left _ (List.mem_append_left _ (List.mem_append_left _ (List.mem_append_left _ (List.mem_append_left _ (List.mem_append_left _ (List.mem_append_left _ (List.mem_append_left _ (List.mem_append_left _ (List.mem_append_left _ (List.mem_append_right _ (List.mem_append_right _ (List.mem_append_right _ (List.mem_append_right _ (List.mem_append_right _ (List.mem_append_right _ (List.mem_append_right _ (List.mem_append_right _ (List.mem_append_right _ (List.mem_append_right _ (List.mem_append_right _ (List.mem_append_right _ (List.mem_append_right _ (List.mem_append_right _ (List.mem_append_right _ (List.mem_append_right _ (List.mem_append_right _ (List.mem_append_right _ (List.mem_append_right _ (List.mem_append_right _ (List.mem_append_right _ (List.mem_append_right _ (List.mem_append_right _ (List.mem_append_right _ (List.mem_append_left _ h)))))))))))))))))))))))))))))))))))
theorem wl_wsL_law_r26 : ∀ w ∈ wsL_law_r26, w ∈ WS := fun _ h => List.mem_append_left _ (List.mem_append_left _ (List.mem_append_left _ (List.mem_append_left _ (List.mem_append_left _ (List.mem_append_left _ (List.mem_append_left _ (List.mem_append_left _ (List.mem_append_left _ (List.mem_append_left _ (List.mem_append_left _ (List.mem_append_right _ (List.mem_append_right _ (List.mem_append_right _ (List.mem_append_right _ (List.mem_append_right _ (List.mem_append_right _ (List.mem_append_right _ (List.mem_append_right _ (List.mem_append_right _ (List.mem_append_right _ (List.mem_append_right _ (List.mem_append_right _ (List.mem_append_right _ (List.mem_append_right _ (List.mem_append_right _ (List.mem_append_right _ (List.mem_append_right _ (List.mem_append_right _ (List.mem_append_right _ (List.mem_append_right _ (List.mem_append_right _ (List.mem_append_right _ (List.mem_append_right _ (List.mem_append_right _ (List.mem_append_right _ (List.mem_append_left _ h))))))))))))))))))))))))))))))))))))
theorem wl_wsL_law_r27 : ∀ w ∈ wsL_law_r27, w ∈ WS := fun _ h => List.mem_append_left _ (List.mem_append_left _ (List.mem_append_left _ (List.mem_append_left _ (List.mem_append_left _ (List.mem_append_left _ (List.mem_append_left _ (List.mem_append_left _ (List.mem_append_left _ (List.mem_append_left _ (List.mem_append_left _ (List.mem_append_right _ (List.mem_append_right _ (List.mem_append_right _ (List.mem_append_right _ (List.mem_append_right _ (List.mem_append_right _ (List.mem_append_right _ (List.mem_append_right _ (List.mem_append_right _ (List.mem_append_right _ (List.mem_append_right _ (List.mem_append_right _ (List.mem_append_right _ (List.mem_append_right _ (List.mem_append_right _ (List.mem_append_right _ (List.mem_append_right _ (List.mem_append_right _ (List.mem_append_right _ (List.mem_append_right _ (List.mem_append_right _ (List.mem_append_right _ (List.mem_append_right _ (List.mem_append_right _ (List.mem_append_right _ (List.mem_append_right _ (List.mem_append_left _ h)))))))))))))))))))))))))))))))))))))
theorem wl_wsL_law_r28 : ∀ w ∈ wsL_law_r28, w ∈ WS := fun _ h => List.mem_append_left _ (List.mem_append_left _ (List.mem_append_left _ (List.mem_append_left _ (List.mem_append_left _ (List.mem_append_left _ (List.mem_append_left _ (List.mem_append_left _ (List.mem_append_left _ (List.mem_append_left _ (List.mem_append_left _ (List.mem_append_right _ (List.mem_append_right _ (List.mem_append_right _ (List.mem_append_right _ (List.mem_append_right _ (List.mem_append_right _ (List.mem_append_right _ (List.mem_append_right _ (List.mem_append_right _ (List.mem_append_right _ (List.mem_append_right _ (List.mem_append_right _ (List.mem_append_right _ (List.mem_append_right _ (List.mem_append_right _ (List.mem_append_right _ (List.mem_append_right _ (List.mem_append_right _ (List.mem_append_right _ (List.mem_append_right _ (List.mem_append_right _ (List.mem_append_right _ (List.mem_append_right _ (List.mem_append_right _ (List.mem_append_right _ (List.mem_append_right _ (List.mem_append_right _ (List.mem_append_left _ h))))))))))))))))))))))))))))))))))))))
theorem wl_wsL_law_r29 : ∀ w ∈ wsL_law_r29, w ∈ WS := fun _ h => List.mem_append_left _ (List.mem_append_left _ (List.mem_append_left _ (List.mem_append_left _ (List.mem_append_left _ (List.mem_append_left _ (List.mem_append_left _ (List.mem_append_left _ (List.mem_append_left _ (List.mem_append_left _ (List.mem_append_left _ (List.mem_append_right _ (List.mem_append_right _ (List.mem_append_right _ (List.mem_append_right _ (List.mem_append_right _ (List.mem_append_right _ (List.mem_append_right _ (List.mem_append_right _ (List.mem_append_right _ (List.mem_append_right _ (List.mem_append_right _ (List.mem_append_right _ (List.mem_append_right _ (List.mem_append_right _ (List.mem_append_right _ (List.mem_append_right _ (List.mem_append_right _ (List.mem_append_right _ (List.mem_append_right _ (List.mem_append_right _ (List.mem_append_right _ (List.mem_append_right _ (List.mem_append_right _ (List.mem_append_right _ (List.mem_append_right _ (List.mem_append_right _ (List.mem_append_right _ (List.mem_append_right _ (List.mem_append_left _ h)))))))))))))))))))))))))))))))))))))))
theorem wl_wsL_law_r30 : ∀ w ∈ wsL_law_r30, w ∈ WS := fun _ h => List.mem_append_left _ (List.mem_append_left _ (List.mem_append_left _ (List.mem_append_left _ (List.mem_append_left _ (List.mem_append_left _ (List.mem_append_left _ (List.mem_append_left _ (List.mem_append_left _ (List.mem_append_left _ (List.mem_append_left _ (List.mem_append_right _ (List.mem_append_right _ (List.mem_append_right _ (List.mem_append_right _ (List.mem_append_right _ (List.mem_append_right _ (List.mem_append_right _ (List.mem_append_right _ (List.mem_append_right _ (List.mem_append_right _ (List.mem_append_right _ (List.mem_append_right _ (List.mem_append_right _ (List.mem_append_right _ (List.mem_append_right _ (List.mem_append_right _ (List.mem_append_right _ (List.mem_append_right _ (List.mem_append_right _ (List.mem_append_right _ (List.mem_append_right _ (List.mem_append_right _ (List.mem_append_right _ (List.mem_append_right _ (List.mem_append_right _ (List.mem_append_right _ (List.mem_append_right _ (List.mem_append_right _ (List.mem_append_right _ (List.mem_append_left _ h))))))))))))))))))))))))))))))))))))))))
theorem wl_wsL_law_r31 : ∀ w ∈ wsL_law_r31, w ∈ WS := fun _ h => List.mem_append_left _ (List.mem_append_left _ (List.mem_append_left _ (List.mem_append_left _ (List.mem_append_left _ (List.mem_append_left _ (List.mem_append_left _ (List.mem_append_left _ (List.mem_append_left _ (List.mem_append_left _ (List.mem_append_left _ (List.mem_append_right _ (List.mem_append_right _ (List.mem_append_right _ (List.mem_append_right _ (List.mem_append_right _ (List.mem_append_right _ (List.mem_append_right _ (List.mem_append_right _ (List.mem_append_right _ (List.mem_append_right _ (List.mem_append_right _ (List.mem_append_right _ (List.mem_append_right _ (List.mem_append_right _ (List.mem_append_right _ (List.mem_append_right _ (List.mem_append_right _ (List.mem_append_right _ (List.mem_append_right _ (List.mem_append_right _ (List.mem_append_right _ (List.mem_append_right _ (List.mem_append_right _ (List.mem_append_right _ (List.mem_append_right _ (List.mem_append_right _ (List.mem_append_right _ (List.mem_append_right _ (List.mem_append_right _ (List.mem_append_right _ (h)))))))))))))))))))))))))))))))))))))))))
theorem cls0 : CLS 0 RX0 TX0 7 tyX0 := ⟨inlX0, rfl, tyX0_ok, nmX0⟩
theorem cls1 : CLS 1 RX1 TX1 4 tyX1 := ⟨inlX1, rfl, tyX1_ok, nmX1⟩
theorem cls2 : CLS 2 RX2 TX2 2 tyX2 := ⟨inlX2, rfl, tyX2_ok, nmX2⟩
theorem cls3 : CLS 3 RX3 TX3 2 tyX3 := ⟨inlX3, rfl, tyX3_ok, nmX3⟩
theorem cls4 : CLS 4 RX4 TX4 11 tyX4 := ⟨inlX4, rfl, tyX4_ok, nmX4⟩
theorem cls5 : CLS 5 RX5 TX5 3 tyX5 := ⟨inlX5, rfl, tyX5_ok, nmX5⟩
theorem cls6 : CLS 6 RX6 TX6 9 tyX6 := ⟨inlX6, rfl, tyX6_ok, nmX6⟩
theorem cls7 : CLS 7 RX7 TX7 7 tyX7 := ⟨inlX7, rfl, tyX7_ok, nmX7⟩
theorem cls8 : CLS 8 RX8 TX8 8 tyX8 := ⟨inlX8, rfl, tyX8_ok, nmX8⟩
theorem cls9 : CLS 9 RX9 TX9 38 tyX9 := ⟨inlX9, rfl, tyX9_ok, nmX9⟩
theorem wd_classLink_RL_7_RX8 : Cond.classLink RL 7 RX8 ∈ WS := wl_wsL_law_r1 _ (List.mem_of_getElem? (i := 0) rfl)
theorem wd_instantiable_RX8_8 : Cond.instantiable RX8 8 ∈ WS := wl_wsL_law_r1 _ (List.mem_of_getElem? (i := 1) rfl)
theorem ini_RX8 : Cond.initialized RX8 ∈ WS := wl_wsL_law_r1 _ (List.mem_of_getElem? (i := 2) rfl)
theorem wd_classLink_RL_10_RX9 : Cond.classLink RL 10 RX9 ∈ WS := wl_wsL_law_r1 _ (List.mem_of_getElem? (i := 3) rfl)
theorem wd_instantiable_RX9_38 : Cond.instantiable RX9 38 ∈ WS := wl_wsL_law_r1 _ (List.mem_of_getElem? (i := 4) rfl)
theorem ini_RX9 : Cond.initialized RX9 ∈ WS := wl_wsL_law_r1 _ (List.mem_of_getElem? (i := 5) rfl)
theorem mlL_9 : Cond.methodLink RL 9 yX8_init ∈ WS := wl_wsL_law_r1 _ (List.mem_of_getElem? (i := 6) rfl)
theorem cd_yX8_init : Cond.code yX8_init cX8_init 1 none ∈ WS := wl_wsL_law_r1 _ (List.mem_of_getElem? (i := 8) rfl)
theorem mlX8_1 : Cond.methodLink RX8 1 objectInit ∈ WS := wl_wsL_law_r1 _ (List.mem_of_getElem? (i := 9) rfl)
theorem cd_objectInit : Cond.code objectInit ⟨#[0xb1]⟩ 1 none ∈ WS := wl_wsL_law_r1 _ (List.mem_of_getElem? (i := 11) rfl)
theorem wd_classLink_RX8_7_RX7 : Cond.classLink RX8 7 RX7 ∈ WS := wl_wsL_law_r1 _ (List.mem_of_getElem? (i := 12) rfl)
theorem wd_instantiable_RX7_7 : Cond.instantiable RX7 7 ∈ WS := wl_wsL_law_r1 _ (List.mem_of_getElem? (i := 13) rfl)
theorem ini_RX7 : Cond.initialized RX7 ∈ WS := wl_wsL_law_r1 _ (List.mem_of_getElem? (i := 14) rfl)
theorem flX8_10 : FL RX8 10 8 0 RX8 TX8 8 tyX8 := ⟨cls8, by decide, wl_wsL_law_r1 _ (List.mem_of_getElem? (i := 15) rfl)⟩
theorem wd_classLink_RX8_16_RX5 : Cond.classLink RX8 16 RX5 ∈ WS := wl_wsL_law_r1 _ (List.mem_of_getElem? (i := 16) rfl)
theorem wd_instantiable_RX5_3 : Cond.instantiable RX5 3 ∈ WS := wl_wsL_law_r1 _ (List.mem_of_getElem? (i := 17) rfl)
theorem ini_RX5 : Cond.initialized RX5 ∈ WS := wl_wsL_law_r1 _ (List.mem_of_getElem? (i := 18) rfl)
theorem flX8_21 : FL RX8 21 8 1 RX8 TX8 8 tyX8 := ⟨cls8, by decide, wl_wsL_law_r1 _ (List.mem_of_getElem? (i := 19) rfl)⟩
theorem wd_classLink_RX8_25_RX3 : Cond.classLink RX8 25 RX3 ∈ WS := wl_wsL_law_r1 _ (List.mem_of_getElem? (i := 20) rfl)
theorem wd_instantiable_RX3_2 : Cond.instantiable RX3 2 ∈ WS := wl_wsL_law_r1 _ (List.mem_of_getElem? (i := 21) rfl)
theorem ini_RX3 : Cond.initialized RX3 ∈ WS := wl_wsL_law_r1 _ (List.mem_of_getElem? (i := 22) rfl)
theorem flX8_28 : FL RX8 28 8 2 RX8 TX8 8 tyX8 := ⟨cls8, by decide, wl_wsL_law_r1 _ (List.mem_of_getElem? (i := 23) rfl)⟩
theorem wd_classLink_RX8_32_RX0 : Cond.classLink RX8 32 RX0 ∈ WS := wl_wsL_law_r2 _ (List.mem_of_getElem? (i := 0) rfl)
theorem wd_instantiable_RX0_7 : Cond.instantiable RX0 7 ∈ WS := wl_wsL_law_r2 _ (List.mem_of_getElem? (i := 1) rfl)
theorem ini_RX0 : Cond.initialized RX0 ∈ WS := wl_wsL_law_r2 _ (List.mem_of_getElem? (i := 2) rfl)
theorem flX8_35 : FL RX8 35 8 3 RX8 TX8 8 tyX8 := ⟨cls8, by decide, wl_wsL_law_r2 _ (List.mem_of_getElem? (i := 3) rfl)⟩
theorem wd_classLink_RX8_39_RX1 : Cond.classLink RX8 39 RX1 ∈ WS := wl_wsL_law_r2 _ (List.mem_of_getElem? (i := 4) rfl)
theorem wd_instantiable_RX1_4 : Cond.instantiable RX1 4 ∈ WS := wl_wsL_law_r2 _ (List.mem_of_getElem? (i := 5) rfl)
theorem ini_RX1 : Cond.initialized RX1 ∈ WS := wl_wsL_law_r2 _ (List.mem_of_getElem? (i := 6) rfl)
theorem flX8_42 : FL RX8 42 8 4 RX8 TX8 8 tyX8 := ⟨cls8, by decide, wl_wsL_law_r2 _ (List.mem_of_getElem? (i := 7) rfl)⟩
theorem wd_classLink_RX8_46_RX2 : Cond.classLink RX8 46 RX2 ∈ WS := wl_wsL_law_r2 _ (List.mem_of_getElem? (i := 8) rfl)
theorem wd_instantiable_RX2_2 : Cond.instantiable RX2 2 ∈ WS := wl_wsL_law_r2 _ (List.mem_of_getElem? (i := 9) rfl)
theorem ini_RX2 : Cond.initialized RX2 ∈ WS := wl_wsL_law_r2 _ (List.mem_of_getElem? (i := 10) rfl)
theorem flX8_49 : FL RX8 49 8 5 RX8 TX8 8 tyX8 := ⟨cls8, by decide, wl_wsL_law_r2 _ (List.mem_of_getElem? (i := 11) rfl)⟩
theorem wd_classLink_RX8_53_RX4 : Cond.classLink RX8 53 RX4 ∈ WS := wl_wsL_law_r2 _ (List.mem_of_getElem? (i := 12) rfl)
theorem wd_instantiable_RX4_11 : Cond.instantiable RX4 11 ∈ WS := wl_wsL_law_r2 _ (List.mem_of_getElem? (i := 13) rfl)
theorem ini_RX4 : Cond.initialized RX4 ∈ WS := wl_wsL_law_r2 _ (List.mem_of_getElem? (i := 14) rfl)
theorem flX8_56 : FL RX8 56 8 6 RX8 TX8 8 tyX8 := ⟨cls8, by decide, wl_wsL_law_r2 _ (List.mem_of_getElem? (i := 15) rfl)⟩
theorem cd_yX7_init : Cond.code yX7_init cX7_init 1 none ∈ WS := wl_wsL_law_r2 _ (List.mem_of_getElem? (i := 17) rfl)
theorem mlX7_3 : Cond.methodLink RX7 3 objectInit ∈ WS := wl_wsL_law_r2 _ (List.mem_of_getElem? (i := 18) rfl)
theorem wd_arrayClass_int : Cond.arrayClass .int ∈ WS := wl_wsL_law_r2 _ (List.mem_of_getElem? (i := 19) rfl)
theorem flX7_9 : FL RX7 9 7 0 RX7 TX7 7 tyX7 := ⟨cls7, by decide, wl_wsL_law_r2 _ (List.mem_of_getElem? (i := 20) rfl)⟩
theorem flX7_15 : FL RX7 15 7 1 RX7 TX7 7 tyX7 := ⟨cls7, by decide, wl_wsL_law_r2 _ (List.mem_of_getElem? (i := 21) rfl)⟩
theorem flX7_18 : FL RX7 18 7 2 RX7 TX7 7 tyX7 := ⟨cls7, by decide, wl_wsL_law_r2 _ (List.mem_of_getElem? (i := 22) rfl)⟩
theorem flX7_21 : FL RX7 21 7 3 RX7 TX7 7 tyX7 := ⟨cls7, by decide, wl_wsL_law_r2 _ (List.mem_of_getElem? (i := 23) rfl)⟩
theorem flX7_24 : FL RX7 24 7 5 RX7 TX7 7 tyX7 := ⟨cls7, by decide, wl_wsL_law_r3 _ (List.mem_of_getElem? (i := 0) rfl)⟩
theorem flX7_28 : FL RX7 28 7 6 RX7 TX7 7 tyX7 := ⟨cls7, by decide, wl_wsL_law_r3 _ (List.mem_of_getElem? (i := 1) rfl)⟩
theorem mlX8_18 : Cond.methodLink RX8 18 yX5_init ∈ WS := wl_wsL_law_r3 _ (List.mem_of_getElem? (i := 2) rfl)
theorem cd_yX5_init : Cond.code yX5_init cX5_init 2 none ∈ WS := wl_wsL_law_r3 _ (List.mem_of_getElem? (i := 4) rfl)
theorem mlX5_1 : Cond.methodLink RX5 1 objectInit ∈ WS := wl_wsL_law_r3 _ (List.mem_of_getElem? (i := 5) rfl)
theorem flX5_7 : FL RX5 7 5 0 RX5 TX5 3 tyX5 := ⟨cls5, by decide, wl_wsL_law_r3 _ (List.mem_of_getElem? (i := 6) rfl)⟩
theorem flX5_13 : FL RX5 13 5 1 RX5 TX5 3 tyX5 := ⟨cls5, by decide, wl_wsL_law_r3 _ (List.mem_of_getElem? (i := 7) rfl)⟩
theorem cd_yX3_init : Cond.code yX3_init cX3_init 1 none ∈ WS := wl_wsL_law_r3 _ (List.mem_of_getElem? (i := 9) rfl)
theorem mlX3_3 : Cond.methodLink RX3 3 objectInit ∈ WS := wl_wsL_law_r3 _ (List.mem_of_getElem? (i := 10) rfl)
theorem flX3_9 : FL RX3 9 3 0 RX3 TX3 2 tyX3 := ⟨cls3, by decide, wl_wsL_law_r3 _ (List.mem_of_getElem? (i := 11) rfl)⟩
theorem cd_yX0_init : Cond.code yX0_init cX0_init 1 none ∈ WS := wl_wsL_law_r3 _ (List.mem_of_getElem? (i := 13) rfl)
theorem mlX0_3 : Cond.methodLink RX0 3 objectInit ∈ WS := wl_wsL_law_r3 _ (List.mem_of_getElem? (i := 14) rfl)
theorem flX0_9 : FL RX0 9 0 0 RX0 TX0 7 tyX0 := ⟨cls0, by decide, wl_wsL_law_r3 _ (List.mem_of_getElem? (i := 15) rfl)⟩
theorem flX0_15 : FL RX0 15 0 1 RX0 TX0 7 tyX0 := ⟨cls0, by decide, wl_wsL_law_r3 _ (List.mem_of_getElem? (i := 16) rfl)⟩
theorem flX0_18 : FL RX0 18 0 2 RX0 TX0 7 tyX0 := ⟨cls0, by decide, wl_wsL_law_r3 _ (List.mem_of_getElem? (i := 17) rfl)⟩
theorem flX0_21 : FL RX0 21 0 3 RX0 TX0 7 tyX0 := ⟨cls0, by decide, wl_wsL_law_r3 _ (List.mem_of_getElem? (i := 18) rfl)⟩
theorem cd_yX1_init : Cond.code yX1_init cX1_init 1 none ∈ WS := wl_wsL_law_r3 _ (List.mem_of_getElem? (i := 20) rfl)
theorem mlX1_1 : Cond.methodLink RX1 1 objectInit ∈ WS := wl_wsL_law_r3 _ (List.mem_of_getElem? (i := 21) rfl)
theorem flX1_7 : FL RX1 7 1 2 RX1 TX1 4 tyX1 := ⟨cls1, by decide, wl_wsL_law_r3 _ (List.mem_of_getElem? (i := 22) rfl)⟩
theorem cd_yX2_init : Cond.code yX2_init cX2_init 1 none ∈ WS := wl_wsL_law_r4 _ (List.mem_of_getElem? (i := 0) rfl)
theorem mlX2_3 : Cond.methodLink RX2 3 objectInit ∈ WS := wl_wsL_law_r4 _ (List.mem_of_getElem? (i := 1) rfl)
theorem wd_classLink_RX2_9_RX5 : Cond.classLink RX2 9 RX5 ∈ WS := wl_wsL_law_r4 _ (List.mem_of_getElem? (i := 2) rfl)
theorem flX2_14 : FL RX2 14 2 0 RX2 TX2 2 tyX2 := ⟨cls2, by decide, wl_wsL_law_r4 _ (List.mem_of_getElem? (i := 3) rfl)⟩
theorem flX2_20 : FL RX2 20 2 1 RX2 TX2 2 tyX2 := ⟨cls2, by decide, wl_wsL_law_r4 _ (List.mem_of_getElem? (i := 4) rfl)⟩
theorem mlX2_11 : Cond.methodLink RX2 11 yX5_init ∈ WS := wl_wsL_law_r4 _ (List.mem_of_getElem? (i := 5) rfl)
theorem cd_yX4_init : Cond.code yX4_init cX4_init 1 none ∈ WS := wl_wsL_law_r4 _ (List.mem_of_getElem? (i := 7) rfl)
theorem mlX4_3 : Cond.methodLink RX4 3 objectInit ∈ WS := wl_wsL_law_r4 _ (List.mem_of_getElem? (i := 8) rfl)
theorem flX4_9 : FL RX4 9 4 0 RX4 TX4 11 tyX4 := ⟨cls4, by decide, wl_wsL_law_r4 _ (List.mem_of_getElem? (i := 9) rfl)⟩
theorem flX4_15 : FL RX4 15 4 1 RX4 TX4 11 tyX4 := ⟨cls4, by decide, wl_wsL_law_r4 _ (List.mem_of_getElem? (i := 10) rfl)⟩
theorem flX4_18 : FL RX4 18 4 2 RX4 TX4 11 tyX4 := ⟨cls4, by decide, wl_wsL_law_r4 _ (List.mem_of_getElem? (i := 11) rfl)⟩
theorem flX4_21 : FL RX4 21 4 3 RX4 TX4 11 tyX4 := ⟨cls4, by decide, wl_wsL_law_r4 _ (List.mem_of_getElem? (i := 12) rfl)⟩
theorem wd_arrayClass_boolean : Cond.arrayClass .boolean ∈ WS := wl_wsL_law_r4 _ (List.mem_of_getElem? (i := 13) rfl)
theorem flX4_24 : FL RX4 24 4 4 RX4 TX4 11 tyX4 := ⟨cls4, by decide, wl_wsL_law_r4 _ (List.mem_of_getElem? (i := 14) rfl)⟩
theorem flX4_28 : FL RX4 28 4 6 RX4 TX4 11 tyX4 := ⟨cls4, by decide, wl_wsL_law_r4 _ (List.mem_of_getElem? (i := 15) rfl)⟩
theorem flX4_31 : FL RX4 31 4 7 RX4 TX4 11 tyX4 := ⟨cls4, by decide, wl_wsL_law_r4 _ (List.mem_of_getElem? (i := 16) rfl)⟩
theorem flX4_34 : FL RX4 34 4 8 RX4 TX4 11 tyX4 := ⟨cls4, by decide, wl_wsL_law_r4 _ (List.mem_of_getElem? (i := 17) rfl)⟩
theorem mlL_12 : Cond.methodLink RL 12 yX9_init ∈ WS := wl_wsL_law_r4 _ (List.mem_of_getElem? (i := 18) rfl)
theorem cd_yX9_init : Cond.code yX9_init cX9_init 1 none ∈ WS := wl_wsL_law_r4 _ (List.mem_of_getElem? (i := 20) rfl)
theorem mlX9_1 : Cond.methodLink RX9 1 objectInit ∈ WS := wl_wsL_law_r4 _ (List.mem_of_getElem? (i := 21) rfl)
theorem flX9_7 : FL RX9 7 9 2 RX9 TX9 38 tyX9 := ⟨cls9, by decide, wl_wsL_law_r4 _ (List.mem_of_getElem? (i := 22) rfl)⟩
theorem flX9_13 : FL RX9 13 9 3 RX9 TX9 38 tyX9 := ⟨cls9, by decide, wl_wsL_law_r4 _ (List.mem_of_getElem? (i := 23) rfl)⟩
theorem flX9_16 : FL RX9 16 9 4 RX9 TX9 38 tyX9 := ⟨cls9, by decide, wl_wsL_law_r5 _ (List.mem_of_getElem? (i := 0) rfl)⟩
theorem flX9_19 : FL RX9 19 9 5 RX9 TX9 38 tyX9 := ⟨cls9, by decide, wl_wsL_law_r5 _ (List.mem_of_getElem? (i := 1) rfl)⟩
theorem flX9_22 : FL RX9 22 9 6 RX9 TX9 38 tyX9 := ⟨cls9, by decide, wl_wsL_law_r5 _ (List.mem_of_getElem? (i := 2) rfl)⟩
theorem flX9_26 : FL RX9 26 9 7 RX9 TX9 38 tyX9 := ⟨cls9, by decide, wl_wsL_law_r5 _ (List.mem_of_getElem? (i := 3) rfl)⟩
theorem flX9_29 : FL RX9 29 9 9 RX9 TX9 38 tyX9 := ⟨cls9, by decide, wl_wsL_law_r5 _ (List.mem_of_getElem? (i := 4) rfl)⟩
theorem flX9_32 : FL RX9 32 9 10 RX9 TX9 38 tyX9 := ⟨cls9, by decide, wl_wsL_law_r5 _ (List.mem_of_getElem? (i := 5) rfl)⟩
theorem flX9_35 : FL RX9 35 9 12 RX9 TX9 38 tyX9 := ⟨cls9, by decide, wl_wsL_law_r5 _ (List.mem_of_getElem? (i := 6) rfl)⟩
theorem flX9_38 : FL RX9 38 9 13 RX9 TX9 38 tyX9 := ⟨cls9, by decide, wl_wsL_law_r5 _ (List.mem_of_getElem? (i := 7) rfl)⟩
theorem flX9_41 : FL RX9 41 9 14 RX9 TX9 38 tyX9 := ⟨cls9, by decide, wl_wsL_law_r5 _ (List.mem_of_getElem? (i := 8) rfl)⟩
theorem flX9_44 : FL RX9 44 9 15 RX9 TX9 38 tyX9 := ⟨cls9, by decide, wl_wsL_law_r5 _ (List.mem_of_getElem? (i := 9) rfl)⟩
theorem flX9_47 : FL RX9 47 9 18 RX9 TX9 38 tyX9 := ⟨cls9, by decide, wl_wsL_law_r5 _ (List.mem_of_getElem? (i := 10) rfl)⟩
theorem flX9_50 : FL RX9 50 9 21 RX9 TX9 38 tyX9 := ⟨cls9, by decide, wl_wsL_law_r5 _ (List.mem_of_getElem? (i := 11) rfl)⟩
theorem flX9_53 : FL RX9 53 9 22 RX9 TX9 38 tyX9 := ⟨cls9, by decide, wl_wsL_law_r5 _ (List.mem_of_getElem? (i := 12) rfl)⟩
theorem flX9_56 : FL RX9 56 9 23 RX9 TX9 38 tyX9 := ⟨cls9, by decide, wl_wsL_law_r5 _ (List.mem_of_getElem? (i := 13) rfl)⟩
theorem flX9_59 : FL RX9 59 9 25 RX9 TX9 38 tyX9 := ⟨cls9, by decide, wl_wsL_law_r5 _ (List.mem_of_getElem? (i := 14) rfl)⟩
theorem flX9_62 : FL RX9 62 9 26 RX9 TX9 38 tyX9 := ⟨cls9, by decide, wl_wsL_law_r5 _ (List.mem_of_getElem? (i := 15) rfl)⟩
theorem flX9_65 : FL RX9 65 9 27 RX9 TX9 38 tyX9 := ⟨cls9, by decide, wl_wsL_law_r5 _ (List.mem_of_getElem? (i := 16) rfl)⟩
theorem flX9_68 : FL RX9 68 9 28 RX9 TX9 38 tyX9 := ⟨cls9, by decide, wl_wsL_law_r5 _ (List.mem_of_getElem? (i := 17) rfl)⟩
theorem flX9_71 : FL RX9 71 9 29 RX9 TX9 38 tyX9 := ⟨cls9, by decide, wl_wsL_law_r5 _ (List.mem_of_getElem? (i := 18) rfl)⟩
theorem flX9_75 : FL RX9 75 9 30 RX9 TX9 38 tyX9 := ⟨cls9, by decide, wl_wsL_law_r5 _ (List.mem_of_getElem? (i := 19) rfl)⟩
theorem flX9_78 : FL RX9 78 9 31 RX9 TX9 38 tyX9 := ⟨cls9, by decide, wl_wsL_law_r5 _ (List.mem_of_getElem? (i := 20) rfl)⟩
theorem flX9_81 : FL RX9 81 9 32 RX9 TX9 38 tyX9 := ⟨cls9, by decide, wl_wsL_law_r5 _ (List.mem_of_getElem? (i := 21) rfl)⟩
theorem flX9_84 : FL RX9 84 9 33 RX9 TX9 38 tyX9 := ⟨cls9, by decide, wl_wsL_law_r5 _ (List.mem_of_getElem? (i := 22) rfl)⟩
theorem flX9_87 : FL RX9 87 9 34 RX9 TX9 38 tyX9 := ⟨cls9, by decide, wl_wsL_law_r5 _ (List.mem_of_getElem? (i := 23) rfl)⟩
theorem flX9_90 : FL RX9 90 9 35 RX9 TX9 38 tyX9 := ⟨cls9, by decide, wl_wsL_law_r6 _ (List.mem_of_getElem? (i := 0) rfl)⟩
theorem flX9_93 : FL RX9 93 9 36 RX9 TX9 38 tyX9 := ⟨cls9, by decide, wl_wsL_law_r6 _ (List.mem_of_getElem? (i := 1) rfl)⟩
theorem flX9_96 : FL RX9 96 9 37 RX9 TX9 38 tyX9 := ⟨cls9, by decide, wl_wsL_law_r6 _ (List.mem_of_getElem? (i := 2) rfl)⟩
theorem mlL_13 : Cond.methodLink RL 13 yX8_panel ∈ WS := wl_wsL_law_r6 _ (List.mem_of_getElem? (i := 3) rfl)
theorem cd_yX8_panel : Cond.code yX8_panel cX8_panel 5 (some .int) ∈ WS := wl_wsL_law_r6 _ (List.mem_of_getElem? (i := 6) rfl)
theorem flX8_64 : FL RX8 64 7 4 RX7 TX7 7 tyX7 := ⟨cls7, by decide, wl_wsL_law_r6 _ (List.mem_of_getElem? (i := 7) rfl)⟩
theorem mlX8_60 : Cond.methodLink RX8 60 yX8_isPoint ∈ WS := wl_wsL_law_r6 _ (List.mem_of_getElem? (i := 8) rfl)
theorem is_yX8_isPoint : Cond.static yX8_isPoint ∈ WS := wl_wsL_law_r6 _ (List.mem_of_getElem? (i := 9) rfl)
theorem cd_yX8_isPoint : Cond.code yX8_isPoint cX8_isPoint 2 (some .boolean) ∈ WS := wl_wsL_law_r6 _ (List.mem_of_getElem? (i := 10) rfl)
theorem mlX8_72 : Cond.methodLink RX8 72 yX8_isWithin ∈ WS := wl_wsL_law_r6 _ (List.mem_of_getElem? (i := 11) rfl)
theorem is_yX8_isWithin : Cond.static yX8_isWithin ∈ WS := wl_wsL_law_r6 _ (List.mem_of_getElem? (i := 12) rfl)
theorem cd_yX8_isWithin : Cond.code yX8_isWithin cX8_isWithin 3 (some .boolean) ∈ WS := wl_wsL_law_r6 _ (List.mem_of_getElem? (i := 13) rfl)
theorem mlX8_68 : Cond.methodLink RX8 68 yX7_add ∈ WS := wl_wsL_law_r6 _ (List.mem_of_getElem? (i := 14) rfl)
theorem cd_yX7_add : Cond.code yX7_add cX7_add 5 (some .int) ∈ WS := wl_wsL_law_r6 _ (List.mem_of_getElem? (i := 17) rfl)
theorem flX7_31 : FL RX7 31 7 4 RX7 TX7 7 tyX7 := ⟨cls7, by decide, wl_wsL_law_r6 _ (List.mem_of_getElem? (i := 18) rfl)⟩
theorem mlL_17 : Cond.methodLink RL 17 yX9_panel ∈ WS := wl_wsL_law_r6 _ (List.mem_of_getElem? (i := 19) rfl)
theorem cd_yX9_panel : Cond.code yX9_panel cX9_panel 5 (some .int) ∈ WS := wl_wsL_law_r6 _ (List.mem_of_getElem? (i := 22) rfl)
theorem flX9_99 : FL RX9 99 9 0 RX9 TX9 38 tyX9 := ⟨cls9, by decide, wl_wsL_law_r6 _ (List.mem_of_getElem? (i := 23) rfl)⟩
theorem flX9_108 : FL RX9 108 9 1 RX9 TX9 38 tyX9 := ⟨cls9, by decide, wl_wsL_law_r7 _ (List.mem_of_getElem? (i := 0) rfl)⟩
theorem mlX9_134 : Cond.methodLink RX9 134 yX9_noPoint ∈ WS := wl_wsL_law_r7 _ (List.mem_of_getElem? (i := 1) rfl)
theorem is_yX9_noPoint : Cond.static yX9_noPoint ∈ WS := wl_wsL_law_r7 _ (List.mem_of_getElem? (i := 2) rfl)
theorem cd_yX9_noPoint : Cond.code yX9_noPoint cX9_noPoint 2 (some .boolean) ∈ WS := wl_wsL_law_r7 _ (List.mem_of_getElem? (i := 3) rfl)
theorem ckX9_102 : Cond.constantLong RX9 102 (60) ∈ WS := wl_wsL_law_r7 _ (List.mem_of_getElem? (i := 4) rfl)
theorem mlX9_104 : Cond.methodLink RX9 104 yX9_in ∈ WS := wl_wsL_law_r7 _ (List.mem_of_getElem? (i := 5) rfl)
theorem is_yX9_in : Cond.static yX9_in ∈ WS := wl_wsL_law_r7 _ (List.mem_of_getElem? (i := 6) rfl)
theorem cd_yX9_in : Cond.code yX9_in cX9_in 6 (some .boolean) ∈ WS := wl_wsL_law_r7 _ (List.mem_of_getElem? (i := 7) rfl)
theorem mlL_18 : Cond.methodLink RL 18 yX8_eye ∈ WS := wl_wsL_law_r7 _ (List.mem_of_getElem? (i := 8) rfl)
theorem cd_yX8_eye : Cond.code yX8_eye cX8_eye 4 (some .int) ∈ WS := wl_wsL_law_r7 _ (List.mem_of_getElem? (i := 11) rfl)
theorem flX8_76 : FL RX8 76 7 5 RX7 TX7 7 tyX7 := ⟨cls7, by decide, wl_wsL_law_r7 _ (List.mem_of_getElem? (i := 12) rfl)⟩
theorem flX8_79 : FL RX8 79 7 6 RX7 TX7 7 tyX7 := ⟨cls7, by decide, wl_wsL_law_r7 _ (List.mem_of_getElem? (i := 13) rfl)⟩
theorem mlL_22 : Cond.methodLink RL 22 yX9_eye ∈ WS := wl_wsL_law_r7 _ (List.mem_of_getElem? (i := 14) rfl)
theorem cd_yX9_eye : Cond.code yX9_eye cX9_eye 4 (some .int) ∈ WS := wl_wsL_law_r7 _ (List.mem_of_getElem? (i := 17) rfl)
theorem ckX9_138 : Cond.constantLong RX9 138 (90) ∈ WS := wl_wsL_law_r7 _ (List.mem_of_getElem? (i := 18) rfl)
theorem ckX9_128 : Cond.constantLong RX9 128 (100) ∈ WS := wl_wsL_law_r7 _ (List.mem_of_getElem? (i := 19) rfl)
theorem mlL_23 : Cond.methodLink RL 23 yX8_view ∈ WS := wl_wsL_law_r7 _ (List.mem_of_getElem? (i := 20) rfl)
theorem cd_yX8_view : Cond.code yX8_view cX8_view 3 (some .int) ∈ WS := wl_wsL_law_r7 _ (List.mem_of_getElem? (i := 23) rfl)
theorem flX8_82 : FL RX8 82 5 2 RX5 TX5 3 tyX5 := ⟨cls5, by decide, wl_wsL_law_r8 _ (List.mem_of_getElem? (i := 0) rfl)⟩
theorem mlX8_83 : Cond.methodLink RX8 83 yX5_add ∈ WS := wl_wsL_law_r8 _ (List.mem_of_getElem? (i := 1) rfl)
theorem cd_yX5_add : Cond.code yX5_add cX5_add 3 (some .int) ∈ WS := wl_wsL_law_r8 _ (List.mem_of_getElem? (i := 4) rfl)
theorem flX5_16 : FL RX5 16 5 2 RX5 TX5 3 tyX5 := ⟨cls5, by decide, wl_wsL_law_r8 _ (List.mem_of_getElem? (i := 5) rfl)⟩
theorem mlL_26 : Cond.methodLink RL 26 yX9_view ∈ WS := wl_wsL_law_r8 _ (List.mem_of_getElem? (i := 6) rfl)
theorem cd_yX9_view : Cond.code yX9_view cX9_view 3 (some .int) ∈ WS := wl_wsL_law_r8 _ (List.mem_of_getElem? (i := 9) rfl)
theorem flX9_111 : FL RX9 111 9 8 RX9 TX9 38 tyX9 := ⟨cls9, by decide, wl_wsL_law_r8 _ (List.mem_of_getElem? (i := 10) rfl)⟩
theorem mlL_27 : Cond.methodLink RL 27 yX8_seen ∈ WS := wl_wsL_law_r8 _ (List.mem_of_getElem? (i := 11) rfl)
theorem cd_yX8_seen : Cond.code yX8_seen cX8_seen 4 (some .int) ∈ WS := wl_wsL_law_r8 _ (List.mem_of_getElem? (i := 14) rfl)
theorem mlX8_86 : Cond.methodLink RX8 86 yX8_isPanel ∈ WS := wl_wsL_law_r8 _ (List.mem_of_getElem? (i := 15) rfl)
theorem cd_yX8_isPanel : Cond.code yX8_isPanel cX8_isPanel 2 (some .boolean) ∈ WS := wl_wsL_law_r8 _ (List.mem_of_getElem? (i := 18) rfl)
theorem mlX8_90 : Cond.methodLink RX8 90 yX7_isVisible ∈ WS := wl_wsL_law_r8 _ (List.mem_of_getElem? (i := 19) rfl)
theorem cd_yX7_isVisible : Cond.code yX7_isVisible cX7_isVisible 15 (some .boolean) ∈ WS := wl_wsL_law_r8 _ (List.mem_of_getElem? (i := 22) rfl)
theorem ckX7_38 : Cond.constantLong RX7 38 (100) ∈ WS := wl_wsL_law_r8 _ (List.mem_of_getElem? (i := 23) rfl)
theorem mlX7_40 : Cond.methodLink RX7 40 yX7_isTouched ∈ WS := wl_wsL_law_r9 _ (List.mem_of_getElem? (i := 0) rfl)
theorem cd_yX7_isTouched : Cond.code yX7_isTouched cX7_isTouched 10 (some .boolean) ∈ WS := wl_wsL_law_r9 _ (List.mem_of_getElem? (i := 3) rfl)
theorem mlX7_44 : Cond.methodLink RX7 44 yX7_doOverlap ∈ WS := wl_wsL_law_r9 _ (List.mem_of_getElem? (i := 4) rfl)
theorem is_yX7_doOverlap : Cond.static yX7_doOverlap ∈ WS := wl_wsL_law_r9 _ (List.mem_of_getElem? (i := 5) rfl)
theorem cd_yX7_doOverlap : Cond.code yX7_doOverlap cX7_doOverlap 4 (some .boolean) ∈ WS := wl_wsL_law_r9 _ (List.mem_of_getElem? (i := 6) rfl)
theorem mlX7_56 : Cond.methodLink RX7 56 Lib.Math.max.name ∈ WS := wl_wsL_law_r9 _ (List.mem_of_getElem? (i := 7) rfl)
theorem is_Mmax : Cond.static Lib.Math.max.name ∈ WS := wl_wsL_law_r9 _ (List.mem_of_getElem? (i := 8) rfl)
theorem ini_java_lang_Math : Cond.initialized "java/lang/Math" ∈ WS := wl_wsL_law_r9 _ (List.mem_of_getElem? (i := 9) rfl)
theorem cd_Mmax : Cond.code Lib.Math.max.name Lib.Math.max.code 2 (some .int) ∈ WS := wl_wsL_law_r9 _ (List.mem_of_getElem? (i := 10) rfl)
theorem mlX7_62 : Cond.methodLink RX7 62 Lib.Math.min.name ∈ WS := wl_wsL_law_r9 _ (List.mem_of_getElem? (i := 11) rfl)
theorem is_Mmin : Cond.static Lib.Math.min.name ∈ WS := wl_wsL_law_r9 _ (List.mem_of_getElem? (i := 12) rfl)
theorem cd_Mmin : Cond.code Lib.Math.min.name Lib.Math.min.code 2 (some .int) ∈ WS := wl_wsL_law_r9 _ (List.mem_of_getElem? (i := 13) rfl)
theorem is_yX8_turn : Cond.static yX8_turn ∈ WS := wl_wsL_law_r9 _ (List.mem_of_getElem? (i := 14) rfl)
theorem cd_yX8_turn : Cond.code yX8_turn cX8_turn 6 (some .int) ∈ WS := wl_wsL_law_r9 _ (List.mem_of_getElem? (i := 15) rfl)
theorem mlX7_52 : Cond.methodLink RX7 52 yX7_areApart ∈ WS := wl_wsL_law_r9 _ (List.mem_of_getElem? (i := 16) rfl)
theorem is_yX7_areApart : Cond.static yX7_areApart ∈ WS := wl_wsL_law_r9 _ (List.mem_of_getElem? (i := 17) rfl)
theorem cd_yX7_areApart : Cond.code yX7_areApart cX7_areApart 2 (some .boolean) ∈ WS := wl_wsL_law_r9 _ (List.mem_of_getElem? (i := 18) rfl)
theorem mlX8_93 : Cond.methodLink RX8 93 yX8_asNumber ∈ WS := wl_wsL_law_r9 _ (List.mem_of_getElem? (i := 19) rfl)
theorem is_yX8_asNumber : Cond.static yX8_asNumber ∈ WS := wl_wsL_law_r9 _ (List.mem_of_getElem? (i := 20) rfl)
theorem cd_yX8_asNumber : Cond.code yX8_asNumber cX8_asNumber 1 (some .int) ∈ WS := wl_wsL_law_r9 _ (List.mem_of_getElem? (i := 21) rfl)
theorem mlL_31 : Cond.methodLink RL 31 yX9_seen ∈ WS := wl_wsL_law_r9 _ (List.mem_of_getElem? (i := 22) rfl)
theorem cd_yX9_seen : Cond.code yX9_seen cX9_seen 4 (some .int) ∈ WS := wl_wsL_law_r10 _ (List.mem_of_getElem? (i := 1) rfl)
theorem mlX9_140 : Cond.methodLink RX9 140 yX9_noPanel ∈ WS := wl_wsL_law_r10 _ (List.mem_of_getElem? (i := 2) rfl)
theorem cd_yX9_noPanel : Cond.code yX9_noPanel cX9_noPanel 2 (some .boolean) ∈ WS := wl_wsL_law_r10 _ (List.mem_of_getElem? (i := 5) rfl)
theorem mlX9_144 : Cond.methodLink RX9 144 yX9_isSeen ∈ WS := wl_wsL_law_r10 _ (List.mem_of_getElem? (i := 6) rfl)
theorem cd_yX9_isSeen : Cond.code yX9_isSeen cX9_isSeen 18 (some .boolean) ∈ WS := wl_wsL_law_r10 _ (List.mem_of_getElem? (i := 9) rfl)
theorem ckX9_126 : Cond.constantLong RX9 126 (4) ∈ WS := wl_wsL_law_r10 _ (List.mem_of_getElem? (i := 10) rfl)
theorem mlX9_114 : Cond.methodLink RX9 114 yX9_cross ∈ WS := wl_wsL_law_r10 _ (List.mem_of_getElem? (i := 11) rfl)
theorem is_yX9_cross : Cond.static yX9_cross ∈ WS := wl_wsL_law_r10 _ (List.mem_of_getElem? (i := 12) rfl)
theorem cd_yX9_cross : Cond.code yX9_cross cX9_cross 4 (some .int) ∈ WS := wl_wsL_law_r10 _ (List.mem_of_getElem? (i := 13) rfl)
theorem mlX9_130 : Cond.methodLink RX9 130 yX9_meet ∈ WS := wl_wsL_law_r10 _ (List.mem_of_getElem? (i := 14) rfl)
theorem is_yX9_meet : Cond.static yX9_meet ∈ WS := wl_wsL_law_r10 _ (List.mem_of_getElem? (i := 15) rfl)
theorem cd_yX9_meet : Cond.code yX9_meet cX9_meet 12 (some .boolean) ∈ WS := wl_wsL_law_r10 _ (List.mem_of_getElem? (i := 16) rfl)
theorem mlX9_118 : Cond.methodLink RX9 118 yX9_sign ∈ WS := wl_wsL_law_r10 _ (List.mem_of_getElem? (i := 17) rfl)
theorem is_yX9_sign : Cond.static yX9_sign ∈ WS := wl_wsL_law_r10 _ (List.mem_of_getElem? (i := 18) rfl)
theorem cd_yX9_sign : Cond.code yX9_sign cX9_sign 1 (some .int) ∈ WS := wl_wsL_law_r10 _ (List.mem_of_getElem? (i := 19) rfl)
theorem mlX9_122 : Cond.methodLink RX9 122 yX9_isBetween ∈ WS := wl_wsL_law_r10 _ (List.mem_of_getElem? (i := 20) rfl)
theorem is_yX9_isBetween : Cond.static yX9_isBetween ∈ WS := wl_wsL_law_r10 _ (List.mem_of_getElem? (i := 21) rfl)
theorem cd_yX9_isBetween : Cond.code yX9_isBetween cX9_isBetween 8 (some .boolean) ∈ WS := wl_wsL_law_r10 _ (List.mem_of_getElem? (i := 22) rfl)
theorem mlL_32 : Cond.methodLink RL 32 yX8_sees ∈ WS := wl_wsL_law_r10 _ (List.mem_of_getElem? (i := 23) rfl)
theorem cd_yX8_sees : Cond.code yX8_sees cX8_sees 2 (some .int) ∈ WS := wl_wsL_law_r11 _ (List.mem_of_getElem? (i := 2) rfl)
theorem flX8_97 : FL RX8 97 5 0 RX5 TX5 3 tyX5 := ⟨cls5, by decide, wl_wsL_law_r11 _ (List.mem_of_getElem? (i := 3) rfl)⟩
theorem flX8_101 : FL RX8 101 5 1 RX5 TX5 3 tyX5 := ⟨cls5, by decide, wl_wsL_law_r11 _ (List.mem_of_getElem? (i := 4) rfl)⟩
theorem mlX8_104 : Cond.methodLink RX8 104 yX7_visibleFrom ∈ WS := wl_wsL_law_r11 _ (List.mem_of_getElem? (i := 5) rfl)
theorem cd_yX7_visibleFrom : Cond.code yX7_visibleFrom cX7_visibleFrom 5 (some .int) ∈ WS := wl_wsL_law_r11 _ (List.mem_of_getElem? (i := 8) rfl)
theorem mlX7_34 : Cond.methodLink RX7 34 yX7_isVisible ∈ WS := wl_wsL_law_r11 _ (List.mem_of_getElem? (i := 9) rfl)
theorem mlL_36 : Cond.methodLink RL 36 yX9_sees ∈ WS := wl_wsL_law_r11 _ (List.mem_of_getElem? (i := 10) rfl)
theorem cd_yX9_sees : Cond.code yX9_sees cX9_sees 2 (some .int) ∈ WS := wl_wsL_law_r11 _ (List.mem_of_getElem? (i := 13) rfl)
theorem mlX9_148 : Cond.methodLink RX9 148 yX9_seesOf ∈ WS := wl_wsL_law_r11 _ (List.mem_of_getElem? (i := 14) rfl)
theorem cd_yX9_seesOf : Cond.code yX9_seesOf cX9_seesOf 4 (some .int) ∈ WS := wl_wsL_law_r11 _ (List.mem_of_getElem? (i := 17) rfl)
theorem mlL_37 : Cond.methodLink RL 37 yX8_cover ∈ WS := wl_wsL_law_r11 _ (List.mem_of_getElem? (i := 18) rfl)
theorem cd_yX8_cover : Cond.code yX8_cover cX8_cover 2 (some .int) ∈ WS := wl_wsL_law_r11 _ (List.mem_of_getElem? (i := 21) rfl)
theorem mlX8_107 : Cond.methodLink RX8 107 yX3_watch ∈ WS := wl_wsL_law_r11 _ (List.mem_of_getElem? (i := 22) rfl)
theorem cd_yX3_watch : Cond.code yX3_watch cX3_watch 6 none ∈ WS := wl_wsL_law_r12 _ (List.mem_of_getElem? (i := 1) rfl)
theorem flX3_15 : FL RX3 15 7 4 RX7 TX7 7 tyX7 := ⟨cls7, by decide, wl_wsL_law_r12 _ (List.mem_of_getElem? (i := 2) rfl)⟩
theorem flX3_21 : FL RX3 21 3 1 RX3 TX3 2 tyX3 := ⟨cls3, by decide, wl_wsL_law_r12 _ (List.mem_of_getElem? (i := 3) rfl)⟩
theorem flX3_24 : FL RX3 24 5 2 RX5 TX5 3 tyX5 := ⟨cls5, by decide, wl_wsL_law_r12 _ (List.mem_of_getElem? (i := 4) rfl)⟩
theorem flX3_27 : FL RX3 27 5 0 RX5 TX5 3 tyX5 := ⟨cls5, by decide, wl_wsL_law_r12 _ (List.mem_of_getElem? (i := 5) rfl)⟩
theorem flX3_30 : FL RX3 30 5 1 RX5 TX5 3 tyX5 := ⟨cls5, by decide, wl_wsL_law_r12 _ (List.mem_of_getElem? (i := 6) rfl)⟩
theorem mlX3_33 : Cond.methodLink RX3 33 yX7_isVisible ∈ WS := wl_wsL_law_r12 _ (List.mem_of_getElem? (i := 7) rfl)
theorem mlX8_111 : Cond.methodLink RX8 111 yX3_smallestCover ∈ WS := wl_wsL_law_r12 _ (List.mem_of_getElem? (i := 8) rfl)
theorem cd_yX3_smallestCover : Cond.code yX3_smallestCover cX3_smallestCover 7 (some .int) ∈ WS := wl_wsL_law_r12 _ (List.mem_of_getElem? (i := 11) rfl)
theorem mlX3_40 : Cond.methodLink RX3 40 yJ6_bitCount_0f7a4 ∈ WS := wl_wsL_law_r12 _ (List.mem_of_getElem? (i := 12) rfl)
theorem is_yJ6_bitCount_0f7a4 : Cond.static yJ6_bitCount_0f7a4 ∈ WS := wl_wsL_law_r12 _ (List.mem_of_getElem? (i := 13) rfl)
theorem ini_RJ6 : Cond.initialized RJ6 ∈ WS := wl_wsL_law_r12 _ (List.mem_of_getElem? (i := 14) rfl)
theorem cd_yJ6_bitCount_0f7a4 : Cond.code yJ6_bitCount_0f7a4 cJ6_bitCount_0f7a4 1 (some .int) ∈ WS := wl_wsL_law_r12 _ (List.mem_of_getElem? (i := 15) rfl)
theorem ckJ6_265 : Cond.constant RJ6 265 (1431655765) ∈ WS := wl_wsL_law_r12 _ (List.mem_of_getElem? (i := 16) rfl)
theorem ckJ6_266 : Cond.constant RJ6 266 (858993459) ∈ WS := wl_wsL_law_r12 _ (List.mem_of_getElem? (i := 17) rfl)
theorem ckJ6_267 : Cond.constant RJ6 267 (252645135) ∈ WS := wl_wsL_law_r12 _ (List.mem_of_getElem? (i := 18) rfl)
theorem mlX3_50 : Cond.methodLink RX3 50 yX3_leastTimes ∈ WS := wl_wsL_law_r12 _ (List.mem_of_getElem? (i := 19) rfl)
theorem cd_yX3_leastTimes : Cond.code yX3_leastTimes cX3_leastTimes 4 (some .int) ∈ WS := wl_wsL_law_r12 _ (List.mem_of_getElem? (i := 22) rfl)
theorem ckX3_39 : Cond.constant RX3 39 (2147483647) ∈ WS := wl_wsL_law_r12 _ (List.mem_of_getElem? (i := 23) rfl)
theorem mlX3_44 : Cond.methodLink RX3 44 Lib.Math.min.name ∈ WS := wl_wsL_law_r13 _ (List.mem_of_getElem? (i := 0) rfl)
theorem mlL_40 : Cond.methodLink RL 40 yX9_cover ∈ WS := wl_wsL_law_r13 _ (List.mem_of_getElem? (i := 1) rfl)
theorem cd_yX9_cover : Cond.code yX9_cover cX9_cover 4 (some .int) ∈ WS := wl_wsL_law_r13 _ (List.mem_of_getElem? (i := 4) rfl)
theorem ckX9_152 : Cond.constantLong RX9 152 (3) ∈ WS := wl_wsL_law_r13 _ (List.mem_of_getElem? (i := 5) rfl)
theorem mlX9_154 : Cond.methodLink RX9 154 yX9_look ∈ WS := wl_wsL_law_r13 _ (List.mem_of_getElem? (i := 6) rfl)
theorem cd_yX9_look : Cond.code yX9_look cX9_look 2 none ∈ WS := wl_wsL_law_r13 _ (List.mem_of_getElem? (i := 9) rfl)
theorem mlX9_157 : Cond.methodLink RX9 157 yX9_bits ∈ WS := wl_wsL_law_r13 _ (List.mem_of_getElem? (i := 10) rfl)
theorem is_yX9_bits : Cond.static yX9_bits ∈ WS := wl_wsL_law_r13 _ (List.mem_of_getElem? (i := 11) rfl)
theorem cd_yX9_bits : Cond.code yX9_bits cX9_bits 3 (some .int) ∈ WS := wl_wsL_law_r13 _ (List.mem_of_getElem? (i := 12) rfl)
theorem mlX9_160 : Cond.methodLink RX9 160 yX9_timesOf ∈ WS := wl_wsL_law_r13 _ (List.mem_of_getElem? (i := 13) rfl)
theorem cd_yX9_timesOf : Cond.code yX9_timesOf cX9_timesOf 6 (some .int) ∈ WS := wl_wsL_law_r13 _ (List.mem_of_getElem? (i := 16) rfl)
theorem ckX9_151 : Cond.constant RX9 151 (1000000) ∈ WS := wl_wsL_law_r13 _ (List.mem_of_getElem? (i := 17) rfl)
theorem mlL_41 : Cond.methodLink RL 41 yX8_covers ∈ WS := wl_wsL_law_r13 _ (List.mem_of_getElem? (i := 18) rfl)
theorem cd_yX8_covers : Cond.code yX8_covers cX8_covers 3 (some .int) ∈ WS := wl_wsL_law_r13 _ (List.mem_of_getElem? (i := 21) rfl)
theorem mlX8_114 : Cond.methodLink RX8 114 yX8_isViewSet ∈ WS := wl_wsL_law_r13 _ (List.mem_of_getElem? (i := 22) rfl)
theorem cd_yX8_isViewSet : Cond.code yX8_isViewSet cX8_isViewSet 2 (some .boolean) ∈ WS := wl_wsL_law_r14 _ (List.mem_of_getElem? (i := 1) rfl)
theorem mlX8_117 : Cond.methodLink RX8 117 yX3_leastTimes ∈ WS := wl_wsL_law_r14 _ (List.mem_of_getElem? (i := 2) rfl)
theorem mlL_44 : Cond.methodLink RL 44 yX9_covers ∈ WS := wl_wsL_law_r14 _ (List.mem_of_getElem? (i := 3) rfl)
theorem cd_yX9_covers : Cond.code yX9_covers cX9_covers 3 (some .int) ∈ WS := wl_wsL_law_r14 _ (List.mem_of_getElem? (i := 6) rfl)
theorem mlX9_163 : Cond.methodLink RX9 163 yX9_noSet ∈ WS := wl_wsL_law_r14 _ (List.mem_of_getElem? (i := 7) rfl)
theorem cd_yX9_noSet : Cond.code yX9_noSet cX9_noSet 2 (some .boolean) ∈ WS := wl_wsL_law_r14 _ (List.mem_of_getElem? (i := 10) rfl)
theorem mlL_45 : Cond.methodLink RL 45 yX8_times ∈ WS := wl_wsL_law_r14 _ (List.mem_of_getElem? (i := 11) rfl)
theorem cd_yX8_times : Cond.code yX8_times cX8_times 2 (some .int) ∈ WS := wl_wsL_law_r14 _ (List.mem_of_getElem? (i := 14) rfl)
theorem mlL_48 : Cond.methodLink RL 48 yX9_times ∈ WS := wl_wsL_law_r14 _ (List.mem_of_getElem? (i := 15) rfl)
theorem cd_yX9_times : Cond.code yX9_times cX9_times 2 (some .int) ∈ WS := wl_wsL_law_r14 _ (List.mem_of_getElem? (i := 18) rfl)
theorem mlL_49 : Cond.methodLink RL 49 yX8_close ∈ WS := wl_wsL_law_r14 _ (List.mem_of_getElem? (i := 19) rfl)
theorem cd_yX8_close : Cond.code yX8_close cX8_close 5 (some .int) ∈ WS := wl_wsL_law_r14 _ (List.mem_of_getElem? (i := 22) rfl)
theorem flX8_121 : FL RX8 121 0 4 RX0 TX0 7 tyX0 := ⟨cls0, by decide, wl_wsL_law_r14 _ (List.mem_of_getElem? (i := 23) rfl)⟩
theorem mlX8_122 : Cond.methodLink RX8 122 yX0_add ∈ WS := wl_wsL_law_r15 _ (List.mem_of_getElem? (i := 0) rfl)
theorem cd_yX0_add : Cond.code yX0_add cX0_add 5 none ∈ WS := wl_wsL_law_r15 _ (List.mem_of_getElem? (i := 3) rfl)
theorem flX0_24 : FL RX0 24 0 4 RX0 TX0 7 tyX0 := ⟨cls0, by decide, wl_wsL_law_r15 _ (List.mem_of_getElem? (i := 4) rfl)⟩
theorem mlX8_125 : Cond.methodLink RX8 125 yX8_forgetRoutes ∈ WS := wl_wsL_law_r15 _ (List.mem_of_getElem? (i := 5) rfl)
theorem cd_yX8_forgetRoutes : Cond.code yX8_forgetRoutes cX8_forgetRoutes 1 none ∈ WS := wl_wsL_law_r15 _ (List.mem_of_getElem? (i := 8) rfl)
theorem flX8_211 : FL RX8 211 8 7 RX8 TX8 8 tyX8 := ⟨cls8, by decide, wl_wsL_law_r15 _ (List.mem_of_getElem? (i := 9) rfl)⟩
theorem mlX8_221 : Cond.methodLink RX8 221 yX6_forget ∈ WS := wl_wsL_law_r15 _ (List.mem_of_getElem? (i := 10) rfl)
theorem ini_RX6 : Cond.initialized RX6 ∈ WS := wl_wsL_law_r15 _ (List.mem_of_getElem? (i := 13) rfl)
theorem cd_yX6_forget : Cond.code yX6_forget cX6_forget 1 none ∈ WS := wl_wsL_law_r15 _ (List.mem_of_getElem? (i := 14) rfl)
theorem flX6_36 : FL RX6 36 6 7 RX6 TX6 9 tyX6 := ⟨cls6, by decide, wl_wsL_law_r15 _ (List.mem_of_getElem? (i := 15) rfl)⟩
theorem flX6_40 : FL RX6 40 6 8 RX6 TX6 9 tyX6 := ⟨cls6, by decide, wl_wsL_law_r15 _ (List.mem_of_getElem? (i := 16) rfl)⟩
theorem mlL_52 : Cond.methodLink RL 52 yX9_close ∈ WS := wl_wsL_law_r15 _ (List.mem_of_getElem? (i := 17) rfl)
theorem cd_yX9_close : Cond.code yX9_close cX9_close 5 (some .int) ∈ WS := wl_wsL_law_r15 _ (List.mem_of_getElem? (i := 20) rfl)
theorem flX9_166 : FL RX9 166 9 11 RX9 TX9 38 tyX9 := ⟨cls9, by decide, wl_wsL_law_r15 _ (List.mem_of_getElem? (i := 21) rfl)⟩
theorem mlL_53 : Cond.methodLink RL 53 yX8_open ∈ WS := wl_wsL_law_r15 _ (List.mem_of_getElem? (i := 22) rfl)
theorem cd_yX8_open : Cond.code yX8_open cX8_open 1 (some .int) ∈ WS := wl_wsL_law_r16 _ (List.mem_of_getElem? (i := 1) rfl)
theorem mlL_57 : Cond.methodLink RL 57 yX9_open ∈ WS := wl_wsL_law_r16 _ (List.mem_of_getElem? (i := 2) rfl)
theorem cd_yX9_open : Cond.code yX9_open cX9_open 1 (some .int) ∈ WS := wl_wsL_law_r16 _ (List.mem_of_getElem? (i := 5) rfl)
theorem mlL_58 : Cond.methodLink RL 58 yX8_wind ∈ WS := wl_wsL_law_r16 _ (List.mem_of_getElem? (i := 6) rfl)
theorem cd_yX8_wind : Cond.code yX8_wind cX8_wind 4 (some .int) ∈ WS := wl_wsL_law_r16 _ (List.mem_of_getElem? (i := 9) rfl)
theorem flX8_128 : FL RX8 128 0 5 RX0 TX0 7 tyX0 := ⟨cls0, by decide, wl_wsL_law_r16 _ (List.mem_of_getElem? (i := 10) rfl)⟩
theorem flX8_131 : FL RX8 131 0 6 RX0 TX0 7 tyX0 := ⟨cls0, by decide, wl_wsL_law_r16 _ (List.mem_of_getElem? (i := 11) rfl)⟩
theorem mlL_61 : Cond.methodLink RL 61 yX9_wind ∈ WS := wl_wsL_law_r16 _ (List.mem_of_getElem? (i := 12) rfl)
theorem cd_yX9_wind : Cond.code yX9_wind cX9_wind 4 (some .int) ∈ WS := wl_wsL_law_r16 _ (List.mem_of_getElem? (i := 15) rfl)
theorem ckX9_179 : Cond.constantLong RX9 179 (-9) ∈ WS := wl_wsL_law_r16 _ (List.mem_of_getElem? (i := 16) rfl)
theorem ckX9_181 : Cond.constantLong RX9 181 (9) ∈ WS := wl_wsL_law_r16 _ (List.mem_of_getElem? (i := 17) rfl)
theorem flX9_173 : FL RX9 173 9 16 RX9 TX9 38 tyX9 := ⟨cls9, by decide, wl_wsL_law_r16 _ (List.mem_of_getElem? (i := 18) rfl)⟩
theorem flX9_176 : FL RX9 176 9 17 RX9 TX9 38 tyX9 := ⟨cls9, by decide, wl_wsL_law_r16 _ (List.mem_of_getElem? (i := 19) rfl)⟩
theorem mlL_62 : Cond.methodLink RL 62 yX8_base ∈ WS := wl_wsL_law_r16 _ (List.mem_of_getElem? (i := 20) rfl)
theorem cd_yX8_base : Cond.code yX8_base cX8_base 4 (some .int) ∈ WS := wl_wsL_law_r16 _ (List.mem_of_getElem? (i := 23) rfl)
theorem flX8_134 : FL RX8 134 1 0 RX1 TX1 4 tyX1 := ⟨cls1, by decide, wl_wsL_law_r17 _ (List.mem_of_getElem? (i := 0) rfl)⟩
theorem flX8_137 : FL RX8 137 1 1 RX1 TX1 4 tyX1 := ⟨cls1, by decide, wl_wsL_law_r17 _ (List.mem_of_getElem? (i := 1) rfl)⟩
theorem mlL_65 : Cond.methodLink RL 65 yX9_base ∈ WS := wl_wsL_law_r17 _ (List.mem_of_getElem? (i := 2) rfl)
theorem cd_yX9_base : Cond.code yX9_base cX9_base 4 (some .int) ∈ WS := wl_wsL_law_r17 _ (List.mem_of_getElem? (i := 5) rfl)
theorem mlL_66 : Cond.methodLink RL 66 yX8_store ∈ WS := wl_wsL_law_r17 _ (List.mem_of_getElem? (i := 6) rfl)
theorem cd_yX8_store : Cond.code yX8_store cX8_store 4 (some .int) ∈ WS := wl_wsL_law_r17 _ (List.mem_of_getElem? (i := 9) rfl)
theorem flX8_140 : FL RX8 140 1 2 RX1 TX1 4 tyX1 := ⟨cls1, by decide, wl_wsL_law_r17 _ (List.mem_of_getElem? (i := 10) rfl)⟩
theorem flX8_143 : FL RX8 143 1 3 RX1 TX1 4 tyX1 := ⟨cls1, by decide, wl_wsL_law_r17 _ (List.mem_of_getElem? (i := 11) rfl)⟩
theorem mlL_69 : Cond.methodLink RL 69 yX9_store ∈ WS := wl_wsL_law_r17 _ (List.mem_of_getElem? (i := 12) rfl)
theorem cd_yX9_store : Cond.code yX9_store cX9_store 4 (some .int) ∈ WS := wl_wsL_law_r17 _ (List.mem_of_getElem? (i := 15) rfl)
theorem ckX9_183 : Cond.constantLong RX9 183 (30000) ∈ WS := wl_wsL_law_r17 _ (List.mem_of_getElem? (i := 16) rfl)
theorem ckX9_185 : Cond.constantLong RX9 185 (500) ∈ WS := wl_wsL_law_r17 _ (List.mem_of_getElem? (i := 17) rfl)
theorem flX9_187 : FL RX9 187 9 19 RX9 TX9 38 tyX9 := ⟨cls9, by decide, wl_wsL_law_r17 _ (List.mem_of_getElem? (i := 18) rfl)⟩
theorem mlL_70 : Cond.methodLink RL 70 yX8_leg ∈ WS := wl_wsL_law_r17 _ (List.mem_of_getElem? (i := 19) rfl)
theorem cd_yX8_leg : Cond.code yX8_leg cX8_leg 5 (some .int) ∈ WS := wl_wsL_law_r17 _ (List.mem_of_getElem? (i := 22) rfl)
theorem mlX8_146 : Cond.methodLink RX8 146 yX0_isShut ∈ WS := wl_wsL_law_r17 _ (List.mem_of_getElem? (i := 23) rfl)
theorem cd_yX0_isShut : Cond.code yX0_isShut cX0_isShut 6 (some .boolean) ∈ WS := wl_wsL_law_r18 _ (List.mem_of_getElem? (i := 2) rfl)
theorem mlX0_28 : Cond.methodLink RX0 28 yX0_goesInto ∈ WS := wl_wsL_law_r18 _ (List.mem_of_getElem? (i := 3) rfl)
theorem cd_yX0_goesInto : Cond.code yX0_goesInto cX0_goesInto 10 (some .boolean) ∈ WS := wl_wsL_law_r18 _ (List.mem_of_getElem? (i := 6) rfl)
theorem mlX0_32 : Cond.methodLink RX0 32 Lib.Math.max.name ∈ WS := wl_wsL_law_r18 _ (List.mem_of_getElem? (i := 7) rfl)
theorem mlX0_38 : Cond.methodLink RX0 38 Lib.Math.min.name ∈ WS := wl_wsL_law_r18 _ (List.mem_of_getElem? (i := 8) rfl)
theorem mlX8_150 : Cond.methodLink RX8 150 yX0_cost ∈ WS := wl_wsL_law_r18 _ (List.mem_of_getElem? (i := 9) rfl)
theorem cd_yX0_cost : Cond.code yX0_cost cX0_cost 5 (some .int) ∈ WS := wl_wsL_law_r18 _ (List.mem_of_getElem? (i := 12) rfl)
theorem flX0_49 : FL RX0 49 0 5 RX0 TX0 7 tyX0 := ⟨cls0, by decide, wl_wsL_law_r18 _ (List.mem_of_getElem? (i := 13) rfl)⟩
theorem flX0_52 : FL RX0 52 0 6 RX0 TX0 7 tyX0 := ⟨cls0, by decide, wl_wsL_law_r18 _ (List.mem_of_getElem? (i := 14) rfl)⟩
theorem mlX0_45 : Cond.methodLink RX0 45 yX0_rootUp ∈ WS := wl_wsL_law_r18 _ (List.mem_of_getElem? (i := 15) rfl)
theorem is_yX0_rootUp : Cond.static yX0_rootUp ∈ WS := wl_wsL_law_r18 _ (List.mem_of_getElem? (i := 16) rfl)
theorem cd_yX0_rootUp : Cond.code yX0_rootUp cX0_rootUp 4 (some .int) ∈ WS := wl_wsL_law_r18 _ (List.mem_of_getElem? (i := 17) rfl)
theorem mlL_73 : Cond.methodLink RL 73 yX9_leg ∈ WS := wl_wsL_law_r18 _ (List.mem_of_getElem? (i := 18) rfl)
theorem cd_yX9_leg : Cond.code yX9_leg cX9_leg 6 (some .int) ∈ WS := wl_wsL_law_r18 _ (List.mem_of_getElem? (i := 21) rfl)
theorem mlX9_190 : Cond.methodLink RX9 190 yX9_legOf ∈ WS := wl_wsL_law_r18 _ (List.mem_of_getElem? (i := 22) rfl)
theorem cd_yX9_legOf : Cond.code yX9_legOf cX9_legOf 10 (some .int) ∈ WS := wl_wsL_law_r19 _ (List.mem_of_getElem? (i := 1) rfl)
theorem mlX9_169 : Cond.methodLink RX9 169 yX9_isInside ∈ WS := wl_wsL_law_r19 _ (List.mem_of_getElem? (i := 2) rfl)
theorem cd_yX9_isInside : Cond.code yX9_isInside cX9_isInside 25 (some .boolean) ∈ WS := wl_wsL_law_r19 _ (List.mem_of_getElem? (i := 5) rfl)
theorem mlL_74 : Cond.methodLink RL 74 yX8_round ∈ WS := wl_wsL_law_r19 _ (List.mem_of_getElem? (i := 6) rfl)
theorem cd_yX8_round : Cond.code yX8_round cX8_round 2 (some .int) ∈ WS := wl_wsL_law_r19 _ (List.mem_of_getElem? (i := 9) rfl)
theorem mlX8_153 : Cond.methodLink RX8 153 yX8_routesFor ∈ WS := wl_wsL_law_r19 _ (List.mem_of_getElem? (i := 10) rfl)
theorem cd_yX8_routesFor : Cond.code yX8_routesFor cX8_routesFor 2 (some (.object "WingLooks$Routes")) ∈ WS := wl_wsL_law_r19 _ (List.mem_of_getElem? (i := 13) rfl)
theorem wd_classLink_RX8_158_RX6 : Cond.classLink RX8 158 RX6 ∈ WS := wl_wsL_law_r19 _ (List.mem_of_getElem? (i := 14) rfl)
theorem wd_instantiable_RX6_9 : Cond.instantiable RX6 9 ∈ WS := wl_wsL_law_r19 _ (List.mem_of_getElem? (i := 15) rfl)
theorem mlX8_215 : Cond.methodLink RX8 215 yX6_init ∈ WS := wl_wsL_law_r19 _ (List.mem_of_getElem? (i := 16) rfl)
theorem cd_yX6_init : Cond.code yX6_init cX6_init 4 none ∈ WS := wl_wsL_law_r19 _ (List.mem_of_getElem? (i := 18) rfl)
theorem mlX6_5 : Cond.methodLink RX6 5 objectInit ∈ WS := wl_wsL_law_r19 _ (List.mem_of_getElem? (i := 19) rfl)
theorem flX6_11 : FL RX6 11 6 3 RX6 TX6 9 tyX6 := ⟨cls6, by decide, wl_wsL_law_r19 _ (List.mem_of_getElem? (i := 20) rfl)⟩
theorem flX6_15 : FL RX6 15 6 4 RX6 TX6 9 tyX6 := ⟨cls6, by decide, wl_wsL_law_r19 _ (List.mem_of_getElem? (i := 21) rfl)⟩
theorem flX6_18 : FL RX6 18 6 5 RX6 TX6 9 tyX6 := ⟨cls6, by decide, wl_wsL_law_r19 _ (List.mem_of_getElem? (i := 22) rfl)⟩
theorem flX6_21 : FL RX6 21 6 6 RX6 TX6 9 tyX6 := ⟨cls6, by decide, wl_wsL_law_r19 _ (List.mem_of_getElem? (i := 23) rfl)⟩
theorem flX6_24 : FL RX6 24 6 0 RX6 TX6 9 tyX6 := ⟨cls6, by decide, wl_wsL_law_r20 _ (List.mem_of_getElem? (i := 0) rfl)⟩
theorem flX6_28 : FL RX6 28 6 1 RX6 TX6 9 tyX6 := ⟨cls6, by decide, wl_wsL_law_r20 _ (List.mem_of_getElem? (i := 1) rfl)⟩
theorem flX6_32 : FL RX6 32 6 2 RX6 TX6 9 tyX6 := ⟨cls6, by decide, wl_wsL_law_r20 _ (List.mem_of_getElem? (i := 2) rfl)⟩
theorem mlX8_218 : Cond.methodLink RX8 218 yX6_learn ∈ WS := wl_wsL_law_r20 _ (List.mem_of_getElem? (i := 3) rfl)
theorem cd_yX6_learn : Cond.code yX6_learn cX6_learn 3 none ∈ WS := wl_wsL_law_r20 _ (List.mem_of_getElem? (i := 6) rfl)
theorem mlX6_43 : Cond.methodLink RX6 43 yX6_measureLegs ∈ WS := wl_wsL_law_r20 _ (List.mem_of_getElem? (i := 7) rfl)
theorem cd_yX6_measureLegs : Cond.code yX6_measureLegs cX6_measureLegs 7 none ∈ WS := wl_wsL_law_r20 _ (List.mem_of_getElem? (i := 10) rfl)
theorem ckX6_71 : Cond.constant RX6 71 (1000000) ∈ WS := wl_wsL_law_r20 _ (List.mem_of_getElem? (i := 11) rfl)
theorem is_yX8_has : Cond.static yX8_has ∈ WS := wl_wsL_law_r20 _ (List.mem_of_getElem? (i := 12) rfl)
theorem cd_yX8_has : Cond.code yX8_has cX8_has 2 (some .boolean) ∈ WS := wl_wsL_law_r20 _ (List.mem_of_getElem? (i := 13) rfl)
theorem mlX6_58 : Cond.methodLink RX6 58 yX6_xOf ∈ WS := wl_wsL_law_r20 _ (List.mem_of_getElem? (i := 14) rfl)
theorem cd_yX6_xOf : Cond.code yX6_xOf cX6_xOf 2 (some .int) ∈ WS := wl_wsL_law_r20 _ (List.mem_of_getElem? (i := 17) rfl)
theorem flX6_75 : FL RX6 75 1 0 RX1 TX1 4 tyX1 := ⟨cls1, by decide, wl_wsL_law_r20 _ (List.mem_of_getElem? (i := 18) rfl)⟩
theorem flX6_80 : FL RX6 80 5 0 RX5 TX5 3 tyX5 := ⟨cls5, by decide, wl_wsL_law_r20 _ (List.mem_of_getElem? (i := 19) rfl)⟩
theorem mlX6_62 : Cond.methodLink RX6 62 yX6_yOf ∈ WS := wl_wsL_law_r20 _ (List.mem_of_getElem? (i := 20) rfl)
theorem cd_yX6_yOf : Cond.code yX6_yOf cX6_yOf 2 (some .int) ∈ WS := wl_wsL_law_r20 _ (List.mem_of_getElem? (i := 23) rfl)
theorem flX6_85 : FL RX6 85 1 1 RX1 TX1 4 tyX1 := ⟨cls1, by decide, wl_wsL_law_r21 _ (List.mem_of_getElem? (i := 0) rfl)⟩
theorem flX6_88 : FL RX6 88 5 1 RX5 TX5 3 tyX5 := ⟨cls5, by decide, wl_wsL_law_r21 _ (List.mem_of_getElem? (i := 1) rfl)⟩
theorem mlX6_65 : Cond.methodLink RX6 65 yX0_isShut ∈ WS := wl_wsL_law_r21 _ (List.mem_of_getElem? (i := 2) rfl)
theorem mlX6_72 : Cond.methodLink RX6 72 yX0_cost ∈ WS := wl_wsL_law_r21 _ (List.mem_of_getElem? (i := 3) rfl)
theorem mlX6_47 : Cond.methodLink RX6 47 yX6_fillTails ∈ WS := wl_wsL_law_r21 _ (List.mem_of_getElem? (i := 4) rfl)
theorem cd_yX6_fillTails : Cond.code yX6_fillTails cX6_fillTails 3 none ∈ WS := wl_wsL_law_r21 _ (List.mem_of_getElem? (i := 7) rfl)
theorem flX6_91 : FL RX6 91 1 3 RX1 TX1 4 tyX1 := ⟨cls1, by decide, wl_wsL_law_r21 _ (List.mem_of_getElem? (i := 8) rfl)⟩
theorem mlX6_50 : Cond.methodLink RX6 50 yX6_costFrom ∈ WS := wl_wsL_law_r21 _ (List.mem_of_getElem? (i := 9) rfl)
theorem cd_yX6_costFrom : Cond.code yX6_costFrom cX6_costFrom 5 (some .int) ∈ WS := wl_wsL_law_r21 _ (List.mem_of_getElem? (i := 12) rfl)
theorem mlX6_98 : Cond.methodLink RX6 98 Lib.Math.min.name ∈ WS := wl_wsL_law_r21 _ (List.mem_of_getElem? (i := 13) rfl)
theorem mlX6_94 : Cond.methodLink RX6 94 yX6_costBy ∈ WS := wl_wsL_law_r21 _ (List.mem_of_getElem? (i := 14) rfl)
theorem cd_yX6_costBy : Cond.code yX6_costBy cX6_costBy 4 (some .int) ∈ WS := wl_wsL_law_r21 _ (List.mem_of_getElem? (i := 17) rfl)
theorem mlX8_157 : Cond.methodLink RX8 157 yX6_roundCost ∈ WS := wl_wsL_law_r21 _ (List.mem_of_getElem? (i := 18) rfl)
theorem cd_yX6_roundCost : Cond.code yX6_roundCost cX6_roundCost 2 (some .int) ∈ WS := wl_wsL_law_r21 _ (List.mem_of_getElem? (i := 21) rfl)
theorem mlX6_103 : Cond.methodLink RX6 103 yX6_hasRound ∈ WS := wl_wsL_law_r21 _ (List.mem_of_getElem? (i := 22) rfl)
theorem cd_yX6_hasRound : Cond.code yX6_hasRound cX6_hasRound 2 (some .boolean) ∈ WS := wl_wsL_law_r22 _ (List.mem_of_getElem? (i := 1) rfl)
theorem mlL_77 : Cond.methodLink RL 77 yX9_round ∈ WS := wl_wsL_law_r22 _ (List.mem_of_getElem? (i := 2) rfl)
theorem cd_yX9_round : Cond.code yX9_round cX9_round 2 (some .int) ∈ WS := wl_wsL_law_r22 _ (List.mem_of_getElem? (i := 5) rfl)
theorem mlX9_193 : Cond.methodLink RX9 193 yX9_fly ∈ WS := wl_wsL_law_r22 _ (List.mem_of_getElem? (i := 6) rfl)
theorem cd_yX9_fly : Cond.code yX9_fly cX9_fly 6 none ∈ WS := wl_wsL_law_r22 _ (List.mem_of_getElem? (i := 9) rfl)
theorem mlX9_196 : Cond.methodLink RX9 196 yX9_roundOf ∈ WS := wl_wsL_law_r22 _ (List.mem_of_getElem? (i := 10) rfl)
theorem cd_yX9_roundOf : Cond.code yX9_roundOf cX9_roundOf 2 (some .int) ∈ WS := wl_wsL_law_r22 _ (List.mem_of_getElem? (i := 13) rfl)
theorem mlL_78 : Cond.methodLink RL 78 yX8_stop ∈ WS := wl_wsL_law_r22 _ (List.mem_of_getElem? (i := 14) rfl)
theorem cd_yX8_stop : Cond.code yX8_stop cX8_stop 3 (some .int) ∈ WS := wl_wsL_law_r22 _ (List.mem_of_getElem? (i := 17) rfl)
theorem mlX8_162 : Cond.methodLink RX8 162 yX6_viewAt ∈ WS := wl_wsL_law_r22 _ (List.mem_of_getElem? (i := 18) rfl)
theorem cd_yX6_viewAt : Cond.code yX6_viewAt cX6_viewAt 6 (some .int) ∈ WS := wl_wsL_law_r22 _ (List.mem_of_getElem? (i := 21) rfl)
theorem mlX6_107 : Cond.methodLink RX6 107 yJ6_bitCount_0f7a4 ∈ WS := wl_wsL_law_r22 _ (List.mem_of_getElem? (i := 22) rfl)
theorem mlX6_112 : Cond.methodLink RX6 112 yX6_nextView ∈ WS := wl_wsL_law_r22 _ (List.mem_of_getElem? (i := 23) rfl)
theorem cd_yX6_nextView : Cond.code yX6_nextView cX6_nextView 6 (some .int) ∈ WS := wl_wsL_law_r23 _ (List.mem_of_getElem? (i := 2) rfl)
theorem ckX6_115 : Cond.constant RX6 115 (2147483647) ∈ WS := wl_wsL_law_r23 _ (List.mem_of_getElem? (i := 3) rfl)
theorem mlL_81 : Cond.methodLink RL 81 yX9_stop ∈ WS := wl_wsL_law_r23 _ (List.mem_of_getElem? (i := 4) rfl)
theorem cd_yX9_stop : Cond.code yX9_stop cX9_stop 9 (some .int) ∈ WS := wl_wsL_law_r23 _ (List.mem_of_getElem? (i := 7) rfl)
theorem mlL_82 : Cond.methodLink RL 82 yX8_flights ∈ WS := wl_wsL_law_r23 _ (List.mem_of_getElem? (i := 8) rfl)
theorem cd_yX8_flights : Cond.code yX8_flights cX8_flights 2 (some .int) ∈ WS := wl_wsL_law_r23 _ (List.mem_of_getElem? (i := 11) rfl)
theorem mlX8_165 : Cond.methodLink RX8 165 yX6_fewestTrips ∈ WS := wl_wsL_law_r23 _ (List.mem_of_getElem? (i := 12) rfl)
theorem cd_yX6_fewestTrips : Cond.code yX6_fewestTrips cX6_fewestTrips 2 (some .int) ∈ WS := wl_wsL_law_r23 _ (List.mem_of_getElem? (i := 15) rfl)
theorem ckX6_119 : Cond.constant RX6 119 (100000000) ∈ WS := wl_wsL_law_r23 _ (List.mem_of_getElem? (i := 16) rfl)
theorem mlX6_116 : Cond.methodLink RX6 116 yX6_splitUp ∈ WS := wl_wsL_law_r23 _ (List.mem_of_getElem? (i := 17) rfl)
theorem cd_yX6_splitUp : Cond.code yX6_splitUp cX6_splitUp 3 none ∈ WS := wl_wsL_law_r23 _ (List.mem_of_getElem? (i := 20) rfl)
theorem mlX6_120 : Cond.methodLink RX6 120 yX6_bestSplit ∈ WS := wl_wsL_law_r23 _ (List.mem_of_getElem? (i := 21) rfl)
theorem cd_yX6_bestSplit : Cond.code yX6_bestSplit cX6_bestSplit 9 (some .int) ∈ WS := wl_wsL_law_r24 _ (List.mem_of_getElem? (i := 0) rfl)
theorem flX6_123 : FL RX6 123 1 2 RX1 TX1 4 tyX1 := ⟨cls1, by decide, wl_wsL_law_r24 _ (List.mem_of_getElem? (i := 1) rfl)⟩
theorem mlL_85 : Cond.methodLink RL 85 yX9_flights ∈ WS := wl_wsL_law_r24 _ (List.mem_of_getElem? (i := 2) rfl)
theorem cd_yX9_flights : Cond.code yX9_flights cX9_flights 2 (some .int) ∈ WS := wl_wsL_law_r24 _ (List.mem_of_getElem? (i := 5) rfl)
theorem mlX9_199 : Cond.methodLink RX9 199 yX9_part ∈ WS := wl_wsL_law_r24 _ (List.mem_of_getElem? (i := 6) rfl)
theorem cd_yX9_part : Cond.code yX9_part cX9_part 7 none ∈ WS := wl_wsL_law_r24 _ (List.mem_of_getElem? (i := 9) rfl)
theorem mlL_86 : Cond.methodLink RL 86 yX8_energy ∈ WS := wl_wsL_law_r24 _ (List.mem_of_getElem? (i := 10) rfl)
theorem cd_yX8_energy : Cond.code yX8_energy cX8_energy 2 (some .int) ∈ WS := wl_wsL_law_r24 _ (List.mem_of_getElem? (i := 13) rfl)
theorem mlX8_168 : Cond.methodLink RX8 168 yX6_cheapestTrips ∈ WS := wl_wsL_law_r24 _ (List.mem_of_getElem? (i := 14) rfl)
theorem cd_yX6_cheapestTrips : Cond.code yX6_cheapestTrips cX6_cheapestTrips 2 (some .int) ∈ WS := wl_wsL_law_r24 _ (List.mem_of_getElem? (i := 17) rfl)
theorem mlL_89 : Cond.methodLink RL 89 yX9_energy ∈ WS := wl_wsL_law_r24 _ (List.mem_of_getElem? (i := 18) rfl)
theorem cd_yX9_energy : Cond.code yX9_energy cX9_energy 2 (some .int) ∈ WS := wl_wsL_law_r24 _ (List.mem_of_getElem? (i := 21) rfl)
theorem mlL_90 : Cond.methodLink RL 90 yX8_log ∈ WS := wl_wsL_law_r24 _ (List.mem_of_getElem? (i := 22) rfl)
theorem cd_yX8_log : Cond.code yX8_log cX8_log 4 (some .int) ∈ WS := wl_wsL_law_r25 _ (List.mem_of_getElem? (i := 1) rfl)
theorem flX8_171 : FL RX8 171 2 0 RX2 TX2 2 tyX2 := ⟨cls2, by decide, wl_wsL_law_r25 _ (List.mem_of_getElem? (i := 2) rfl)⟩
theorem mlX8_174 : Cond.methodLink RX8 174 yX2_add ∈ WS := wl_wsL_law_r25 _ (List.mem_of_getElem? (i := 3) rfl)
theorem cd_yX2_add : Cond.code yX2_add cX2_add 4 (some .int) ∈ WS := wl_wsL_law_r25 _ (List.mem_of_getElem? (i := 6) rfl)
theorem flX2_24 : FL RX2 24 5 2 RX5 TX5 3 tyX5 := ⟨cls5, by decide, wl_wsL_law_r25 _ (List.mem_of_getElem? (i := 7) rfl)⟩
theorem mlX2_28 : Cond.methodLink RX2 28 yX5_add ∈ WS := wl_wsL_law_r25 _ (List.mem_of_getElem? (i := 8) rfl)
theorem mlL_93 : Cond.methodLink RL 93 yX9_log ∈ WS := wl_wsL_law_r25 _ (List.mem_of_getElem? (i := 9) rfl)
theorem cd_yX9_log : Cond.code yX9_log cX9_log 4 (some .int) ∈ WS := wl_wsL_law_r25 _ (List.mem_of_getElem? (i := 12) rfl)
theorem ckX9_202 : Cond.constantLong RX9 202 (5) ∈ WS := wl_wsL_law_r25 _ (List.mem_of_getElem? (i := 13) rfl)
theorem flX9_204 : FL RX9 204 9 20 RX9 TX9 38 tyX9 := ⟨cls9, by decide, wl_wsL_law_r25 _ (List.mem_of_getElem? (i := 14) rfl)⟩
theorem mlL_94 : Cond.methodLink RL 94 yX8_proves ∈ WS := wl_wsL_law_r25 _ (List.mem_of_getElem? (i := 15) rfl)
theorem cd_yX8_proves : Cond.code yX8_proves cX8_proves 3 (some .int) ∈ WS := wl_wsL_law_r25 _ (List.mem_of_getElem? (i := 18) rfl)
theorem mlX8_177 : Cond.methodLink RX8 177 yX2_isProof ∈ WS := wl_wsL_law_r25 _ (List.mem_of_getElem? (i := 19) rfl)
theorem cd_yX2_isProof : Cond.code yX2_isProof cX2_isProof 7 (some .boolean) ∈ WS := wl_wsL_law_r25 _ (List.mem_of_getElem? (i := 22) rfl)
theorem flX2_32 : FL RX2 32 5 0 RX5 TX5 3 tyX5 := ⟨cls5, by decide, wl_wsL_law_r25 _ (List.mem_of_getElem? (i := 23) rfl)⟩
theorem flX2_35 : FL RX2 35 5 1 RX5 TX5 3 tyX5 := ⟨cls5, by decide, wl_wsL_law_r26 _ (List.mem_of_getElem? (i := 0) rfl)⟩
theorem mlX2_38 : Cond.methodLink RX2 38 yX7_isVisible ∈ WS := wl_wsL_law_r26 _ (List.mem_of_getElem? (i := 1) rfl)
theorem mlL_97 : Cond.methodLink RL 97 yX9_proves ∈ WS := wl_wsL_law_r26 _ (List.mem_of_getElem? (i := 2) rfl)
theorem cd_yX9_proves : Cond.code yX9_proves cX9_proves 3 (some .int) ∈ WS := wl_wsL_law_r26 _ (List.mem_of_getElem? (i := 5) rfl)
theorem mlX9_207 : Cond.methodLink RX9 207 yX9_isProved ∈ WS := wl_wsL_law_r26 _ (List.mem_of_getElem? (i := 6) rfl)
theorem cd_yX9_isProved : Cond.code yX9_isProved cX9_isProved 5 (some .boolean) ∈ WS := wl_wsL_law_r26 _ (List.mem_of_getElem? (i := 9) rfl)
theorem mlL_98 : Cond.methodLink RL 98 yX8_proved ∈ WS := wl_wsL_law_r26 _ (List.mem_of_getElem? (i := 10) rfl)
theorem cd_yX8_proved : Cond.code yX8_proved cX8_proved 2 (some .int) ∈ WS := wl_wsL_law_r26 _ (List.mem_of_getElem? (i := 13) rfl)
theorem mlX8_181 : Cond.methodLink RX8 181 yX2_proofs ∈ WS := wl_wsL_law_r26 _ (List.mem_of_getElem? (i := 14) rfl)
theorem cd_yX2_proofs : Cond.code yX2_proofs cX2_proofs 6 (some .int) ∈ WS := wl_wsL_law_r26 _ (List.mem_of_getElem? (i := 17) rfl)
theorem mlX2_44 : Cond.methodLink RX2 44 yX2_isProof ∈ WS := wl_wsL_law_r26 _ (List.mem_of_getElem? (i := 18) rfl)
theorem mlL_101 : Cond.methodLink RL 101 yX9_proved ∈ WS := wl_wsL_law_r26 _ (List.mem_of_getElem? (i := 19) rfl)
theorem cd_yX9_proved : Cond.code yX9_proved cX9_proved 2 (some .int) ∈ WS := wl_wsL_law_r26 _ (List.mem_of_getElem? (i := 22) rfl)
theorem mlX9_210 : Cond.methodLink RX9 210 yX9_provedOf ∈ WS := wl_wsL_law_r26 _ (List.mem_of_getElem? (i := 23) rfl)
theorem cd_yX9_provedOf : Cond.code yX9_provedOf cX9_provedOf 4 (some .int) ∈ WS := wl_wsL_law_r27 _ (List.mem_of_getElem? (i := 2) rfl)
theorem mlL_102 : Cond.methodLink RL 102 yX8_missing ∈ WS := wl_wsL_law_r27 _ (List.mem_of_getElem? (i := 3) rfl)
theorem cd_yX8_missing : Cond.code yX8_missing cX8_missing 5 (some .int) ∈ WS := wl_wsL_law_r27 _ (List.mem_of_getElem? (i := 6) rfl)
theorem mlL_105 : Cond.methodLink RL 105 yX9_missing ∈ WS := wl_wsL_law_r27 _ (List.mem_of_getElem? (i := 7) rfl)
theorem cd_yX9_missing : Cond.code yX9_missing cX9_missing 5 (some .int) ∈ WS := wl_wsL_law_r27 _ (List.mem_of_getElem? (i := 10) rfl)
theorem mlL_106 : Cond.methodLink RL 106 yX8_mark ∈ WS := wl_wsL_law_r27 _ (List.mem_of_getElem? (i := 11) rfl)
theorem cd_yX8_mark : Cond.code yX8_mark cX8_mark 5 (some .int) ∈ WS := wl_wsL_law_r27 _ (List.mem_of_getElem? (i := 14) rfl)
theorem flX8_188 : FL RX8 188 4 5 RX4 TX4 11 tyX4 := ⟨cls4, by decide, wl_wsL_law_r27 _ (List.mem_of_getElem? (i := 15) rfl)⟩
theorem mlX8_185 : Cond.methodLink RX8 185 yX8_isYear ∈ WS := wl_wsL_law_r27 _ (List.mem_of_getElem? (i := 16) rfl)
theorem is_yX8_isYear : Cond.static yX8_isYear ∈ WS := wl_wsL_law_r27 _ (List.mem_of_getElem? (i := 17) rfl)
theorem cd_yX8_isYear : Cond.code yX8_isYear cX8_isYear 1 (some .boolean) ∈ WS := wl_wsL_law_r27 _ (List.mem_of_getElem? (i := 18) rfl)
theorem mlX8_189 : Cond.methodLink RX8 189 yX4_add ∈ WS := wl_wsL_law_r27 _ (List.mem_of_getElem? (i := 19) rfl)
theorem cd_yX4_add : Cond.code yX4_add cX4_add 5 (some .int) ∈ WS := wl_wsL_law_r27 _ (List.mem_of_getElem? (i := 22) rfl)
theorem flX4_37 : FL RX4 37 4 5 RX4 TX4 11 tyX4 := ⟨cls4, by decide, wl_wsL_law_r27 _ (List.mem_of_getElem? (i := 23) rfl)⟩
theorem mlL_109 : Cond.methodLink RL 109 yX9_mark ∈ WS := wl_wsL_law_r28 _ (List.mem_of_getElem? (i := 0) rfl)
theorem cd_yX9_mark : Cond.code yX9_mark cX9_mark 5 (some .int) ∈ WS := wl_wsL_law_r28 _ (List.mem_of_getElem? (i := 3) rfl)
theorem ckX9_213 : Cond.constantLong RX9 213 (1000) ∈ WS := wl_wsL_law_r28 _ (List.mem_of_getElem? (i := 4) rfl)
theorem flX9_215 : FL RX9 215 9 24 RX9 TX9 38 tyX9 := ⟨cls9, by decide, wl_wsL_law_r28 _ (List.mem_of_getElem? (i := 5) rfl)⟩
theorem mlL_110 : Cond.methodLink RL 110 yX8_wipe ∈ WS := wl_wsL_law_r28 _ (List.mem_of_getElem? (i := 6) rfl)
theorem cd_yX8_wipe : Cond.code yX8_wipe cX8_wipe 2 (some .int) ∈ WS := wl_wsL_law_r28 _ (List.mem_of_getElem? (i := 9) rfl)
theorem flX8_190 : FL RX8 190 4 4 RX4 TX4 11 tyX4 := ⟨cls4, by decide, wl_wsL_law_r28 _ (List.mem_of_getElem? (i := 10) rfl)⟩
theorem mlL_113 : Cond.methodLink RL 113 yX9_wipe ∈ WS := wl_wsL_law_r28 _ (List.mem_of_getElem? (i := 11) rfl)
theorem cd_yX9_wipe : Cond.code yX9_wipe cX9_wipe 2 (some .int) ∈ WS := wl_wsL_law_r28 _ (List.mem_of_getElem? (i := 14) rfl)
theorem mlL_114 : Cond.methodLink RL 114 yX8_marks ∈ WS := wl_wsL_law_r28 _ (List.mem_of_getElem? (i := 15) rfl)
theorem cd_yX8_marks : Cond.code yX8_marks cX8_marks 4 (some .int) ∈ WS := wl_wsL_law_r28 _ (List.mem_of_getElem? (i := 18) rfl)
theorem mlX8_194 : Cond.methodLink RX8 194 yX4_sum ∈ WS := wl_wsL_law_r28 _ (List.mem_of_getElem? (i := 19) rfl)
theorem cd_yX4_sum : Cond.code yX4_sum cX4_sum 6 (some .int) ∈ WS := wl_wsL_law_r28 _ (List.mem_of_getElem? (i := 22) rfl)
theorem mlX4_41 : Cond.methodLink RX4 41 yX4_isOf ∈ WS := wl_wsL_law_r28 _ (List.mem_of_getElem? (i := 23) rfl)
theorem cd_yX4_isOf : Cond.code yX4_isOf cX4_isOf 4 (some .boolean) ∈ WS := wl_wsL_law_r29 _ (List.mem_of_getElem? (i := 2) rfl)
theorem mlL_118 : Cond.methodLink RL 118 yX9_marks ∈ WS := wl_wsL_law_r29 _ (List.mem_of_getElem? (i := 3) rfl)
theorem cd_yX9_marks : Cond.code yX9_marks cX9_marks 6 (some .int) ∈ WS := wl_wsL_law_r29 _ (List.mem_of_getElem? (i := 6) rfl)
theorem mlX9_218 : Cond.methodLink RX9 218 yX9_isOn ∈ WS := wl_wsL_law_r29 _ (List.mem_of_getElem? (i := 7) rfl)
theorem cd_yX9_isOn : Cond.code yX9_isOn cX9_isOn 4 (some .boolean) ∈ WS := wl_wsL_law_r29 _ (List.mem_of_getElem? (i := 10) rfl)
theorem mlL_119 : Cond.methodLink RL 119 yX8_match ∈ WS := wl_wsL_law_r29 _ (List.mem_of_getElem? (i := 11) rfl)
theorem cd_yX8_match : Cond.code yX8_match cX8_match 6 (some .int) ∈ WS := wl_wsL_law_r29 _ (List.mem_of_getElem? (i := 14) rfl)
theorem flX8_201 : FL RX8 201 4 10 RX4 TX4 11 tyX4 := ⟨cls4, by decide, wl_wsL_law_r29 _ (List.mem_of_getElem? (i := 15) rfl)⟩
theorem flX8_204 : FL RX8 204 4 9 RX4 TX4 11 tyX4 := ⟨cls4, by decide, wl_wsL_law_r29 _ (List.mem_of_getElem? (i := 16) rfl)⟩
theorem mlX8_198 : Cond.methodLink RX8 198 yX4_pairUp ∈ WS := wl_wsL_law_r29 _ (List.mem_of_getElem? (i := 17) rfl)
theorem cd_yX4_pairUp : Cond.code yX4_pairUp cX4_pairUp 8 none ∈ WS := wl_wsL_law_r29 _ (List.mem_of_getElem? (i := 20) rfl)
theorem ckX4_53 : Cond.constant RX4 53 (100000) ∈ WS := wl_wsL_law_r29 _ (List.mem_of_getElem? (i := 21) rfl)
theorem flX4_54 : FL RX4 54 4 9 RX4 TX4 11 tyX4 := ⟨cls4, by decide, wl_wsL_law_r29 _ (List.mem_of_getElem? (i := 22) rfl)⟩
theorem flX4_57 : FL RX4 57 4 10 RX4 TX4 11 tyX4 := ⟨cls4, by decide, wl_wsL_law_r29 _ (List.mem_of_getElem? (i := 23) rfl)⟩
theorem mlX4_45 : Cond.methodLink RX4 45 yX4_sortPlaces ∈ WS := wl_wsL_law_r30 _ (List.mem_of_getElem? (i := 0) rfl)
theorem cd_yX4_sortPlaces : Cond.code yX4_sortPlaces cX4_sortPlaces 7 (some .int) ∈ WS := wl_wsL_law_r30 _ (List.mem_of_getElem? (i := 3) rfl)
theorem mlX4_49 : Cond.methodLink RX4 49 yX4_addPlace ∈ WS := wl_wsL_law_r30 _ (List.mem_of_getElem? (i := 4) rfl)
theorem cd_yX4_addPlace : Cond.code yX4_addPlace cX4_addPlace 8 none ∈ WS := wl_wsL_law_r30 _ (List.mem_of_getElem? (i := 7) rfl)
theorem mlX4_60 : Cond.methodLink RX4 60 Lib.Math.abs.name ∈ WS := wl_wsL_law_r30 _ (List.mem_of_getElem? (i := 8) rfl)
theorem is_Mabs : Cond.static Lib.Math.abs.name ∈ WS := wl_wsL_law_r30 _ (List.mem_of_getElem? (i := 9) rfl)
theorem cd_Mabs : Cond.code Lib.Math.abs.name Lib.Math.abs.code 1 (some .int) ∈ WS := wl_wsL_law_r30 _ (List.mem_of_getElem? (i := 10) rfl)
theorem mlX4_66 : Cond.methodLink RX4 66 Lib.Math.max.name ∈ WS := wl_wsL_law_r30 _ (List.mem_of_getElem? (i := 11) rfl)
theorem mlL_123 : Cond.methodLink RL 123 yX9_match ∈ WS := wl_wsL_law_r30 _ (List.mem_of_getElem? (i := 12) rfl)
theorem cd_yX9_match : Cond.code yX9_match cX9_match 12 (some .int) ∈ WS := wl_wsL_law_r30 _ (List.mem_of_getElem? (i := 15) rfl)
theorem mlX9_221 : Cond.methodLink RX9 221 yX9_placed ∈ WS := wl_wsL_law_r30 _ (List.mem_of_getElem? (i := 16) rfl)
theorem cd_yX9_placed : Cond.code yX9_placed cX9_placed 7 (some .int) ∈ WS := wl_wsL_law_r30 _ (List.mem_of_getElem? (i := 19) rfl)
theorem mlX9_225 : Cond.methodLink RX9 225 yX9_take ∈ WS := wl_wsL_law_r30 _ (List.mem_of_getElem? (i := 20) rfl)
theorem cd_yX9_take : Cond.code yX9_take cX9_take 7 none ∈ WS := wl_wsL_law_r30 _ (List.mem_of_getElem? (i := 23) rfl)
theorem mlL_124 : Cond.methodLink RL 124 yX8_count ∈ WS := wl_wsL_law_r31 _ (List.mem_of_getElem? (i := 0) rfl)
theorem cd_yX8_count : Cond.code yX8_count cX8_count 2 (some .int) ∈ WS := wl_wsL_law_r31 _ (List.mem_of_getElem? (i := 3) rfl)
theorem mlX8_207 : Cond.methodLink RX8 207 yX4_present ∈ WS := wl_wsL_law_r31 _ (List.mem_of_getElem? (i := 4) rfl)
theorem cd_yX4_present : Cond.code yX4_present cX4_present 3 (some .int) ∈ WS := wl_wsL_law_r31 _ (List.mem_of_getElem? (i := 7) rfl)
theorem mlL_127 : Cond.methodLink RL 127 yX9_count ∈ WS := wl_wsL_law_r31 _ (List.mem_of_getElem? (i := 8) rfl)
theorem cd_yX9_count : Cond.code yX9_count cX9_count 4 (some .int) ∈ WS := wl_wsL_law_r31 _ (List.mem_of_getElem? (i := 11) rfl)
theorem ii_yX8_init : Cond.instanceMethod yX8_init ∈ WS := wl_wsL_law_r1 _ (List.mem_of_getElem? (i := 7) rfl)
theorem ii_objectInit : Cond.instanceMethod objectInit ∈ WS := wl_wsL_law_r1 _ (List.mem_of_getElem? (i := 10) rfl)
theorem ii_yX7_init : Cond.instanceMethod yX7_init ∈ WS := wl_wsL_law_r2 _ (List.mem_of_getElem? (i := 16) rfl)
theorem ii_yX5_init : Cond.instanceMethod yX5_init ∈ WS := wl_wsL_law_r3 _ (List.mem_of_getElem? (i := 3) rfl)
theorem ii_yX3_init : Cond.instanceMethod yX3_init ∈ WS := wl_wsL_law_r3 _ (List.mem_of_getElem? (i := 8) rfl)
theorem ii_yX0_init : Cond.instanceMethod yX0_init ∈ WS := wl_wsL_law_r3 _ (List.mem_of_getElem? (i := 12) rfl)
theorem ii_yX1_init : Cond.instanceMethod yX1_init ∈ WS := wl_wsL_law_r3 _ (List.mem_of_getElem? (i := 19) rfl)
theorem ii_yX2_init : Cond.instanceMethod yX2_init ∈ WS := wl_wsL_law_r3 _ (List.mem_of_getElem? (i := 23) rfl)
theorem ii_yX4_init : Cond.instanceMethod yX4_init ∈ WS := wl_wsL_law_r4 _ (List.mem_of_getElem? (i := 6) rfl)
theorem ii_yX9_init : Cond.instanceMethod yX9_init ∈ WS := wl_wsL_law_r4 _ (List.mem_of_getElem? (i := 19) rfl)
theorem iv_yX8_panel : Cond.instanceMethod yX8_panel ∈ WS ∧ Cond.selects yX8_panel.cls yX8_panel yX8_panel ∈ WS := ⟨wl_wsL_law_r6 _ (List.mem_of_getElem? (i := 4) rfl), wl_wsL_law_r6 _ (List.mem_of_getElem? (i := 5) rfl)⟩
theorem iv_yX7_add : Cond.instanceMethod yX7_add ∈ WS ∧ Cond.selects yX7_add.cls yX7_add yX7_add ∈ WS := ⟨wl_wsL_law_r6 _ (List.mem_of_getElem? (i := 15) rfl), wl_wsL_law_r6 _ (List.mem_of_getElem? (i := 16) rfl)⟩
theorem iv_yX9_panel : Cond.instanceMethod yX9_panel ∈ WS ∧ Cond.selects yX9_panel.cls yX9_panel yX9_panel ∈ WS := ⟨wl_wsL_law_r6 _ (List.mem_of_getElem? (i := 20) rfl), wl_wsL_law_r6 _ (List.mem_of_getElem? (i := 21) rfl)⟩
theorem iv_yX8_eye : Cond.instanceMethod yX8_eye ∈ WS ∧ Cond.selects yX8_eye.cls yX8_eye yX8_eye ∈ WS := ⟨wl_wsL_law_r7 _ (List.mem_of_getElem? (i := 9) rfl), wl_wsL_law_r7 _ (List.mem_of_getElem? (i := 10) rfl)⟩
theorem iv_yX9_eye : Cond.instanceMethod yX9_eye ∈ WS ∧ Cond.selects yX9_eye.cls yX9_eye yX9_eye ∈ WS := ⟨wl_wsL_law_r7 _ (List.mem_of_getElem? (i := 15) rfl), wl_wsL_law_r7 _ (List.mem_of_getElem? (i := 16) rfl)⟩
theorem iv_yX8_view : Cond.instanceMethod yX8_view ∈ WS ∧ Cond.selects yX8_view.cls yX8_view yX8_view ∈ WS := ⟨wl_wsL_law_r7 _ (List.mem_of_getElem? (i := 21) rfl), wl_wsL_law_r7 _ (List.mem_of_getElem? (i := 22) rfl)⟩
theorem iv_yX5_add : Cond.instanceMethod yX5_add ∈ WS ∧ Cond.selects yX5_add.cls yX5_add yX5_add ∈ WS := ⟨wl_wsL_law_r8 _ (List.mem_of_getElem? (i := 2) rfl), wl_wsL_law_r8 _ (List.mem_of_getElem? (i := 3) rfl)⟩
theorem iv_yX9_view : Cond.instanceMethod yX9_view ∈ WS ∧ Cond.selects yX9_view.cls yX9_view yX9_view ∈ WS := ⟨wl_wsL_law_r8 _ (List.mem_of_getElem? (i := 7) rfl), wl_wsL_law_r8 _ (List.mem_of_getElem? (i := 8) rfl)⟩
theorem iv_yX8_seen : Cond.instanceMethod yX8_seen ∈ WS ∧ Cond.selects yX8_seen.cls yX8_seen yX8_seen ∈ WS := ⟨wl_wsL_law_r8 _ (List.mem_of_getElem? (i := 12) rfl), wl_wsL_law_r8 _ (List.mem_of_getElem? (i := 13) rfl)⟩
theorem iv_yX8_isPanel : Cond.instanceMethod yX8_isPanel ∈ WS ∧ Cond.selects yX8_isPanel.cls yX8_isPanel yX8_isPanel ∈ WS := ⟨wl_wsL_law_r8 _ (List.mem_of_getElem? (i := 16) rfl), wl_wsL_law_r8 _ (List.mem_of_getElem? (i := 17) rfl)⟩
theorem iv_yX7_isVisible : Cond.instanceMethod yX7_isVisible ∈ WS ∧ Cond.selects yX7_isVisible.cls yX7_isVisible yX7_isVisible ∈ WS := ⟨wl_wsL_law_r8 _ (List.mem_of_getElem? (i := 20) rfl), wl_wsL_law_r8 _ (List.mem_of_getElem? (i := 21) rfl)⟩
theorem iv_yX7_isTouched : Cond.instanceMethod yX7_isTouched ∈ WS ∧ Cond.selects yX7_isTouched.cls yX7_isTouched yX7_isTouched ∈ WS := ⟨wl_wsL_law_r9 _ (List.mem_of_getElem? (i := 1) rfl), wl_wsL_law_r9 _ (List.mem_of_getElem? (i := 2) rfl)⟩
theorem iv_yX9_seen : Cond.instanceMethod yX9_seen ∈ WS ∧ Cond.selects yX9_seen.cls yX9_seen yX9_seen ∈ WS := ⟨wl_wsL_law_r9 _ (List.mem_of_getElem? (i := 23) rfl), wl_wsL_law_r10 _ (List.mem_of_getElem? (i := 0) rfl)⟩
theorem iv_yX9_noPanel : Cond.instanceMethod yX9_noPanel ∈ WS ∧ Cond.selects yX9_noPanel.cls yX9_noPanel yX9_noPanel ∈ WS := ⟨wl_wsL_law_r10 _ (List.mem_of_getElem? (i := 3) rfl), wl_wsL_law_r10 _ (List.mem_of_getElem? (i := 4) rfl)⟩
theorem iv_yX9_isSeen : Cond.instanceMethod yX9_isSeen ∈ WS ∧ Cond.selects yX9_isSeen.cls yX9_isSeen yX9_isSeen ∈ WS := ⟨wl_wsL_law_r10 _ (List.mem_of_getElem? (i := 7) rfl), wl_wsL_law_r10 _ (List.mem_of_getElem? (i := 8) rfl)⟩
theorem iv_yX8_sees : Cond.instanceMethod yX8_sees ∈ WS ∧ Cond.selects yX8_sees.cls yX8_sees yX8_sees ∈ WS := ⟨wl_wsL_law_r11 _ (List.mem_of_getElem? (i := 0) rfl), wl_wsL_law_r11 _ (List.mem_of_getElem? (i := 1) rfl)⟩
theorem iv_yX7_visibleFrom : Cond.instanceMethod yX7_visibleFrom ∈ WS ∧ Cond.selects yX7_visibleFrom.cls yX7_visibleFrom yX7_visibleFrom ∈ WS := ⟨wl_wsL_law_r11 _ (List.mem_of_getElem? (i := 6) rfl), wl_wsL_law_r11 _ (List.mem_of_getElem? (i := 7) rfl)⟩
theorem iv_yX9_sees : Cond.instanceMethod yX9_sees ∈ WS ∧ Cond.selects yX9_sees.cls yX9_sees yX9_sees ∈ WS := ⟨wl_wsL_law_r11 _ (List.mem_of_getElem? (i := 11) rfl), wl_wsL_law_r11 _ (List.mem_of_getElem? (i := 12) rfl)⟩
theorem iv_yX9_seesOf : Cond.instanceMethod yX9_seesOf ∈ WS ∧ Cond.selects yX9_seesOf.cls yX9_seesOf yX9_seesOf ∈ WS := ⟨wl_wsL_law_r11 _ (List.mem_of_getElem? (i := 15) rfl), wl_wsL_law_r11 _ (List.mem_of_getElem? (i := 16) rfl)⟩
theorem iv_yX8_cover : Cond.instanceMethod yX8_cover ∈ WS ∧ Cond.selects yX8_cover.cls yX8_cover yX8_cover ∈ WS := ⟨wl_wsL_law_r11 _ (List.mem_of_getElem? (i := 19) rfl), wl_wsL_law_r11 _ (List.mem_of_getElem? (i := 20) rfl)⟩
theorem iv_yX3_watch : Cond.instanceMethod yX3_watch ∈ WS ∧ Cond.selects yX3_watch.cls yX3_watch yX3_watch ∈ WS := ⟨wl_wsL_law_r11 _ (List.mem_of_getElem? (i := 23) rfl), wl_wsL_law_r12 _ (List.mem_of_getElem? (i := 0) rfl)⟩
theorem iv_yX3_smallestCover : Cond.instanceMethod yX3_smallestCover ∈ WS ∧ Cond.selects yX3_smallestCover.cls yX3_smallestCover yX3_smallestCover ∈ WS := ⟨wl_wsL_law_r12 _ (List.mem_of_getElem? (i := 9) rfl), wl_wsL_law_r12 _ (List.mem_of_getElem? (i := 10) rfl)⟩
theorem iv_yX3_leastTimes : Cond.instanceMethod yX3_leastTimes ∈ WS ∧ Cond.selects yX3_leastTimes.cls yX3_leastTimes yX3_leastTimes ∈ WS := ⟨wl_wsL_law_r12 _ (List.mem_of_getElem? (i := 20) rfl), wl_wsL_law_r12 _ (List.mem_of_getElem? (i := 21) rfl)⟩
theorem iv_yX9_cover : Cond.instanceMethod yX9_cover ∈ WS ∧ Cond.selects yX9_cover.cls yX9_cover yX9_cover ∈ WS := ⟨wl_wsL_law_r13 _ (List.mem_of_getElem? (i := 2) rfl), wl_wsL_law_r13 _ (List.mem_of_getElem? (i := 3) rfl)⟩
theorem iv_yX9_look : Cond.instanceMethod yX9_look ∈ WS ∧ Cond.selects yX9_look.cls yX9_look yX9_look ∈ WS := ⟨wl_wsL_law_r13 _ (List.mem_of_getElem? (i := 7) rfl), wl_wsL_law_r13 _ (List.mem_of_getElem? (i := 8) rfl)⟩
theorem iv_yX9_timesOf : Cond.instanceMethod yX9_timesOf ∈ WS ∧ Cond.selects yX9_timesOf.cls yX9_timesOf yX9_timesOf ∈ WS := ⟨wl_wsL_law_r13 _ (List.mem_of_getElem? (i := 14) rfl), wl_wsL_law_r13 _ (List.mem_of_getElem? (i := 15) rfl)⟩
theorem iv_yX8_covers : Cond.instanceMethod yX8_covers ∈ WS ∧ Cond.selects yX8_covers.cls yX8_covers yX8_covers ∈ WS := ⟨wl_wsL_law_r13 _ (List.mem_of_getElem? (i := 19) rfl), wl_wsL_law_r13 _ (List.mem_of_getElem? (i := 20) rfl)⟩
theorem iv_yX8_isViewSet : Cond.instanceMethod yX8_isViewSet ∈ WS ∧ Cond.selects yX8_isViewSet.cls yX8_isViewSet yX8_isViewSet ∈ WS := ⟨wl_wsL_law_r13 _ (List.mem_of_getElem? (i := 23) rfl), wl_wsL_law_r14 _ (List.mem_of_getElem? (i := 0) rfl)⟩
theorem iv_yX9_covers : Cond.instanceMethod yX9_covers ∈ WS ∧ Cond.selects yX9_covers.cls yX9_covers yX9_covers ∈ WS := ⟨wl_wsL_law_r14 _ (List.mem_of_getElem? (i := 4) rfl), wl_wsL_law_r14 _ (List.mem_of_getElem? (i := 5) rfl)⟩
theorem iv_yX9_noSet : Cond.instanceMethod yX9_noSet ∈ WS ∧ Cond.selects yX9_noSet.cls yX9_noSet yX9_noSet ∈ WS := ⟨wl_wsL_law_r14 _ (List.mem_of_getElem? (i := 8) rfl), wl_wsL_law_r14 _ (List.mem_of_getElem? (i := 9) rfl)⟩
theorem iv_yX8_times : Cond.instanceMethod yX8_times ∈ WS ∧ Cond.selects yX8_times.cls yX8_times yX8_times ∈ WS := ⟨wl_wsL_law_r14 _ (List.mem_of_getElem? (i := 12) rfl), wl_wsL_law_r14 _ (List.mem_of_getElem? (i := 13) rfl)⟩
theorem iv_yX9_times : Cond.instanceMethod yX9_times ∈ WS ∧ Cond.selects yX9_times.cls yX9_times yX9_times ∈ WS := ⟨wl_wsL_law_r14 _ (List.mem_of_getElem? (i := 16) rfl), wl_wsL_law_r14 _ (List.mem_of_getElem? (i := 17) rfl)⟩
theorem iv_yX8_close : Cond.instanceMethod yX8_close ∈ WS ∧ Cond.selects yX8_close.cls yX8_close yX8_close ∈ WS := ⟨wl_wsL_law_r14 _ (List.mem_of_getElem? (i := 20) rfl), wl_wsL_law_r14 _ (List.mem_of_getElem? (i := 21) rfl)⟩
theorem iv_yX0_add : Cond.instanceMethod yX0_add ∈ WS ∧ Cond.selects yX0_add.cls yX0_add yX0_add ∈ WS := ⟨wl_wsL_law_r15 _ (List.mem_of_getElem? (i := 1) rfl), wl_wsL_law_r15 _ (List.mem_of_getElem? (i := 2) rfl)⟩
theorem iv_yX8_forgetRoutes : Cond.instanceMethod yX8_forgetRoutes ∈ WS ∧ Cond.selects yX8_forgetRoutes.cls yX8_forgetRoutes yX8_forgetRoutes ∈ WS := ⟨wl_wsL_law_r15 _ (List.mem_of_getElem? (i := 6) rfl), wl_wsL_law_r15 _ (List.mem_of_getElem? (i := 7) rfl)⟩
theorem iv_yX6_forget : Cond.instanceMethod yX6_forget ∈ WS ∧ Cond.selects yX6_forget.cls yX6_forget yX6_forget ∈ WS := ⟨wl_wsL_law_r15 _ (List.mem_of_getElem? (i := 11) rfl), wl_wsL_law_r15 _ (List.mem_of_getElem? (i := 12) rfl)⟩
theorem iv_yX9_close : Cond.instanceMethod yX9_close ∈ WS ∧ Cond.selects yX9_close.cls yX9_close yX9_close ∈ WS := ⟨wl_wsL_law_r15 _ (List.mem_of_getElem? (i := 18) rfl), wl_wsL_law_r15 _ (List.mem_of_getElem? (i := 19) rfl)⟩
theorem iv_yX8_open : Cond.instanceMethod yX8_open ∈ WS ∧ Cond.selects yX8_open.cls yX8_open yX8_open ∈ WS := ⟨wl_wsL_law_r15 _ (List.mem_of_getElem? (i := 23) rfl), wl_wsL_law_r16 _ (List.mem_of_getElem? (i := 0) rfl)⟩
theorem iv_yX9_open : Cond.instanceMethod yX9_open ∈ WS ∧ Cond.selects yX9_open.cls yX9_open yX9_open ∈ WS := ⟨wl_wsL_law_r16 _ (List.mem_of_getElem? (i := 3) rfl), wl_wsL_law_r16 _ (List.mem_of_getElem? (i := 4) rfl)⟩
theorem iv_yX8_wind : Cond.instanceMethod yX8_wind ∈ WS ∧ Cond.selects yX8_wind.cls yX8_wind yX8_wind ∈ WS := ⟨wl_wsL_law_r16 _ (List.mem_of_getElem? (i := 7) rfl), wl_wsL_law_r16 _ (List.mem_of_getElem? (i := 8) rfl)⟩
theorem iv_yX9_wind : Cond.instanceMethod yX9_wind ∈ WS ∧ Cond.selects yX9_wind.cls yX9_wind yX9_wind ∈ WS := ⟨wl_wsL_law_r16 _ (List.mem_of_getElem? (i := 13) rfl), wl_wsL_law_r16 _ (List.mem_of_getElem? (i := 14) rfl)⟩
theorem iv_yX8_base : Cond.instanceMethod yX8_base ∈ WS ∧ Cond.selects yX8_base.cls yX8_base yX8_base ∈ WS := ⟨wl_wsL_law_r16 _ (List.mem_of_getElem? (i := 21) rfl), wl_wsL_law_r16 _ (List.mem_of_getElem? (i := 22) rfl)⟩
theorem iv_yX9_base : Cond.instanceMethod yX9_base ∈ WS ∧ Cond.selects yX9_base.cls yX9_base yX9_base ∈ WS := ⟨wl_wsL_law_r17 _ (List.mem_of_getElem? (i := 3) rfl), wl_wsL_law_r17 _ (List.mem_of_getElem? (i := 4) rfl)⟩
theorem iv_yX8_store : Cond.instanceMethod yX8_store ∈ WS ∧ Cond.selects yX8_store.cls yX8_store yX8_store ∈ WS := ⟨wl_wsL_law_r17 _ (List.mem_of_getElem? (i := 7) rfl), wl_wsL_law_r17 _ (List.mem_of_getElem? (i := 8) rfl)⟩
theorem iv_yX9_store : Cond.instanceMethod yX9_store ∈ WS ∧ Cond.selects yX9_store.cls yX9_store yX9_store ∈ WS := ⟨wl_wsL_law_r17 _ (List.mem_of_getElem? (i := 13) rfl), wl_wsL_law_r17 _ (List.mem_of_getElem? (i := 14) rfl)⟩
theorem iv_yX8_leg : Cond.instanceMethod yX8_leg ∈ WS ∧ Cond.selects yX8_leg.cls yX8_leg yX8_leg ∈ WS := ⟨wl_wsL_law_r17 _ (List.mem_of_getElem? (i := 20) rfl), wl_wsL_law_r17 _ (List.mem_of_getElem? (i := 21) rfl)⟩
theorem iv_yX0_isShut : Cond.instanceMethod yX0_isShut ∈ WS ∧ Cond.selects yX0_isShut.cls yX0_isShut yX0_isShut ∈ WS := ⟨wl_wsL_law_r18 _ (List.mem_of_getElem? (i := 0) rfl), wl_wsL_law_r18 _ (List.mem_of_getElem? (i := 1) rfl)⟩
theorem iv_yX0_goesInto : Cond.instanceMethod yX0_goesInto ∈ WS ∧ Cond.selects yX0_goesInto.cls yX0_goesInto yX0_goesInto ∈ WS := ⟨wl_wsL_law_r18 _ (List.mem_of_getElem? (i := 4) rfl), wl_wsL_law_r18 _ (List.mem_of_getElem? (i := 5) rfl)⟩
theorem iv_yX0_cost : Cond.instanceMethod yX0_cost ∈ WS ∧ Cond.selects yX0_cost.cls yX0_cost yX0_cost ∈ WS := ⟨wl_wsL_law_r18 _ (List.mem_of_getElem? (i := 10) rfl), wl_wsL_law_r18 _ (List.mem_of_getElem? (i := 11) rfl)⟩
theorem iv_yX9_leg : Cond.instanceMethod yX9_leg ∈ WS ∧ Cond.selects yX9_leg.cls yX9_leg yX9_leg ∈ WS := ⟨wl_wsL_law_r18 _ (List.mem_of_getElem? (i := 19) rfl), wl_wsL_law_r18 _ (List.mem_of_getElem? (i := 20) rfl)⟩
theorem iv_yX9_legOf : Cond.instanceMethod yX9_legOf ∈ WS ∧ Cond.selects yX9_legOf.cls yX9_legOf yX9_legOf ∈ WS := ⟨wl_wsL_law_r18 _ (List.mem_of_getElem? (i := 23) rfl), wl_wsL_law_r19 _ (List.mem_of_getElem? (i := 0) rfl)⟩
theorem iv_yX9_isInside : Cond.instanceMethod yX9_isInside ∈ WS ∧ Cond.selects yX9_isInside.cls yX9_isInside yX9_isInside ∈ WS := ⟨wl_wsL_law_r19 _ (List.mem_of_getElem? (i := 3) rfl), wl_wsL_law_r19 _ (List.mem_of_getElem? (i := 4) rfl)⟩
theorem iv_yX8_round : Cond.instanceMethod yX8_round ∈ WS ∧ Cond.selects yX8_round.cls yX8_round yX8_round ∈ WS := ⟨wl_wsL_law_r19 _ (List.mem_of_getElem? (i := 7) rfl), wl_wsL_law_r19 _ (List.mem_of_getElem? (i := 8) rfl)⟩
theorem iv_yX8_routesFor : Cond.instanceMethod yX8_routesFor ∈ WS ∧ Cond.selects yX8_routesFor.cls yX8_routesFor yX8_routesFor ∈ WS := ⟨wl_wsL_law_r19 _ (List.mem_of_getElem? (i := 11) rfl), wl_wsL_law_r19 _ (List.mem_of_getElem? (i := 12) rfl)⟩
theorem ii_yX6_init : Cond.instanceMethod yX6_init ∈ WS := wl_wsL_law_r19 _ (List.mem_of_getElem? (i := 17) rfl)
theorem iv_yX6_learn : Cond.instanceMethod yX6_learn ∈ WS ∧ Cond.selects yX6_learn.cls yX6_learn yX6_learn ∈ WS := ⟨wl_wsL_law_r20 _ (List.mem_of_getElem? (i := 4) rfl), wl_wsL_law_r20 _ (List.mem_of_getElem? (i := 5) rfl)⟩
theorem iv_yX6_measureLegs : Cond.instanceMethod yX6_measureLegs ∈ WS ∧ Cond.selects yX6_measureLegs.cls yX6_measureLegs yX6_measureLegs ∈ WS := ⟨wl_wsL_law_r20 _ (List.mem_of_getElem? (i := 8) rfl), wl_wsL_law_r20 _ (List.mem_of_getElem? (i := 9) rfl)⟩
theorem iv_yX6_xOf : Cond.instanceMethod yX6_xOf ∈ WS ∧ Cond.selects yX6_xOf.cls yX6_xOf yX6_xOf ∈ WS := ⟨wl_wsL_law_r20 _ (List.mem_of_getElem? (i := 15) rfl), wl_wsL_law_r20 _ (List.mem_of_getElem? (i := 16) rfl)⟩
theorem iv_yX6_yOf : Cond.instanceMethod yX6_yOf ∈ WS ∧ Cond.selects yX6_yOf.cls yX6_yOf yX6_yOf ∈ WS := ⟨wl_wsL_law_r20 _ (List.mem_of_getElem? (i := 21) rfl), wl_wsL_law_r20 _ (List.mem_of_getElem? (i := 22) rfl)⟩
theorem iv_yX6_fillTails : Cond.instanceMethod yX6_fillTails ∈ WS ∧ Cond.selects yX6_fillTails.cls yX6_fillTails yX6_fillTails ∈ WS := ⟨wl_wsL_law_r21 _ (List.mem_of_getElem? (i := 5) rfl), wl_wsL_law_r21 _ (List.mem_of_getElem? (i := 6) rfl)⟩
theorem iv_yX6_costFrom : Cond.instanceMethod yX6_costFrom ∈ WS ∧ Cond.selects yX6_costFrom.cls yX6_costFrom yX6_costFrom ∈ WS := ⟨wl_wsL_law_r21 _ (List.mem_of_getElem? (i := 10) rfl), wl_wsL_law_r21 _ (List.mem_of_getElem? (i := 11) rfl)⟩
theorem iv_yX6_costBy : Cond.instanceMethod yX6_costBy ∈ WS ∧ Cond.selects yX6_costBy.cls yX6_costBy yX6_costBy ∈ WS := ⟨wl_wsL_law_r21 _ (List.mem_of_getElem? (i := 15) rfl), wl_wsL_law_r21 _ (List.mem_of_getElem? (i := 16) rfl)⟩
theorem iv_yX6_roundCost : Cond.instanceMethod yX6_roundCost ∈ WS ∧ Cond.selects yX6_roundCost.cls yX6_roundCost yX6_roundCost ∈ WS := ⟨wl_wsL_law_r21 _ (List.mem_of_getElem? (i := 19) rfl), wl_wsL_law_r21 _ (List.mem_of_getElem? (i := 20) rfl)⟩
theorem iv_yX6_hasRound : Cond.instanceMethod yX6_hasRound ∈ WS ∧ Cond.selects yX6_hasRound.cls yX6_hasRound yX6_hasRound ∈ WS := ⟨wl_wsL_law_r21 _ (List.mem_of_getElem? (i := 23) rfl), wl_wsL_law_r22 _ (List.mem_of_getElem? (i := 0) rfl)⟩
theorem iv_yX9_round : Cond.instanceMethod yX9_round ∈ WS ∧ Cond.selects yX9_round.cls yX9_round yX9_round ∈ WS := ⟨wl_wsL_law_r22 _ (List.mem_of_getElem? (i := 3) rfl), wl_wsL_law_r22 _ (List.mem_of_getElem? (i := 4) rfl)⟩
theorem iv_yX9_fly : Cond.instanceMethod yX9_fly ∈ WS ∧ Cond.selects yX9_fly.cls yX9_fly yX9_fly ∈ WS := ⟨wl_wsL_law_r22 _ (List.mem_of_getElem? (i := 7) rfl), wl_wsL_law_r22 _ (List.mem_of_getElem? (i := 8) rfl)⟩
theorem iv_yX9_roundOf : Cond.instanceMethod yX9_roundOf ∈ WS ∧ Cond.selects yX9_roundOf.cls yX9_roundOf yX9_roundOf ∈ WS := ⟨wl_wsL_law_r22 _ (List.mem_of_getElem? (i := 11) rfl), wl_wsL_law_r22 _ (List.mem_of_getElem? (i := 12) rfl)⟩
theorem iv_yX8_stop : Cond.instanceMethod yX8_stop ∈ WS ∧ Cond.selects yX8_stop.cls yX8_stop yX8_stop ∈ WS := ⟨wl_wsL_law_r22 _ (List.mem_of_getElem? (i := 15) rfl), wl_wsL_law_r22 _ (List.mem_of_getElem? (i := 16) rfl)⟩
theorem iv_yX6_viewAt : Cond.instanceMethod yX6_viewAt ∈ WS ∧ Cond.selects yX6_viewAt.cls yX6_viewAt yX6_viewAt ∈ WS := ⟨wl_wsL_law_r22 _ (List.mem_of_getElem? (i := 19) rfl), wl_wsL_law_r22 _ (List.mem_of_getElem? (i := 20) rfl)⟩
theorem iv_yX6_nextView : Cond.instanceMethod yX6_nextView ∈ WS ∧ Cond.selects yX6_nextView.cls yX6_nextView yX6_nextView ∈ WS := ⟨wl_wsL_law_r23 _ (List.mem_of_getElem? (i := 0) rfl), wl_wsL_law_r23 _ (List.mem_of_getElem? (i := 1) rfl)⟩
theorem iv_yX9_stop : Cond.instanceMethod yX9_stop ∈ WS ∧ Cond.selects yX9_stop.cls yX9_stop yX9_stop ∈ WS := ⟨wl_wsL_law_r23 _ (List.mem_of_getElem? (i := 5) rfl), wl_wsL_law_r23 _ (List.mem_of_getElem? (i := 6) rfl)⟩
theorem iv_yX8_flights : Cond.instanceMethod yX8_flights ∈ WS ∧ Cond.selects yX8_flights.cls yX8_flights yX8_flights ∈ WS := ⟨wl_wsL_law_r23 _ (List.mem_of_getElem? (i := 9) rfl), wl_wsL_law_r23 _ (List.mem_of_getElem? (i := 10) rfl)⟩
theorem iv_yX6_fewestTrips : Cond.instanceMethod yX6_fewestTrips ∈ WS ∧ Cond.selects yX6_fewestTrips.cls yX6_fewestTrips yX6_fewestTrips ∈ WS := ⟨wl_wsL_law_r23 _ (List.mem_of_getElem? (i := 13) rfl), wl_wsL_law_r23 _ (List.mem_of_getElem? (i := 14) rfl)⟩
theorem iv_yX6_splitUp : Cond.instanceMethod yX6_splitUp ∈ WS ∧ Cond.selects yX6_splitUp.cls yX6_splitUp yX6_splitUp ∈ WS := ⟨wl_wsL_law_r23 _ (List.mem_of_getElem? (i := 18) rfl), wl_wsL_law_r23 _ (List.mem_of_getElem? (i := 19) rfl)⟩
theorem iv_yX6_bestSplit : Cond.instanceMethod yX6_bestSplit ∈ WS ∧ Cond.selects yX6_bestSplit.cls yX6_bestSplit yX6_bestSplit ∈ WS := ⟨wl_wsL_law_r23 _ (List.mem_of_getElem? (i := 22) rfl), wl_wsL_law_r23 _ (List.mem_of_getElem? (i := 23) rfl)⟩
theorem iv_yX9_flights : Cond.instanceMethod yX9_flights ∈ WS ∧ Cond.selects yX9_flights.cls yX9_flights yX9_flights ∈ WS := ⟨wl_wsL_law_r24 _ (List.mem_of_getElem? (i := 3) rfl), wl_wsL_law_r24 _ (List.mem_of_getElem? (i := 4) rfl)⟩
theorem iv_yX9_part : Cond.instanceMethod yX9_part ∈ WS ∧ Cond.selects yX9_part.cls yX9_part yX9_part ∈ WS := ⟨wl_wsL_law_r24 _ (List.mem_of_getElem? (i := 7) rfl), wl_wsL_law_r24 _ (List.mem_of_getElem? (i := 8) rfl)⟩
theorem iv_yX8_energy : Cond.instanceMethod yX8_energy ∈ WS ∧ Cond.selects yX8_energy.cls yX8_energy yX8_energy ∈ WS := ⟨wl_wsL_law_r24 _ (List.mem_of_getElem? (i := 11) rfl), wl_wsL_law_r24 _ (List.mem_of_getElem? (i := 12) rfl)⟩
theorem iv_yX6_cheapestTrips : Cond.instanceMethod yX6_cheapestTrips ∈ WS ∧ Cond.selects yX6_cheapestTrips.cls yX6_cheapestTrips yX6_cheapestTrips ∈ WS := ⟨wl_wsL_law_r24 _ (List.mem_of_getElem? (i := 15) rfl), wl_wsL_law_r24 _ (List.mem_of_getElem? (i := 16) rfl)⟩
theorem iv_yX9_energy : Cond.instanceMethod yX9_energy ∈ WS ∧ Cond.selects yX9_energy.cls yX9_energy yX9_energy ∈ WS := ⟨wl_wsL_law_r24 _ (List.mem_of_getElem? (i := 19) rfl), wl_wsL_law_r24 _ (List.mem_of_getElem? (i := 20) rfl)⟩
theorem iv_yX8_log : Cond.instanceMethod yX8_log ∈ WS ∧ Cond.selects yX8_log.cls yX8_log yX8_log ∈ WS := ⟨wl_wsL_law_r24 _ (List.mem_of_getElem? (i := 23) rfl), wl_wsL_law_r25 _ (List.mem_of_getElem? (i := 0) rfl)⟩
theorem iv_yX2_add : Cond.instanceMethod yX2_add ∈ WS ∧ Cond.selects yX2_add.cls yX2_add yX2_add ∈ WS := ⟨wl_wsL_law_r25 _ (List.mem_of_getElem? (i := 4) rfl), wl_wsL_law_r25 _ (List.mem_of_getElem? (i := 5) rfl)⟩
theorem iv_yX9_log : Cond.instanceMethod yX9_log ∈ WS ∧ Cond.selects yX9_log.cls yX9_log yX9_log ∈ WS := ⟨wl_wsL_law_r25 _ (List.mem_of_getElem? (i := 10) rfl), wl_wsL_law_r25 _ (List.mem_of_getElem? (i := 11) rfl)⟩
theorem iv_yX8_proves : Cond.instanceMethod yX8_proves ∈ WS ∧ Cond.selects yX8_proves.cls yX8_proves yX8_proves ∈ WS := ⟨wl_wsL_law_r25 _ (List.mem_of_getElem? (i := 16) rfl), wl_wsL_law_r25 _ (List.mem_of_getElem? (i := 17) rfl)⟩
theorem iv_yX2_isProof : Cond.instanceMethod yX2_isProof ∈ WS ∧ Cond.selects yX2_isProof.cls yX2_isProof yX2_isProof ∈ WS := ⟨wl_wsL_law_r25 _ (List.mem_of_getElem? (i := 20) rfl), wl_wsL_law_r25 _ (List.mem_of_getElem? (i := 21) rfl)⟩
theorem iv_yX9_proves : Cond.instanceMethod yX9_proves ∈ WS ∧ Cond.selects yX9_proves.cls yX9_proves yX9_proves ∈ WS := ⟨wl_wsL_law_r26 _ (List.mem_of_getElem? (i := 3) rfl), wl_wsL_law_r26 _ (List.mem_of_getElem? (i := 4) rfl)⟩
theorem iv_yX9_isProved : Cond.instanceMethod yX9_isProved ∈ WS ∧ Cond.selects yX9_isProved.cls yX9_isProved yX9_isProved ∈ WS := ⟨wl_wsL_law_r26 _ (List.mem_of_getElem? (i := 7) rfl), wl_wsL_law_r26 _ (List.mem_of_getElem? (i := 8) rfl)⟩
theorem iv_yX8_proved : Cond.instanceMethod yX8_proved ∈ WS ∧ Cond.selects yX8_proved.cls yX8_proved yX8_proved ∈ WS := ⟨wl_wsL_law_r26 _ (List.mem_of_getElem? (i := 11) rfl), wl_wsL_law_r26 _ (List.mem_of_getElem? (i := 12) rfl)⟩
theorem iv_yX2_proofs : Cond.instanceMethod yX2_proofs ∈ WS ∧ Cond.selects yX2_proofs.cls yX2_proofs yX2_proofs ∈ WS := ⟨wl_wsL_law_r26 _ (List.mem_of_getElem? (i := 15) rfl), wl_wsL_law_r26 _ (List.mem_of_getElem? (i := 16) rfl)⟩
theorem iv_yX9_proved : Cond.instanceMethod yX9_proved ∈ WS ∧ Cond.selects yX9_proved.cls yX9_proved yX9_proved ∈ WS := ⟨wl_wsL_law_r26 _ (List.mem_of_getElem? (i := 20) rfl), wl_wsL_law_r26 _ (List.mem_of_getElem? (i := 21) rfl)⟩
theorem iv_yX9_provedOf : Cond.instanceMethod yX9_provedOf ∈ WS ∧ Cond.selects yX9_provedOf.cls yX9_provedOf yX9_provedOf ∈ WS := ⟨wl_wsL_law_r27 _ (List.mem_of_getElem? (i := 0) rfl), wl_wsL_law_r27 _ (List.mem_of_getElem? (i := 1) rfl)⟩
theorem iv_yX8_missing : Cond.instanceMethod yX8_missing ∈ WS ∧ Cond.selects yX8_missing.cls yX8_missing yX8_missing ∈ WS := ⟨wl_wsL_law_r27 _ (List.mem_of_getElem? (i := 4) rfl), wl_wsL_law_r27 _ (List.mem_of_getElem? (i := 5) rfl)⟩
theorem iv_yX9_missing : Cond.instanceMethod yX9_missing ∈ WS ∧ Cond.selects yX9_missing.cls yX9_missing yX9_missing ∈ WS := ⟨wl_wsL_law_r27 _ (List.mem_of_getElem? (i := 8) rfl), wl_wsL_law_r27 _ (List.mem_of_getElem? (i := 9) rfl)⟩
theorem iv_yX8_mark : Cond.instanceMethod yX8_mark ∈ WS ∧ Cond.selects yX8_mark.cls yX8_mark yX8_mark ∈ WS := ⟨wl_wsL_law_r27 _ (List.mem_of_getElem? (i := 12) rfl), wl_wsL_law_r27 _ (List.mem_of_getElem? (i := 13) rfl)⟩
theorem iv_yX4_add : Cond.instanceMethod yX4_add ∈ WS ∧ Cond.selects yX4_add.cls yX4_add yX4_add ∈ WS := ⟨wl_wsL_law_r27 _ (List.mem_of_getElem? (i := 20) rfl), wl_wsL_law_r27 _ (List.mem_of_getElem? (i := 21) rfl)⟩
theorem iv_yX9_mark : Cond.instanceMethod yX9_mark ∈ WS ∧ Cond.selects yX9_mark.cls yX9_mark yX9_mark ∈ WS := ⟨wl_wsL_law_r28 _ (List.mem_of_getElem? (i := 1) rfl), wl_wsL_law_r28 _ (List.mem_of_getElem? (i := 2) rfl)⟩
theorem iv_yX8_wipe : Cond.instanceMethod yX8_wipe ∈ WS ∧ Cond.selects yX8_wipe.cls yX8_wipe yX8_wipe ∈ WS := ⟨wl_wsL_law_r28 _ (List.mem_of_getElem? (i := 7) rfl), wl_wsL_law_r28 _ (List.mem_of_getElem? (i := 8) rfl)⟩
theorem iv_yX9_wipe : Cond.instanceMethod yX9_wipe ∈ WS ∧ Cond.selects yX9_wipe.cls yX9_wipe yX9_wipe ∈ WS := ⟨wl_wsL_law_r28 _ (List.mem_of_getElem? (i := 12) rfl), wl_wsL_law_r28 _ (List.mem_of_getElem? (i := 13) rfl)⟩
theorem iv_yX8_marks : Cond.instanceMethod yX8_marks ∈ WS ∧ Cond.selects yX8_marks.cls yX8_marks yX8_marks ∈ WS := ⟨wl_wsL_law_r28 _ (List.mem_of_getElem? (i := 16) rfl), wl_wsL_law_r28 _ (List.mem_of_getElem? (i := 17) rfl)⟩
theorem iv_yX4_sum : Cond.instanceMethod yX4_sum ∈ WS ∧ Cond.selects yX4_sum.cls yX4_sum yX4_sum ∈ WS := ⟨wl_wsL_law_r28 _ (List.mem_of_getElem? (i := 20) rfl), wl_wsL_law_r28 _ (List.mem_of_getElem? (i := 21) rfl)⟩
theorem iv_yX4_isOf : Cond.instanceMethod yX4_isOf ∈ WS ∧ Cond.selects yX4_isOf.cls yX4_isOf yX4_isOf ∈ WS := ⟨wl_wsL_law_r29 _ (List.mem_of_getElem? (i := 0) rfl), wl_wsL_law_r29 _ (List.mem_of_getElem? (i := 1) rfl)⟩
theorem iv_yX9_marks : Cond.instanceMethod yX9_marks ∈ WS ∧ Cond.selects yX9_marks.cls yX9_marks yX9_marks ∈ WS := ⟨wl_wsL_law_r29 _ (List.mem_of_getElem? (i := 4) rfl), wl_wsL_law_r29 _ (List.mem_of_getElem? (i := 5) rfl)⟩
theorem iv_yX9_isOn : Cond.instanceMethod yX9_isOn ∈ WS ∧ Cond.selects yX9_isOn.cls yX9_isOn yX9_isOn ∈ WS := ⟨wl_wsL_law_r29 _ (List.mem_of_getElem? (i := 8) rfl), wl_wsL_law_r29 _ (List.mem_of_getElem? (i := 9) rfl)⟩
theorem iv_yX8_match : Cond.instanceMethod yX8_match ∈ WS ∧ Cond.selects yX8_match.cls yX8_match yX8_match ∈ WS := ⟨wl_wsL_law_r29 _ (List.mem_of_getElem? (i := 12) rfl), wl_wsL_law_r29 _ (List.mem_of_getElem? (i := 13) rfl)⟩
theorem iv_yX4_pairUp : Cond.instanceMethod yX4_pairUp ∈ WS ∧ Cond.selects yX4_pairUp.cls yX4_pairUp yX4_pairUp ∈ WS := ⟨wl_wsL_law_r29 _ (List.mem_of_getElem? (i := 18) rfl), wl_wsL_law_r29 _ (List.mem_of_getElem? (i := 19) rfl)⟩
theorem iv_yX4_sortPlaces : Cond.instanceMethod yX4_sortPlaces ∈ WS ∧ Cond.selects yX4_sortPlaces.cls yX4_sortPlaces yX4_sortPlaces ∈ WS := ⟨wl_wsL_law_r30 _ (List.mem_of_getElem? (i := 1) rfl), wl_wsL_law_r30 _ (List.mem_of_getElem? (i := 2) rfl)⟩
theorem iv_yX4_addPlace : Cond.instanceMethod yX4_addPlace ∈ WS ∧ Cond.selects yX4_addPlace.cls yX4_addPlace yX4_addPlace ∈ WS := ⟨wl_wsL_law_r30 _ (List.mem_of_getElem? (i := 5) rfl), wl_wsL_law_r30 _ (List.mem_of_getElem? (i := 6) rfl)⟩
theorem iv_yX9_match : Cond.instanceMethod yX9_match ∈ WS ∧ Cond.selects yX9_match.cls yX9_match yX9_match ∈ WS := ⟨wl_wsL_law_r30 _ (List.mem_of_getElem? (i := 13) rfl), wl_wsL_law_r30 _ (List.mem_of_getElem? (i := 14) rfl)⟩
theorem iv_yX9_placed : Cond.instanceMethod yX9_placed ∈ WS ∧ Cond.selects yX9_placed.cls yX9_placed yX9_placed ∈ WS := ⟨wl_wsL_law_r30 _ (List.mem_of_getElem? (i := 17) rfl), wl_wsL_law_r30 _ (List.mem_of_getElem? (i := 18) rfl)⟩
theorem iv_yX9_take : Cond.instanceMethod yX9_take ∈ WS ∧ Cond.selects yX9_take.cls yX9_take yX9_take ∈ WS := ⟨wl_wsL_law_r30 _ (List.mem_of_getElem? (i := 21) rfl), wl_wsL_law_r30 _ (List.mem_of_getElem? (i := 22) rfl)⟩
theorem iv_yX8_count : Cond.instanceMethod yX8_count ∈ WS ∧ Cond.selects yX8_count.cls yX8_count yX8_count ∈ WS := ⟨wl_wsL_law_r31 _ (List.mem_of_getElem? (i := 1) rfl), wl_wsL_law_r31 _ (List.mem_of_getElem? (i := 2) rfl)⟩
theorem iv_yX4_present : Cond.instanceMethod yX4_present ∈ WS ∧ Cond.selects yX4_present.cls yX4_present yX4_present ∈ WS := ⟨wl_wsL_law_r31 _ (List.mem_of_getElem? (i := 5) rfl), wl_wsL_law_r31 _ (List.mem_of_getElem? (i := 6) rfl)⟩
theorem iv_yX9_count : Cond.instanceMethod yX9_count ∈ WS ∧ Cond.selects yX9_count.cls yX9_count yX9_count ∈ WS := ⟨wl_wsL_law_r31 _ (List.mem_of_getElem? (i := 9) rfl), wl_wsL_law_r31 _ (List.mem_of_getElem? (i := 10) rfl)⟩
theorem cal_yX8_init : Cal yX8_init cX8_init 1 (none) 0 := ⟨cd_yX8_init, ini_RX8, by decide, by decide, by decide +kernel⟩
theorem cal_yX7_init : Cal yX7_init cX7_init 1 (none) 0 := ⟨cd_yX7_init, ini_RX7, by decide, by decide, by decide +kernel⟩
theorem cal_yX5_init : Cal yX5_init cX5_init 2 (none) 1 := ⟨cd_yX5_init, ini_RX5, by decide, by decide, by decide +kernel⟩
theorem cal_yX3_init : Cal yX3_init cX3_init 1 (none) 0 := ⟨cd_yX3_init, ini_RX3, by decide, by decide, by decide +kernel⟩
theorem cal_yX0_init : Cal yX0_init cX0_init 1 (none) 0 := ⟨cd_yX0_init, ini_RX0, by decide, by decide, by decide +kernel⟩
theorem cal_yX1_init : Cal yX1_init cX1_init 1 (none) 0 := ⟨cd_yX1_init, ini_RX1, by decide, by decide, by decide +kernel⟩
theorem cal_yX2_init : Cal yX2_init cX2_init 1 (none) 0 := ⟨cd_yX2_init, ini_RX2, by decide, by decide, by decide +kernel⟩
theorem cal_yX4_init : Cal yX4_init cX4_init 1 (none) 0 := ⟨cd_yX4_init, ini_RX4, by decide, by decide, by decide +kernel⟩
theorem cal_yX9_init : Cal yX9_init cX9_init 1 (none) 0 := ⟨cd_yX9_init, ini_RX9, by decide, by decide, by decide +kernel⟩
theorem cal_yX8_panel : Cal yX8_panel cX8_panel 5 ((some .int)) 4 := ⟨cd_yX8_panel, ini_RX8, by decide, by decide, by decide +kernel⟩
theorem cal_yX8_isPoint : Cal yX8_isPoint cX8_isPoint 2 ((some .boolean)) 2 := ⟨cd_yX8_isPoint, ini_RX8, by decide, by decide, by decide +kernel⟩
theorem cal_yX8_isWithin : Cal yX8_isWithin cX8_isWithin 3 ((some .boolean)) 3 := ⟨cd_yX8_isWithin, ini_RX8, by decide, by decide, by decide +kernel⟩
theorem cal_yX7_add : Cal yX7_add cX7_add 5 ((some .int)) 4 := ⟨cd_yX7_add, ini_RX7, by decide, by decide, by decide +kernel⟩
theorem cal_yX9_panel : Cal yX9_panel cX9_panel 5 ((some .int)) 4 := ⟨cd_yX9_panel, ini_RX9, by decide, by decide, by decide +kernel⟩
theorem cal_yX9_noPoint : Cal yX9_noPoint cX9_noPoint 2 ((some .boolean)) 2 := ⟨cd_yX9_noPoint, ini_RX9, by decide, by decide, by decide +kernel⟩
theorem cal_yX9_in : Cal yX9_in cX9_in 6 ((some .boolean)) 3 := ⟨cd_yX9_in, ini_RX9, by decide, by decide, by decide +kernel⟩
theorem cal_yX8_eye : Cal yX8_eye cX8_eye 4 ((some .int)) 2 := ⟨cd_yX8_eye, ini_RX8, by decide, by decide, by decide +kernel⟩
theorem cal_yX9_eye : Cal yX9_eye cX9_eye 4 ((some .int)) 2 := ⟨cd_yX9_eye, ini_RX9, by decide, by decide, by decide +kernel⟩
theorem cal_yX8_view : Cal yX8_view cX8_view 3 ((some .int)) 2 := ⟨cd_yX8_view, ini_RX8, by decide, by decide, by decide +kernel⟩
theorem cal_yX5_add : Cal yX5_add cX5_add 3 ((some .int)) 2 := ⟨cd_yX5_add, ini_RX5, by decide, by decide, by decide +kernel⟩
theorem cal_yX9_view : Cal yX9_view cX9_view 3 ((some .int)) 2 := ⟨cd_yX9_view, ini_RX9, by decide, by decide, by decide +kernel⟩
theorem cal_yX8_seen : Cal yX8_seen cX8_seen 4 ((some .int)) 3 := ⟨cd_yX8_seen, ini_RX8, by decide, by decide, by decide +kernel⟩
theorem cal_yX8_isPanel : Cal yX8_isPanel cX8_isPanel 2 ((some .boolean)) 1 := ⟨cd_yX8_isPanel, ini_RX8, by decide, by decide, by decide +kernel⟩
theorem cal_yX7_isVisible : Cal yX7_isVisible cX7_isVisible 15 ((some .boolean)) 3 := ⟨cd_yX7_isVisible, ini_RX7, by decide, by decide, by decide +kernel⟩
theorem cal_yX7_isTouched : Cal yX7_isTouched cX7_isTouched 10 ((some .boolean)) 5 := ⟨cd_yX7_isTouched, ini_RX7, by decide, by decide, by decide +kernel⟩
theorem cal_yX7_doOverlap : Cal yX7_doOverlap cX7_doOverlap 4 ((some .boolean)) 4 := ⟨cd_yX7_doOverlap, ini_RX7, by decide, by decide, by decide +kernel⟩
theorem cal_yX8_turn : Cal yX8_turn cX8_turn 6 ((some .int)) 6 := ⟨cd_yX8_turn, ini_RX8, by decide, by decide, by decide +kernel⟩
theorem cal_yX7_areApart : Cal yX7_areApart cX7_areApart 2 ((some .boolean)) 2 := ⟨cd_yX7_areApart, ini_RX7, by decide, by decide, by decide +kernel⟩
theorem cal_yX8_asNumber : Cal yX8_asNumber cX8_asNumber 1 ((some .int)) 1 := ⟨cd_yX8_asNumber, ini_RX8, by decide, by decide, by decide +kernel⟩
theorem cal_yX9_seen : Cal yX9_seen cX9_seen 4 ((some .int)) 3 := ⟨cd_yX9_seen, ini_RX9, by decide, by decide, by decide +kernel⟩
theorem cal_yX9_noPanel : Cal yX9_noPanel cX9_noPanel 2 ((some .boolean)) 1 := ⟨cd_yX9_noPanel, ini_RX9, by decide, by decide, by decide +kernel⟩
theorem cal_yX9_isSeen : Cal yX9_isSeen cX9_isSeen 18 ((some .boolean)) 3 := ⟨cd_yX9_isSeen, ini_RX9, by decide, by decide, by decide +kernel⟩
theorem cal_yX9_cross : Cal yX9_cross cX9_cross 4 ((some .int)) 4 := ⟨cd_yX9_cross, ini_RX9, by decide, by decide, by decide +kernel⟩
theorem cal_yX9_meet : Cal yX9_meet cX9_meet 12 ((some .boolean)) 8 := ⟨cd_yX9_meet, ini_RX9, by decide, by decide, by decide +kernel⟩
theorem cal_yX9_sign : Cal yX9_sign cX9_sign 1 ((some .int)) 1 := ⟨cd_yX9_sign, ini_RX9, by decide, by decide, by decide +kernel⟩
theorem cal_yX9_isBetween : Cal yX9_isBetween cX9_isBetween 8 ((some .boolean)) 6 := ⟨cd_yX9_isBetween, ini_RX9, by decide, by decide, by decide +kernel⟩
theorem cal_yX8_sees : Cal yX8_sees cX8_sees 2 ((some .int)) 1 := ⟨cd_yX8_sees, ini_RX8, by decide, by decide, by decide +kernel⟩
theorem cal_yX7_visibleFrom : Cal yX7_visibleFrom cX7_visibleFrom 5 ((some .int)) 2 := ⟨cd_yX7_visibleFrom, ini_RX7, by decide, by decide, by decide +kernel⟩
theorem cal_yX9_sees : Cal yX9_sees cX9_sees 2 ((some .int)) 1 := ⟨cd_yX9_sees, ini_RX9, by decide, by decide, by decide +kernel⟩
theorem cal_yX9_seesOf : Cal yX9_seesOf cX9_seesOf 4 ((some .int)) 1 := ⟨cd_yX9_seesOf, ini_RX9, by decide, by decide, by decide +kernel⟩
theorem cal_yX8_cover : Cal yX8_cover cX8_cover 2 ((some .int)) 1 := ⟨cd_yX8_cover, ini_RX8, by decide, by decide, by decide +kernel⟩
theorem cal_yX3_watch : Cal yX3_watch cX3_watch 6 (none) 2 := ⟨cd_yX3_watch, ini_RX3, by decide, by decide, by decide +kernel⟩
theorem cal_yX3_smallestCover : Cal yX3_smallestCover cX3_smallestCover 7 ((some .int)) 2 := ⟨cd_yX3_smallestCover, ini_RX3, by decide, by decide, by decide +kernel⟩
theorem cal_yJ6_bitCount_0f7a4 : Cal yJ6_bitCount_0f7a4 cJ6_bitCount_0f7a4 1 ((some .int)) 1 := ⟨cd_yJ6_bitCount_0f7a4, ini_RJ6, by decide, by decide, by decide +kernel⟩
theorem cal_yX3_leastTimes : Cal yX3_leastTimes cX3_leastTimes 4 ((some .int)) 1 := ⟨cd_yX3_leastTimes, ini_RX3, by decide, by decide, by decide +kernel⟩
theorem cal_yX9_cover : Cal yX9_cover cX9_cover 4 ((some .int)) 1 := ⟨cd_yX9_cover, ini_RX9, by decide, by decide, by decide +kernel⟩
theorem cal_yX9_look : Cal yX9_look cX9_look 2 (none) 0 := ⟨cd_yX9_look, ini_RX9, by decide, by decide, by decide +kernel⟩
theorem cal_yX9_bits : Cal yX9_bits cX9_bits 3 ((some .int)) 1 := ⟨cd_yX9_bits, ini_RX9, by decide, by decide, by decide +kernel⟩
theorem cal_yX9_timesOf : Cal yX9_timesOf cX9_timesOf 6 ((some .int)) 1 := ⟨cd_yX9_timesOf, ini_RX9, by decide, by decide, by decide +kernel⟩
theorem cal_yX8_covers : Cal yX8_covers cX8_covers 3 ((some .int)) 2 := ⟨cd_yX8_covers, ini_RX8, by decide, by decide, by decide +kernel⟩
theorem cal_yX8_isViewSet : Cal yX8_isViewSet cX8_isViewSet 2 ((some .boolean)) 1 := ⟨cd_yX8_isViewSet, ini_RX8, by decide, by decide, by decide +kernel⟩
theorem cal_yX9_covers : Cal yX9_covers cX9_covers 3 ((some .int)) 2 := ⟨cd_yX9_covers, ini_RX9, by decide, by decide, by decide +kernel⟩
theorem cal_yX9_noSet : Cal yX9_noSet cX9_noSet 2 ((some .boolean)) 1 := ⟨cd_yX9_noSet, ini_RX9, by decide, by decide, by decide +kernel⟩
theorem cal_yX8_times : Cal yX8_times cX8_times 2 ((some .int)) 1 := ⟨cd_yX8_times, ini_RX8, by decide, by decide, by decide +kernel⟩
theorem cal_yX9_times : Cal yX9_times cX9_times 2 ((some .int)) 1 := ⟨cd_yX9_times, ini_RX9, by decide, by decide, by decide +kernel⟩
theorem cal_yX8_close : Cal yX8_close cX8_close 5 ((some .int)) 4 := ⟨cd_yX8_close, ini_RX8, by decide, by decide, by decide +kernel⟩
theorem cal_yX0_add : Cal yX0_add cX0_add 5 (none) 4 := ⟨cd_yX0_add, ini_RX0, by decide, by decide, by decide +kernel⟩
theorem cal_yX8_forgetRoutes : Cal yX8_forgetRoutes cX8_forgetRoutes 1 (none) 0 := ⟨cd_yX8_forgetRoutes, ini_RX8, by decide, by decide, by decide +kernel⟩
theorem cal_yX6_forget : Cal yX6_forget cX6_forget 1 (none) 0 := ⟨cd_yX6_forget, ini_RX6, by decide, by decide, by decide +kernel⟩
theorem cal_yX9_close : Cal yX9_close cX9_close 5 ((some .int)) 4 := ⟨cd_yX9_close, ini_RX9, by decide, by decide, by decide +kernel⟩
theorem cal_yX8_open : Cal yX8_open cX8_open 1 ((some .int)) 0 := ⟨cd_yX8_open, ini_RX8, by decide, by decide, by decide +kernel⟩
theorem cal_yX9_open : Cal yX9_open cX9_open 1 ((some .int)) 0 := ⟨cd_yX9_open, ini_RX9, by decide, by decide, by decide +kernel⟩
theorem cal_yX8_wind : Cal yX8_wind cX8_wind 4 ((some .int)) 2 := ⟨cd_yX8_wind, ini_RX8, by decide, by decide, by decide +kernel⟩
theorem cal_yX9_wind : Cal yX9_wind cX9_wind 4 ((some .int)) 2 := ⟨cd_yX9_wind, ini_RX9, by decide, by decide, by decide +kernel⟩
theorem cal_yX8_base : Cal yX8_base cX8_base 4 ((some .int)) 2 := ⟨cd_yX8_base, ini_RX8, by decide, by decide, by decide +kernel⟩
theorem cal_yX9_base : Cal yX9_base cX9_base 4 ((some .int)) 2 := ⟨cd_yX9_base, ini_RX9, by decide, by decide, by decide +kernel⟩
theorem cal_yX8_store : Cal yX8_store cX8_store 4 ((some .int)) 2 := ⟨cd_yX8_store, ini_RX8, by decide, by decide, by decide +kernel⟩
theorem cal_yX9_store : Cal yX9_store cX9_store 4 ((some .int)) 2 := ⟨cd_yX9_store, ini_RX9, by decide, by decide, by decide +kernel⟩
theorem cal_yX8_leg : Cal yX8_leg cX8_leg 5 ((some .int)) 4 := ⟨cd_yX8_leg, ini_RX8, by decide, by decide, by decide +kernel⟩
theorem cal_yX0_isShut : Cal yX0_isShut cX0_isShut 6 ((some .boolean)) 4 := ⟨cd_yX0_isShut, ini_RX0, by decide, by decide, by decide +kernel⟩
theorem cal_yX0_goesInto : Cal yX0_goesInto cX0_goesInto 10 ((some .boolean)) 5 := ⟨cd_yX0_goesInto, ini_RX0, by decide, by decide, by decide +kernel⟩
theorem cal_yX0_cost : Cal yX0_cost cX0_cost 5 ((some .int)) 2 := ⟨cd_yX0_cost, ini_RX0, by decide, by decide, by decide +kernel⟩
theorem cal_yX0_rootUp : Cal yX0_rootUp cX0_rootUp 4 ((some .int)) 1 := ⟨cd_yX0_rootUp, ini_RX0, by decide, by decide, by decide +kernel⟩
theorem cal_yX9_leg : Cal yX9_leg cX9_leg 6 ((some .int)) 4 := ⟨cd_yX9_leg, ini_RX9, by decide, by decide, by decide +kernel⟩
theorem cal_yX9_legOf : Cal yX9_legOf cX9_legOf 10 ((some .int)) 4 := ⟨cd_yX9_legOf, ini_RX9, by decide, by decide, by decide +kernel⟩
theorem cal_yX9_isInside : Cal yX9_isInside cX9_isInside 25 ((some .boolean)) 5 := ⟨cd_yX9_isInside, ini_RX9, by decide, by decide, by decide +kernel⟩
theorem cal_yX8_round : Cal yX8_round cX8_round 2 ((some .int)) 1 := ⟨cd_yX8_round, ini_RX8, by decide, by decide, by decide +kernel⟩
theorem cal_yX8_routesFor : Cal yX8_routesFor cX8_routesFor 2 ((some (.object "WingLooks$Routes"))) 1 := ⟨cd_yX8_routesFor, ini_RX8, by decide, by decide, by decide +kernel⟩
theorem cal_yX6_init : Cal yX6_init cX6_init 4 (none) 3 := ⟨cd_yX6_init, ini_RX6, by decide, by decide, by decide +kernel⟩
theorem cal_yX6_learn : Cal yX6_learn cX6_learn 3 (none) 1 := ⟨cd_yX6_learn, ini_RX6, by decide, by decide, by decide +kernel⟩
theorem cal_yX6_measureLegs : Cal yX6_measureLegs cX6_measureLegs 7 (none) 1 := ⟨cd_yX6_measureLegs, ini_RX6, by decide, by decide, by decide +kernel⟩
theorem cal_yX8_has : Cal yX8_has cX8_has 2 ((some .boolean)) 2 := ⟨cd_yX8_has, ini_RX8, by decide, by decide, by decide +kernel⟩
theorem cal_yX6_xOf : Cal yX6_xOf cX6_xOf 2 ((some .int)) 1 := ⟨cd_yX6_xOf, ini_RX6, by decide, by decide, by decide +kernel⟩
theorem cal_yX6_yOf : Cal yX6_yOf cX6_yOf 2 ((some .int)) 1 := ⟨cd_yX6_yOf, ini_RX6, by decide, by decide, by decide +kernel⟩
theorem cal_yX6_fillTails : Cal yX6_fillTails cX6_fillTails 3 (none) 1 := ⟨cd_yX6_fillTails, ini_RX6, by decide, by decide, by decide +kernel⟩
theorem cal_yX6_costFrom : Cal yX6_costFrom cX6_costFrom 5 ((some .int)) 2 := ⟨cd_yX6_costFrom, ini_RX6, by decide, by decide, by decide +kernel⟩
theorem cal_yX6_costBy : Cal yX6_costBy cX6_costBy 4 ((some .int)) 3 := ⟨cd_yX6_costBy, ini_RX6, by decide, by decide, by decide +kernel⟩
theorem cal_yX6_roundCost : Cal yX6_roundCost cX6_roundCost 2 ((some .int)) 1 := ⟨cd_yX6_roundCost, ini_RX6, by decide, by decide, by decide +kernel⟩
theorem cal_yX6_hasRound : Cal yX6_hasRound cX6_hasRound 2 ((some .boolean)) 1 := ⟨cd_yX6_hasRound, ini_RX6, by decide, by decide, by decide +kernel⟩
theorem cal_yX9_round : Cal yX9_round cX9_round 2 ((some .int)) 1 := ⟨cd_yX9_round, ini_RX9, by decide, by decide, by decide +kernel⟩
theorem cal_yX9_fly : Cal yX9_fly cX9_fly 6 (none) 0 := ⟨cd_yX9_fly, ini_RX9, by decide, by decide, by decide +kernel⟩
theorem cal_yX9_roundOf : Cal yX9_roundOf cX9_roundOf 2 ((some .int)) 1 := ⟨cd_yX9_roundOf, ini_RX9, by decide, by decide, by decide +kernel⟩
theorem cal_yX8_stop : Cal yX8_stop cX8_stop 3 ((some .int)) 2 := ⟨cd_yX8_stop, ini_RX8, by decide, by decide, by decide +kernel⟩
theorem cal_yX6_viewAt : Cal yX6_viewAt cX6_viewAt 6 ((some .int)) 2 := ⟨cd_yX6_viewAt, ini_RX6, by decide, by decide, by decide +kernel⟩
theorem cal_yX6_nextView : Cal yX6_nextView cX6_nextView 6 ((some .int)) 2 := ⟨cd_yX6_nextView, ini_RX6, by decide, by decide, by decide +kernel⟩
theorem cal_yX9_stop : Cal yX9_stop cX9_stop 9 ((some .int)) 2 := ⟨cd_yX9_stop, ini_RX9, by decide, by decide, by decide +kernel⟩
theorem cal_yX8_flights : Cal yX8_flights cX8_flights 2 ((some .int)) 1 := ⟨cd_yX8_flights, ini_RX8, by decide, by decide, by decide +kernel⟩
theorem cal_yX6_fewestTrips : Cal yX6_fewestTrips cX6_fewestTrips 2 ((some .int)) 1 := ⟨cd_yX6_fewestTrips, ini_RX6, by decide, by decide, by decide +kernel⟩
theorem cal_yX6_splitUp : Cal yX6_splitUp cX6_splitUp 3 (none) 1 := ⟨cd_yX6_splitUp, ini_RX6, by decide, by decide, by decide +kernel⟩
theorem cal_yX6_bestSplit : Cal yX6_bestSplit cX6_bestSplit 9 ((some .int)) 1 := ⟨cd_yX6_bestSplit, ini_RX6, by decide, by decide, by decide +kernel⟩
theorem cal_yX9_flights : Cal yX9_flights cX9_flights 2 ((some .int)) 1 := ⟨cd_yX9_flights, ini_RX9, by decide, by decide, by decide +kernel⟩
theorem cal_yX9_part : Cal yX9_part cX9_part 7 (none) 0 := ⟨cd_yX9_part, ini_RX9, by decide, by decide, by decide +kernel⟩
theorem cal_yX8_energy : Cal yX8_energy cX8_energy 2 ((some .int)) 1 := ⟨cd_yX8_energy, ini_RX8, by decide, by decide, by decide +kernel⟩
theorem cal_yX6_cheapestTrips : Cal yX6_cheapestTrips cX6_cheapestTrips 2 ((some .int)) 1 := ⟨cd_yX6_cheapestTrips, ini_RX6, by decide, by decide, by decide +kernel⟩
theorem cal_yX9_energy : Cal yX9_energy cX9_energy 2 ((some .int)) 1 := ⟨cd_yX9_energy, ini_RX9, by decide, by decide, by decide +kernel⟩
theorem cal_yX8_log : Cal yX8_log cX8_log 4 ((some .int)) 3 := ⟨cd_yX8_log, ini_RX8, by decide, by decide, by decide +kernel⟩
theorem cal_yX2_add : Cal yX2_add cX2_add 4 ((some .int)) 3 := ⟨cd_yX2_add, ini_RX2, by decide, by decide, by decide +kernel⟩
theorem cal_yX9_log : Cal yX9_log cX9_log 4 ((some .int)) 3 := ⟨cd_yX9_log, ini_RX9, by decide, by decide, by decide +kernel⟩
theorem cal_yX8_proves : Cal yX8_proves cX8_proves 3 ((some .int)) 2 := ⟨cd_yX8_proves, ini_RX8, by decide, by decide, by decide +kernel⟩
theorem cal_yX2_isProof : Cal yX2_isProof cX2_isProof 7 ((some .boolean)) 3 := ⟨cd_yX2_isProof, ini_RX2, by decide, by decide, by decide +kernel⟩
theorem cal_yX9_proves : Cal yX9_proves cX9_proves 3 ((some .int)) 2 := ⟨cd_yX9_proves, ini_RX9, by decide, by decide, by decide +kernel⟩
theorem cal_yX9_isProved : Cal yX9_isProved cX9_isProved 5 ((some .boolean)) 2 := ⟨cd_yX9_isProved, ini_RX9, by decide, by decide, by decide +kernel⟩
theorem cal_yX8_proved : Cal yX8_proved cX8_proved 2 ((some .int)) 1 := ⟨cd_yX8_proved, ini_RX8, by decide, by decide, by decide +kernel⟩
theorem cal_yX2_proofs : Cal yX2_proofs cX2_proofs 6 ((some .int)) 3 := ⟨cd_yX2_proofs, ini_RX2, by decide, by decide, by decide +kernel⟩
theorem cal_yX9_proved : Cal yX9_proved cX9_proved 2 ((some .int)) 1 := ⟨cd_yX9_proved, ini_RX9, by decide, by decide, by decide +kernel⟩
theorem cal_yX9_provedOf : Cal yX9_provedOf cX9_provedOf 4 ((some .int)) 1 := ⟨cd_yX9_provedOf, ini_RX9, by decide, by decide, by decide +kernel⟩
theorem cal_yX8_missing : Cal yX8_missing cX8_missing 5 ((some .int)) 2 := ⟨cd_yX8_missing, ini_RX8, by decide, by decide, by decide +kernel⟩
theorem cal_yX9_missing : Cal yX9_missing cX9_missing 5 ((some .int)) 2 := ⟨cd_yX9_missing, ini_RX9, by decide, by decide, by decide +kernel⟩
theorem cal_yX8_mark : Cal yX8_mark cX8_mark 5 ((some .int)) 4 := ⟨cd_yX8_mark, ini_RX8, by decide, by decide, by decide +kernel⟩
theorem cal_yX8_isYear : Cal yX8_isYear cX8_isYear 1 ((some .boolean)) 1 := ⟨cd_yX8_isYear, ini_RX8, by decide, by decide, by decide +kernel⟩
theorem cal_yX4_add : Cal yX4_add cX4_add 5 ((some .int)) 4 := ⟨cd_yX4_add, ini_RX4, by decide, by decide, by decide +kernel⟩
theorem cal_yX9_mark : Cal yX9_mark cX9_mark 5 ((some .int)) 4 := ⟨cd_yX9_mark, ini_RX9, by decide, by decide, by decide +kernel⟩
theorem cal_yX8_wipe : Cal yX8_wipe cX8_wipe 2 ((some .int)) 1 := ⟨cd_yX8_wipe, ini_RX8, by decide, by decide, by decide +kernel⟩
theorem cal_yX9_wipe : Cal yX9_wipe cX9_wipe 2 ((some .int)) 1 := ⟨cd_yX9_wipe, ini_RX9, by decide, by decide, by decide +kernel⟩
theorem cal_yX8_marks : Cal yX8_marks cX8_marks 4 ((some .int)) 3 := ⟨cd_yX8_marks, ini_RX8, by decide, by decide, by decide +kernel⟩
theorem cal_yX4_sum : Cal yX4_sum cX4_sum 6 ((some .int)) 3 := ⟨cd_yX4_sum, ini_RX4, by decide, by decide, by decide +kernel⟩
theorem cal_yX4_isOf : Cal yX4_isOf cX4_isOf 4 ((some .boolean)) 3 := ⟨cd_yX4_isOf, ini_RX4, by decide, by decide, by decide +kernel⟩
theorem cal_yX9_marks : Cal yX9_marks cX9_marks 6 ((some .int)) 3 := ⟨cd_yX9_marks, ini_RX9, by decide, by decide, by decide +kernel⟩
theorem cal_yX9_isOn : Cal yX9_isOn cX9_isOn 4 ((some .boolean)) 3 := ⟨cd_yX9_isOn, ini_RX9, by decide, by decide, by decide +kernel⟩
theorem cal_yX8_match : Cal yX8_match cX8_match 6 ((some .int)) 5 := ⟨cd_yX8_match, ini_RX8, by decide, by decide, by decide +kernel⟩
theorem cal_yX4_pairUp : Cal yX4_pairUp cX4_pairUp 8 (none) 4 := ⟨cd_yX4_pairUp, ini_RX4, by decide, by decide, by decide +kernel⟩
theorem cal_yX4_sortPlaces : Cal yX4_sortPlaces cX4_sortPlaces 7 ((some .int)) 3 := ⟨cd_yX4_sortPlaces, ini_RX4, by decide, by decide, by decide +kernel⟩
theorem cal_yX4_addPlace : Cal yX4_addPlace cX4_addPlace 8 (none) 3 := ⟨cd_yX4_addPlace, ini_RX4, by decide, by decide, by decide +kernel⟩
theorem cal_yX9_match : Cal yX9_match cX9_match 12 ((some .int)) 5 := ⟨cd_yX9_match, ini_RX9, by decide, by decide, by decide +kernel⟩
theorem cal_yX9_placed : Cal yX9_placed cX9_placed 7 ((some .int)) 3 := ⟨cd_yX9_placed, ini_RX9, by decide, by decide, by decide +kernel⟩
theorem cal_yX9_take : Cal yX9_take cX9_take 7 (none) 4 := ⟨cd_yX9_take, ini_RX9, by decide, by decide, by decide +kernel⟩
theorem cal_yX8_count : Cal yX8_count cX8_count 2 ((some .int)) 1 := ⟨cd_yX8_count, ini_RX8, by decide, by decide, by decide +kernel⟩
theorem cal_yX4_present : Cal yX4_present cX4_present 3 ((some .int)) 0 := ⟨cd_yX4_present, ini_RX4, by decide, by decide, by decide +kernel⟩
theorem cal_yX9_count : Cal yX9_count cX9_count 4 ((some .int)) 1 := ⟨cd_yX9_count, ini_RX9, by decide, by decide, by decide +kernel⟩
end
section
def pin (v a b : Int64) : Bool := !decide (v < a) && !decide (b < v)
def sgn (v : Int32) : Int32 := if 0 < v then 1 else if v < 0 then -1 else 0
def wit (x a b : Int32) : Bool := !decide (x < a) && !decide (b < x)
theorem q64 {a b : Int32} : a.toInt64 < b.toInt64 ↔ a < b := by
  rw [Int64.lt_iff_toInt_lt, Int32.lt_iff_toInt_lt, Int32.toInt_toInt64, Int32.toInt_toInt64]
theorem pin_i (x a b : Int32) : pin x.toInt64 a.toInt64 b.toInt64 = wit x a b := by
  unfold pin wit
  rw [decide_eq_decide.mpr (q64 (a := x) (b := a)), decide_eq_decide.mpr (q64 (a := b) (b := x))]
def pt (x y : Int32) : Bool := wit x 0 60 && wit y 0 60
def bt1 (a b c : Int32) : Bool := if a < b then wit c a b else wit c b a
def btw (ax ay bx by_ cx cy : Int32) : Bool := bt1 ax bx cx && bt1 ay by_ cy
def crs (ax ay bx by_ : Int32) : Int32 := ax * by_ - ay * bx
def mtt (a b c d : Int32) (p q r s : Bool) : Bool := (decide (a * b < 0) && decide (c * d < 0)) || (decide (a = 0) && p) || (decide (b = 0) && q) || (decide (c = 0) && r) || (decide (d = 0) && s)
/-- the reference's test of two ways -/
def mt (ax ay bx by_ cx cy dx dy : Int32) : Bool := mtt (sgn (crs (dx - cx) (dy - cy) (ax - cx) (ay - cy))) (sgn (crs (dx - cx) (dy - cy) (bx - cx) (by_ - cy))) (sgn (crs (bx - ax) (by_ - ay) (cx - ax) (cy - ay))) (sgn (crs (bx - ax) (by_ - ay) (dx - ax) (dy - ay))) (btw cx cy dx dy ax ay) (btw cx cy dx dy bx by_) (btw ax ay bx by_ cx cy) (btw ax ay bx by_ dx dy)

set_option maxHeartbeats 4000000 in
set_option maxRecDepth 100000 in
theorem k_X9_in (l : Launch) (E : ED) (v a b : Int64) : RO l E yX9_in cX9_in 6 .boolean 0 0 [.long v, .long a, .long b] [] (fun r => r = bI (pin v a b)) := by
  refine RO.mk (by decide) (Nat.le_of_ble_eq_true rfl) [(0, .long v), (2, .long a), (4, .long b)] rfl (fun Z B ret => ?_)
  refine i_lload_n B 0 dX9_in_0 rfl ?_
  refine i_lload_n B 1 dX9_in_1 rfl ?_
  refine i_lc_lt B 17 dX9_in_2 dX9_in_3 (by decide) (fun h1 => ?_) (fun h1 => ?_)
  · refine i_iconst (v := 0) B dX9_in_17 (by decide) ?_
    exact ret _ _ _ (by decide) dX9_in_18 (by simp only [pin, h1, decide_true, decide_false, Bool.not_true, Bool.not_false, Bool.true_and, Bool.false_and, Bool.and_true, Bool.and_false, Bool.true_or, Bool.or_true, Bool.false_or, Bool.or_false, Bool.and_self, Bool.or_self, bI_t, bI_f, if_true, if_false, ite_true, ite_false, Bool.false_eq_true, Bool.true_eq_false, eq_self, reduceIte, true_or, or_true, false_or, or_false, and_true, true_and, and_false, false_and, not_true_eq_false, not_false_eq_true, decide_eq_true_eq, decide_eq_false_iff_not])
  · refine i_lload_n B 0 dX9_in_6 rfl ?_
    refine i_lload B 2 dX9_in_7 rfl ?_
    refine i_lc_gt B 17 dX9_in_9 dX9_in_10 (by decide) (fun h2 => ?_) (fun h2 => ?_)
    · refine i_iconst (v := 0) B dX9_in_17 (by decide) ?_
      exact ret _ _ _ (by decide) dX9_in_18 (by simp only [pin, h1, h2, decide_true, decide_false, Bool.not_true, Bool.not_false, Bool.true_and, Bool.false_and, Bool.and_true, Bool.and_false, Bool.true_or, Bool.or_true, Bool.false_or, Bool.or_false, Bool.and_self, Bool.or_self, bI_t, bI_f, if_true, if_false, ite_true, ite_false, Bool.false_eq_true, Bool.true_eq_false, eq_self, reduceIte, true_or, or_true, false_or, or_false, and_true, true_and, and_false, false_and, not_true_eq_false, not_false_eq_true, decide_eq_true_eq, decide_eq_false_iff_not])
    · refine i_iconst (v := 1) B dX9_in_13 (by decide) ?_
      refine i_goto B 18 dX9_in_14 (by decide) ?_
      exact ret _ _ _ (by decide) dX9_in_18 (by simp only [pin, h1, h2, decide_true, decide_false, Bool.not_true, Bool.not_false, Bool.true_and, Bool.false_and, Bool.and_true, Bool.and_false, Bool.true_or, Bool.or_true, Bool.false_or, Bool.or_false, Bool.and_self, Bool.or_self, bI_t, bI_f, if_true, if_false, ite_true, ite_false, Bool.false_eq_true, Bool.true_eq_false, eq_self, reduceIte, true_or, or_true, false_or, or_false, and_true, true_and, and_false, false_and, not_true_eq_false, not_false_eq_true, decide_eq_true_eq, decide_eq_false_iff_not])

set_option maxHeartbeats 4000000 in
set_option maxRecDepth 100000 in
theorem k_X9_noPoint (l : Launch) (E : ED) (x y : Int32) : RO l E yX9_noPoint cX9_noPoint 2 .boolean 1 25 [.int x, .int y] [] (fun r => r = bI (!pt x y)) := by
  refine RO.mk (by decide) (Nat.le_of_ble_eq_true rfl) [(0, .int x), (1, .int y)] rfl (fun Z B ret => ?_)
  refine i_iload_n B 0 dX9_noPoint_0 rfl ?_
  refine i_i2l B dX9_noPoint_1 ?_
  refine i_lconst (v := 0) B dX9_noPoint_2 (by decide) ?_
  refine i_ldc2 B ckX9_102 dX9_noPoint_3 ?_
  refine c_roS (rest := []) (As := [.long (Int32.toInt64 x), .long 0, .long 60]) B (k_X9_in l E (Int32.toInt64 x) 0 60) cal_yX9_in is_yX9_in mlX9_104 (by decide) (by decide) rfl (Nat.le_of_ble_eq_true rfl) Has.nil _ rfl dX9_noPoint_6 (fun r hr => ?_)
  subst hr
  refine i_val (v' := .int (bI (wit x 0 60))) (congrArg (fun z => Value.int (bI z)) (pin_i x 0 60)) ?_
  refine i_if_eq B 24 dX9_noPoint_9 (by decide) (fun h1 => ?_) (fun h1 => ?_)
  · replace h1 := bI_0.mp h1
    refine i_iconst (v := 1) B dX9_noPoint_24 (by decide) ?_
    refine i_goto B 29 dX9_noPoint_25 (by decide) ?_
    exact ret _ _ _ (by decide) dX9_noPoint_29 (by simp only [pt, h1, decide_true, decide_false, Bool.not_true, Bool.not_false, Bool.true_and, Bool.false_and, Bool.and_true, Bool.and_false, Bool.true_or, Bool.or_true, Bool.false_or, Bool.or_false, Bool.and_self, Bool.or_self, bI_t, bI_f, if_true, if_false, ite_true, ite_false, Bool.false_eq_true, Bool.true_eq_false, eq_self, reduceIte, true_or, or_true, false_or, or_false, and_true, true_and, and_false, false_and, not_true_eq_false, not_false_eq_true, decide_eq_true_eq, decide_eq_false_iff_not])
  · replace h1 := bI_n.mp h1
    refine i_iload_n B 1 dX9_noPoint_12 rfl ?_
    refine i_i2l B dX9_noPoint_13 ?_
    refine i_lconst (v := 0) B dX9_noPoint_14 (by decide) ?_
    refine i_ldc2 B ckX9_102 dX9_noPoint_15 ?_
    refine c_roS (rest := []) (As := [.long (Int32.toInt64 y), .long 0, .long 60]) B (k_X9_in l E (Int32.toInt64 y) 0 60) cal_yX9_in is_yX9_in mlX9_104 (by decide) (by decide) rfl (Nat.le_of_ble_eq_true rfl) Has.nil _ rfl dX9_noPoint_18 (fun r hr => ?_)
    subst hr
    refine i_val (v' := .int (bI (wit y 0 60))) (congrArg (fun z => Value.int (bI z)) (pin_i y 0 60)) ?_
    refine i_if_ne B 28 dX9_noPoint_21 (by decide) (fun h2 => ?_) (fun h2 => ?_)
    · replace h2 := bI_n.mp h2
      refine i_iconst (v := 0) B dX9_noPoint_28 (by decide) ?_
      exact ret _ _ _ (by decide) dX9_noPoint_29 (by simp only [pt, h1, h2, decide_true, decide_false, Bool.not_true, Bool.not_false, Bool.true_and, Bool.false_and, Bool.and_true, Bool.and_false, Bool.true_or, Bool.or_true, Bool.false_or, Bool.or_false, Bool.and_self, Bool.or_self, bI_t, bI_f, if_true, if_false, ite_true, ite_false, Bool.false_eq_true, Bool.true_eq_false, eq_self, reduceIte, true_or, or_true, false_or, or_false, and_true, true_and, and_false, false_and, not_true_eq_false, not_false_eq_true, decide_eq_true_eq, decide_eq_false_iff_not])
    · replace h2 := bI_0.mp h2
      refine i_iconst (v := 1) B dX9_noPoint_24 (by decide) ?_
      refine i_goto B 29 dX9_noPoint_25 (by decide) ?_
      exact ret _ _ _ (by decide) dX9_noPoint_29 (by simp only [pt, h1, h2, decide_true, decide_false, Bool.not_true, Bool.not_false, Bool.true_and, Bool.false_and, Bool.and_true, Bool.and_false, Bool.true_or, Bool.or_true, Bool.false_or, Bool.or_false, Bool.and_self, Bool.or_self, bI_t, bI_f, if_true, if_false, ite_true, ite_false, Bool.false_eq_true, Bool.true_eq_false, eq_self, reduceIte, true_or, or_true, false_or, or_false, and_true, true_and, and_false, false_and, not_true_eq_false, not_false_eq_true, decide_eq_true_eq, decide_eq_false_iff_not])

set_option maxHeartbeats 4000000 in
set_option maxRecDepth 100000 in
theorem k_X9_cross (l : Launch) (E : ED) (ax ay bx by_ : Int32) : RO l E yX9_cross cX9_cross 4 .int 0 0 [.int ax, .int ay, .int bx, .int by_] [] (fun r => r = crs ax ay bx by_) := by
  refine RO.mk (by decide) (Nat.le_of_ble_eq_true rfl) [(0, .int ax), (1, .int ay), (2, .int bx), (3, .int by_)] rfl (fun Z B ret => ?_)
  refine i_iload_n B 0 dX9_cross_0 rfl ?_
  refine i_iload_n B 3 dX9_cross_1 rfl ?_
  refine i_imul B dX9_cross_2 ?_
  refine i_iload_n B 1 dX9_cross_3 rfl ?_
  refine i_iload_n B 2 dX9_cross_4 rfl ?_
  refine i_imul B dX9_cross_5 ?_
  refine i_isub B dX9_cross_6 ?_
  exact ret _ _ _ rfl dX9_cross_7 (rfl)

set_option maxHeartbeats 4000000 in
set_option maxRecDepth 100000 in
theorem k_X9_sign (l : Launch) (E : ED) (v : Int32) : RO l E yX9_sign cX9_sign 1 .int 0 0 [.int v] [] (fun r => r = sgn v) := by
  refine RO.mk (by decide) (Nat.le_of_ble_eq_true rfl) [(0, .int v)] rfl (fun Z B ret => ?_)
  refine i_iload_n B 0 dX9_sign_0 rfl ?_
  refine i_if_le B 8 dX9_sign_1 (by decide) (fun h1 => ?_) (fun h1 => ?_)
  · replace h1 := q_n32.mpr h1
    refine i_iload_n B 0 dX9_sign_8 rfl ?_
    refine i_if_ge B 16 dX9_sign_9 (by decide) (fun h2 => ?_) (fun h2 => ?_)
    · replace h2 := q_n32.mpr h2
      refine i_iconst (v := 0) B dX9_sign_16 (by decide) ?_
      exact ret _ _ _ rfl dX9_sign_17 (by simp only [sgn]; simp [h1, h2])
    · replace h2 := q_m32.mp h2
      refine i_iconst (v := (-1)) B dX9_sign_12 (by decide) ?_
      refine i_goto B 17 dX9_sign_13 (by decide) ?_
      exact ret _ _ _ rfl dX9_sign_17 (by simp only [sgn]; simp [h1, h2])
  · replace h1 := q_m32.mp h1
    refine i_iconst (v := 1) B dX9_sign_4 (by decide) ?_
    refine i_goto B 17 dX9_sign_5 (by decide) ?_
    exact ret _ _ _ rfl dX9_sign_17 (by simp only [sgn]; simp [h1])

set_option maxHeartbeats 4000000 in
set_option maxRecDepth 100000 in
theorem k_X9_isBetween (l : Launch) (E : ED) (ax ay bx by_ cx cy : Int32) : RO l E yX9_isBetween cX9_isBetween 8 .boolean 1 25 [.int ax, .int ay, .int bx, .int by_, .int cx, .int cy] [] (fun r => r = bI (btw ax ay bx by_ cx cy)) := by
  refine RO.mk (by decide) (Nat.le_of_ble_eq_true rfl) [(0, .int ax), (1, .int ay), (2, .int bx), (3, .int by_), (4, .int cx), (5, .int cy)] rfl (fun Z B ret => ?_)
  refine i_iload_n B 0 dX9_isBetween_0 rfl ?_
  refine i_iload_n B 2 dX9_isBetween_1 rfl ?_
  refine i_icmp_ge B 18 dX9_isBetween_2 (by decide) (fun h1 => ?_) (fun h1 => ?_)
  · replace h1 := q_n32.mpr h1
    refine i_iload B 4 dX9_isBetween_18 rfl ?_
    refine i_i2l B dX9_isBetween_20 ?_
    refine i_iload_n B 2 dX9_isBetween_21 rfl ?_
    refine i_i2l B dX9_isBetween_22 ?_
    refine i_iload_n B 0 dX9_isBetween_23 rfl ?_
    refine i_i2l B dX9_isBetween_24 ?_
    refine c_roS (rest := []) (As := [.long (Int32.toInt64 cx), .long (Int32.toInt64 bx), .long (Int32.toInt64 ax)]) B (k_X9_in l E (Int32.toInt64 cx) (Int32.toInt64 bx) (Int32.toInt64 ax)) cal_yX9_in is_yX9_in mlX9_104 (by decide) (by decide) rfl (Nat.le_of_ble_eq_true rfl) Has.nil _ rfl dX9_isBetween_25 (fun r hr => ?_)
    subst hr
    refine i_val (v' := .int (bI (wit cx bx ax))) (congrArg (fun z => Value.int (bI z)) (pin_i cx bx ax)) ?_
    refine i_istore B [(6, .int (bI (wit cx bx ax))), (0, .int ax), (1, .int ay), (2, .int bx), (3, .int by_), (4, .int cx), (5, .int cy)] dX9_isBetween_28 (by decide) rfl ?_
    refine i_iload_n B 2 dX9_isBetween_30 rfl ?_
    refine i_iload_n B 4 dX9_isBetween_31 rfl ?_
    refine i_icmp_ge B 48 dX9_isBetween_32 (by decide) (fun h2 => ?_) (fun h2 => ?_)
    · replace h2 := q_n32.mpr h2
      refine i_iload B 6 dX9_isBetween_48 rfl ?_
      refine i_i2l B dX9_isBetween_50 ?_
      refine i_iload_n B 4 dX9_isBetween_51 rfl ?_
      refine i_i2l B dX9_isBetween_52 ?_
      refine i_iload_n B 2 dX9_isBetween_53 rfl ?_
      refine i_i2l B dX9_isBetween_54 ?_
      refine c_roS (rest := []) (As := [.long (Int32.toInt64 cy), .long (Int32.toInt64 by_), .long (Int32.toInt64 ay)]) B (k_X9_in l E (Int32.toInt64 cy) (Int32.toInt64 by_) (Int32.toInt64 ay)) cal_yX9_in is_yX9_in mlX9_104 (by decide) (by decide) rfl (Nat.le_of_ble_eq_true rfl) Has.nil _ rfl dX9_isBetween_55 (fun r hr => ?_)
      subst hr
      refine i_val (v' := .int (bI (wit cy by_ ay))) (congrArg (fun z => Value.int (bI z)) (pin_i cy by_ ay)) ?_
      refine i_istore B [(7, .int (bI (wit cy by_ ay))), (6, .int (bI (wit cx bx ax))), (0, .int ax), (1, .int ay), (2, .int bx), (3, .int by_), (4, .int cx), (5, .int cy)] dX9_isBetween_58 (by decide) rfl ?_
      refine i_iload B 1 dX9_isBetween_60 rfl ?_
      refine i_if_eq B 74 dX9_isBetween_62 (by decide) (fun h3 => ?_) (fun h3 => ?_)
      · replace h3 := bI_0.mp h3
        refine i_iconst (v := 0) B dX9_isBetween_74 (by decide) ?_
        exact ret _ _ _ (by decide) dX9_isBetween_75 (by simp only [btw, bt1]; simp [bI, h1, h2, h3])
      · replace h3 := bI_n.mp h3
        refine i_iload B 0 dX9_isBetween_65 rfl ?_
        refine i_if_eq B 74 dX9_isBetween_67 (by decide) (fun h4 => ?_) (fun h4 => ?_)
        · replace h4 := bI_0.mp h4
          refine i_iconst (v := 0) B dX9_isBetween_74 (by decide) ?_
          exact ret _ _ _ (by decide) dX9_isBetween_75 (by simp only [btw, bt1]; simp [bI, h1, h2, h3, h4])
        · replace h4 := bI_n.mp h4
          refine i_iconst (v := 1) B dX9_isBetween_70 (by decide) ?_
          refine i_goto B 75 dX9_isBetween_71 (by decide) ?_
          exact ret _ _ _ (by decide) dX9_isBetween_75 (by simp only [btw, bt1]; simp [bI, h1, h2, h3, h4])
    · replace h2 := q_m32.mp h2
      refine i_iload B 6 dX9_isBetween_35 rfl ?_
      refine i_i2l B dX9_isBetween_37 ?_
      refine i_iload_n B 2 dX9_isBetween_38 rfl ?_
      refine i_i2l B dX9_isBetween_39 ?_
      refine i_iload_n B 4 dX9_isBetween_40 rfl ?_
      refine i_i2l B dX9_isBetween_41 ?_
      refine c_roS (rest := []) (As := [.long (Int32.toInt64 cy), .long (Int32.toInt64 ay), .long (Int32.toInt64 by_)]) B (k_X9_in l E (Int32.toInt64 cy) (Int32.toInt64 ay) (Int32.toInt64 by_)) cal_yX9_in is_yX9_in mlX9_104 (by decide) (by decide) rfl (Nat.le_of_ble_eq_true rfl) Has.nil _ rfl dX9_isBetween_42 (fun r hr => ?_)
      subst hr
      refine i_val (v' := .int (bI (wit cy ay by_))) (congrArg (fun z => Value.int (bI z)) (pin_i cy ay by_)) ?_
      refine i_goto B 58 dX9_isBetween_45 (by decide) ?_
      refine i_istore B [(7, .int (bI (wit cy ay by_))), (6, .int (bI (wit cx bx ax))), (0, .int ax), (1, .int ay), (2, .int bx), (3, .int by_), (4, .int cx), (5, .int cy)] dX9_isBetween_58 (by decide) rfl ?_
      refine i_iload B 1 dX9_isBetween_60 rfl ?_
      refine i_if_eq B 74 dX9_isBetween_62 (by decide) (fun h5 => ?_) (fun h5 => ?_)
      · replace h5 := bI_0.mp h5
        refine i_iconst (v := 0) B dX9_isBetween_74 (by decide) ?_
        exact ret _ _ _ (by decide) dX9_isBetween_75 (by simp only [btw, bt1]; simp [bI, h1, h2, h5])
      · replace h5 := bI_n.mp h5
        refine i_iload B 0 dX9_isBetween_65 rfl ?_
        refine i_if_eq B 74 dX9_isBetween_67 (by decide) (fun h6 => ?_) (fun h6 => ?_)
        · replace h6 := bI_0.mp h6
          refine i_iconst (v := 0) B dX9_isBetween_74 (by decide) ?_
          exact ret _ _ _ (by decide) dX9_isBetween_75 (by simp only [btw, bt1]; simp [bI, h1, h2, h5, h6])
        · replace h6 := bI_n.mp h6
          refine i_iconst (v := 1) B dX9_isBetween_70 (by decide) ?_
          refine i_goto B 75 dX9_isBetween_71 (by decide) ?_
          exact ret _ _ _ (by decide) dX9_isBetween_75 (by simp only [btw, bt1]; simp [bI, h1, h2, h5, h6])
  · replace h1 := q_m32.mp h1
    refine i_iload B 4 dX9_isBetween_5 rfl ?_
    refine i_i2l B dX9_isBetween_7 ?_
    refine i_iload_n B 0 dX9_isBetween_8 rfl ?_
    refine i_i2l B dX9_isBetween_9 ?_
    refine i_iload_n B 2 dX9_isBetween_10 rfl ?_
    refine i_i2l B dX9_isBetween_11 ?_
    refine c_roS (rest := []) (As := [.long (Int32.toInt64 cx), .long (Int32.toInt64 ax), .long (Int32.toInt64 bx)]) B (k_X9_in l E (Int32.toInt64 cx) (Int32.toInt64 ax) (Int32.toInt64 bx)) cal_yX9_in is_yX9_in mlX9_104 (by decide) (by decide) rfl (Nat.le_of_ble_eq_true rfl) Has.nil _ rfl dX9_isBetween_12 (fun r hr => ?_)
    subst hr
    refine i_val (v' := .int (bI (wit cx ax bx))) (congrArg (fun z => Value.int (bI z)) (pin_i cx ax bx)) ?_
    refine i_goto B 28 dX9_isBetween_15 (by decide) ?_
    refine i_istore B [(6, .int (bI (wit cx ax bx))), (0, .int ax), (1, .int ay), (2, .int bx), (3, .int by_), (4, .int cx), (5, .int cy)] dX9_isBetween_28 (by decide) rfl ?_
    refine i_iload_n B 2 dX9_isBetween_30 rfl ?_
    refine i_iload_n B 4 dX9_isBetween_31 rfl ?_
    refine i_icmp_ge B 48 dX9_isBetween_32 (by decide) (fun h7 => ?_) (fun h7 => ?_)
    · replace h7 := q_n32.mpr h7
      refine i_iload B 6 dX9_isBetween_48 rfl ?_
      refine i_i2l B dX9_isBetween_50 ?_
      refine i_iload_n B 4 dX9_isBetween_51 rfl ?_
      refine i_i2l B dX9_isBetween_52 ?_
      refine i_iload_n B 2 dX9_isBetween_53 rfl ?_
      refine i_i2l B dX9_isBetween_54 ?_
      refine c_roS (rest := []) (As := [.long (Int32.toInt64 cy), .long (Int32.toInt64 by_), .long (Int32.toInt64 ay)]) B (k_X9_in l E (Int32.toInt64 cy) (Int32.toInt64 by_) (Int32.toInt64 ay)) cal_yX9_in is_yX9_in mlX9_104 (by decide) (by decide) rfl (Nat.le_of_ble_eq_true rfl) Has.nil _ rfl dX9_isBetween_55 (fun r hr => ?_)
      subst hr
      refine i_val (v' := .int (bI (wit cy by_ ay))) (congrArg (fun z => Value.int (bI z)) (pin_i cy by_ ay)) ?_
      refine i_istore B [(7, .int (bI (wit cy by_ ay))), (6, .int (bI (wit cx ax bx))), (0, .int ax), (1, .int ay), (2, .int bx), (3, .int by_), (4, .int cx), (5, .int cy)] dX9_isBetween_58 (by decide) rfl ?_
      refine i_iload B 1 dX9_isBetween_60 rfl ?_
      refine i_if_eq B 74 dX9_isBetween_62 (by decide) (fun h8 => ?_) (fun h8 => ?_)
      · replace h8 := bI_0.mp h8
        refine i_iconst (v := 0) B dX9_isBetween_74 (by decide) ?_
        exact ret _ _ _ (by decide) dX9_isBetween_75 (by simp only [btw, bt1]; simp [bI, h1, h7, h8])
      · replace h8 := bI_n.mp h8
        refine i_iload B 0 dX9_isBetween_65 rfl ?_
        refine i_if_eq B 74 dX9_isBetween_67 (by decide) (fun h9 => ?_) (fun h9 => ?_)
        · replace h9 := bI_0.mp h9
          refine i_iconst (v := 0) B dX9_isBetween_74 (by decide) ?_
          exact ret _ _ _ (by decide) dX9_isBetween_75 (by simp only [btw, bt1]; simp [bI, h1, h7, h8, h9])
        · replace h9 := bI_n.mp h9
          refine i_iconst (v := 1) B dX9_isBetween_70 (by decide) ?_
          refine i_goto B 75 dX9_isBetween_71 (by decide) ?_
          exact ret _ _ _ (by decide) dX9_isBetween_75 (by simp only [btw, bt1]; simp [bI, h1, h7, h8, h9])
    · replace h7 := q_m32.mp h7
      refine i_iload B 6 dX9_isBetween_35 rfl ?_
      refine i_i2l B dX9_isBetween_37 ?_
      refine i_iload_n B 2 dX9_isBetween_38 rfl ?_
      refine i_i2l B dX9_isBetween_39 ?_
      refine i_iload_n B 4 dX9_isBetween_40 rfl ?_
      refine i_i2l B dX9_isBetween_41 ?_
      refine c_roS (rest := []) (As := [.long (Int32.toInt64 cy), .long (Int32.toInt64 ay), .long (Int32.toInt64 by_)]) B (k_X9_in l E (Int32.toInt64 cy) (Int32.toInt64 ay) (Int32.toInt64 by_)) cal_yX9_in is_yX9_in mlX9_104 (by decide) (by decide) rfl (Nat.le_of_ble_eq_true rfl) Has.nil _ rfl dX9_isBetween_42 (fun r hr => ?_)
      subst hr
      refine i_val (v' := .int (bI (wit cy ay by_))) (congrArg (fun z => Value.int (bI z)) (pin_i cy ay by_)) ?_
      refine i_goto B 58 dX9_isBetween_45 (by decide) ?_
      refine i_istore B [(7, .int (bI (wit cy ay by_))), (6, .int (bI (wit cx ax bx))), (0, .int ax), (1, .int ay), (2, .int bx), (3, .int by_), (4, .int cx), (5, .int cy)] dX9_isBetween_58 (by decide) rfl ?_
      refine i_iload B 1 dX9_isBetween_60 rfl ?_
      refine i_if_eq B 74 dX9_isBetween_62 (by decide) (fun h10 => ?_) (fun h10 => ?_)
      · replace h10 := bI_0.mp h10
        refine i_iconst (v := 0) B dX9_isBetween_74 (by decide) ?_
        exact ret _ _ _ (by decide) dX9_isBetween_75 (by simp only [btw, bt1]; simp [bI, h1, h7, h10])
      · replace h10 := bI_n.mp h10
        refine i_iload B 0 dX9_isBetween_65 rfl ?_
        refine i_if_eq B 74 dX9_isBetween_67 (by decide) (fun h11 => ?_) (fun h11 => ?_)
        · replace h11 := bI_0.mp h11
          refine i_iconst (v := 0) B dX9_isBetween_74 (by decide) ?_
          exact ret _ _ _ (by decide) dX9_isBetween_75 (by simp only [btw, bt1]; simp [bI, h1, h7, h10, h11])
        · replace h11 := bI_n.mp h11
          refine i_iconst (v := 1) B dX9_isBetween_70 (by decide) ?_
          refine i_goto B 75 dX9_isBetween_71 (by decide) ?_
          exact ret _ _ _ (by decide) dX9_isBetween_75 (by simp only [btw, bt1]; simp [bI, h1, h7, h10, h11])

set_option maxHeartbeats 4000000 in
set_option maxRecDepth 100000 in
theorem k_X9_meet (l : Launch) (E : ED) (ax ay bx by_ cx cy dx dy : Int32) : RO l E yX9_meet cX9_meet 12 .boolean 2 52 [.int ax, .int ay, .int bx, .int by_, .int cx, .int cy, .int dx, .int dy] [] (fun r => r = bI (mt ax ay bx by_ cx cy dx dy)) := by
  refine RO.mk (by decide) (Nat.le_of_ble_eq_true rfl) [(0, .int ax), (1, .int ay), (2, .int bx), (3, .int by_), (4, .int cx), (5, .int cy), (6, .int dx), (7, .int dy)] rfl (fun Z B ret => ?_)
  have j175 : ∀ (a : Int32) (b : Int32) (c : Int32) (d : Int32), ((decide (a * b < 0) && decide (c * d < 0)) = false) → ((decide (a = 0) && btw cx cy dx dy ax ay) = false) → ((decide (b = 0) && btw cx cy dx dy bx by_) = false) → ((decide (c = 0) && btw ax ay bx by_ cx cy) = false) → (a = sgn (crs (dx - cx) (dy - cy) (ax - cx) (ay - cy))) → (b = sgn (crs (dx - cx) (dy - cy) (bx - cx) (by_ - cy))) → (c = sgn (crs (bx - ax) (by_ - ay) (cx - ax) (cy - ay))) → (d = sgn (crs (bx - ax) (by_ - ay) (dx - ax) (dy - ay))) → J Z 0 0 [] 175 [(0, .int ax), (1, .int ay), (2, .int bx), (3, .int by_), (4, .int cx), (5, .int cy), (6, .int dx), (7, .int dy), (8, .int a), (9, .int b), (10, .int c), (11, .int d)] [] := by
    intro a b c d f0 f1 f2 f3 ea eb ec ed
    refine i_iload B 11 dX9_meet_175 rfl ?_
    refine i_if_ne B 198 dX9_meet_177 (by decide) (fun h1 => ?_) (fun h1 => ?_)
    · have h1d := decide_eq_false h1
      refine i_iconst (v := 0) B dX9_meet_198 (by decide) ?_
      exact ret _ _ _ (by decide) dX9_meet_199 (by rw [mt, ← ea, ← eb, ← ec, ← ed, mtt]; simp [bI, f0, f1, f2, f3, h1])
    · have h1d := decide_eq_true h1
      refine i_iload_n B 0 dX9_meet_180 rfl ?_
      refine i_iload_n B 1 dX9_meet_181 rfl ?_
      refine i_iload_n B 2 dX9_meet_182 rfl ?_
      refine i_iload_n B 3 dX9_meet_183 rfl ?_
      refine i_iload B 6 dX9_meet_184 rfl ?_
      refine i_iload B 7 dX9_meet_186 rfl ?_
      refine c_roS (rest := []) (As := [.int ax, .int ay, .int bx, .int by_, .int dx, .int dy]) B (k_X9_isBetween l E ax ay bx by_ dx dy) cal_yX9_isBetween is_yX9_isBetween mlX9_122 (by decide) (by decide) rfl (Nat.le_of_ble_eq_true rfl) Has.nil _ rfl dX9_meet_188 (fun r hr => ?_)
      subst hr
      refine i_if_eq B 198 dX9_meet_191 (by decide) (fun h2 => ?_) (fun h2 => ?_)
      · replace h2 := bI_0.mp h2
        refine i_iconst (v := 0) B dX9_meet_198 (by decide) ?_
        exact ret _ _ _ (by decide) dX9_meet_199 (by rw [mt, ← ea, ← eb, ← ec, ← ed, mtt]; simp [bI, f0, f1, f2, f3, h1, h2])
      · replace h2 := bI_n.mp h2
        refine i_iconst (v := 1) B dX9_meet_194 (by decide) ?_
        refine i_goto B 199 dX9_meet_195 (by decide) ?_
        exact ret _ _ _ (by decide) dX9_meet_199 (by rw [mt, ← ea, ← eb, ← ec, ← ed, mtt]; simp [bI, f0, f1, f2, f3, h1, h2])
  have j156 : ∀ (a : Int32) (b : Int32) (c : Int32) (d : Int32), ((decide (a * b < 0) && decide (c * d < 0)) = false) → ((decide (a = 0) && btw cx cy dx dy ax ay) = false) → ((decide (b = 0) && btw cx cy dx dy bx by_) = false) → (a = sgn (crs (dx - cx) (dy - cy) (ax - cx) (ay - cy))) → (b = sgn (crs (dx - cx) (dy - cy) (bx - cx) (by_ - cy))) → (c = sgn (crs (bx - ax) (by_ - ay) (cx - ax) (cy - ay))) → (d = sgn (crs (bx - ax) (by_ - ay) (dx - ax) (dy - ay))) → J Z 0 0 [] 156 [(0, .int ax), (1, .int ay), (2, .int bx), (3, .int by_), (4, .int cx), (5, .int cy), (6, .int dx), (7, .int dy), (8, .int a), (9, .int b), (10, .int c), (11, .int d)] [] := by
    intro a b c d f0 f1 f2 ea eb ec ed
    refine i_iload B 10 dX9_meet_156 rfl ?_
    refine i_if_ne B 175 dX9_meet_158 (by decide) (fun h3 => ?_) (fun h3 => ?_)
    · have h3d := decide_eq_false h3
      exact j175 a b c d f0 f1 f2 (by simp [h3]) ea eb ec ed
    · have h3d := decide_eq_true h3
      refine i_iload_n B 0 dX9_meet_161 rfl ?_
      refine i_iload_n B 1 dX9_meet_162 rfl ?_
      refine i_iload_n B 2 dX9_meet_163 rfl ?_
      refine i_iload_n B 3 dX9_meet_164 rfl ?_
      refine i_iload B 4 dX9_meet_165 rfl ?_
      refine i_iload B 5 dX9_meet_167 rfl ?_
      refine c_roS (rest := []) (As := [.int ax, .int ay, .int bx, .int by_, .int cx, .int cy]) B (k_X9_isBetween l E ax ay bx by_ cx cy) cal_yX9_isBetween is_yX9_isBetween mlX9_122 (by decide) (by decide) rfl (Nat.le_of_ble_eq_true rfl) Has.nil _ rfl dX9_meet_169 (fun r hr => ?_)
      subst hr
      refine i_if_ne B 194 dX9_meet_172 (by decide) (fun h4 => ?_) (fun h4 => ?_)
      · replace h4 := bI_n.mp h4
        refine i_iconst (v := 1) B dX9_meet_194 (by decide) ?_
        refine i_goto B 199 dX9_meet_195 (by decide) ?_
        exact ret _ _ _ (by decide) dX9_meet_199 (by rw [mt, ← ea, ← eb, ← ec, ← ed, mtt]; simp [bI, f0, f1, f2, h3, h4])
      · replace h4 := bI_0.mp h4
        exact j175 a b c d f0 f1 f2 (by simp [h3, h4]) ea eb ec ed
  have j135 : ∀ (a : Int32) (b : Int32) (c : Int32) (d : Int32), ((decide (a * b < 0) && decide (c * d < 0)) = false) → ((decide (a = 0) && btw cx cy dx dy ax ay) = false) → (a = sgn (crs (dx - cx) (dy - cy) (ax - cx) (ay - cy))) → (b = sgn (crs (dx - cx) (dy - cy) (bx - cx) (by_ - cy))) → (c = sgn (crs (bx - ax) (by_ - ay) (cx - ax) (cy - ay))) → (d = sgn (crs (bx - ax) (by_ - ay) (dx - ax) (dy - ay))) → J Z 0 0 [] 135 [(0, .int ax), (1, .int ay), (2, .int bx), (3, .int by_), (4, .int cx), (5, .int cy), (6, .int dx), (7, .int dy), (8, .int a), (9, .int b), (10, .int c), (11, .int d)] [] := by
    intro a b c d f0 f1 ea eb ec ed
    refine i_iload B 9 dX9_meet_135 rfl ?_
    refine i_if_ne B 156 dX9_meet_137 (by decide) (fun h5 => ?_) (fun h5 => ?_)
    · have h5d := decide_eq_false h5
      exact j156 a b c d f0 f1 (by simp [h5]) ea eb ec ed
    · have h5d := decide_eq_true h5
      refine i_iload B 4 dX9_meet_140 rfl ?_
      refine i_iload B 5 dX9_meet_142 rfl ?_
      refine i_iload B 6 dX9_meet_144 rfl ?_
      refine i_iload B 7 dX9_meet_146 rfl ?_
      refine i_iload_n B 2 dX9_meet_148 rfl ?_
      refine i_iload_n B 3 dX9_meet_149 rfl ?_
      refine c_roS (rest := []) (As := [.int cx, .int cy, .int dx, .int dy, .int bx, .int by_]) B (k_X9_isBetween l E cx cy dx dy bx by_) cal_yX9_isBetween is_yX9_isBetween mlX9_122 (by decide) (by decide) rfl (Nat.le_of_ble_eq_true rfl) Has.nil _ rfl dX9_meet_150 (fun r hr => ?_)
      subst hr
      refine i_if_ne B 194 dX9_meet_153 (by decide) (fun h6 => ?_) (fun h6 => ?_)
      · replace h6 := bI_n.mp h6
        refine i_iconst (v := 1) B dX9_meet_194 (by decide) ?_
        refine i_goto B 199 dX9_meet_195 (by decide) ?_
        exact ret _ _ _ (by decide) dX9_meet_199 (by rw [mt, ← ea, ← eb, ← ec, ← ed, mtt]; simp [bI, f0, f1, h5, h6])
      · replace h6 := bI_0.mp h6
        exact j156 a b c d f0 f1 (by simp [h5, h6]) ea eb ec ed
  have j114 : ∀ (a : Int32) (b : Int32) (c : Int32) (d : Int32), ((decide (a * b < 0) && decide (c * d < 0)) = false) → (a = sgn (crs (dx - cx) (dy - cy) (ax - cx) (ay - cy))) → (b = sgn (crs (dx - cx) (dy - cy) (bx - cx) (by_ - cy))) → (c = sgn (crs (bx - ax) (by_ - ay) (cx - ax) (cy - ay))) → (d = sgn (crs (bx - ax) (by_ - ay) (dx - ax) (dy - ay))) → J Z 0 0 [] 114 [(0, .int ax), (1, .int ay), (2, .int bx), (3, .int by_), (4, .int cx), (5, .int cy), (6, .int dx), (7, .int dy), (8, .int a), (9, .int b), (10, .int c), (11, .int d)] [] := by
    intro a b c d f0 ea eb ec ed
    refine i_iload B 8 dX9_meet_114 rfl ?_
    refine i_if_ne B 135 dX9_meet_116 (by decide) (fun h7 => ?_) (fun h7 => ?_)
    · have h7d := decide_eq_false h7
      exact j135 a b c d f0 (by simp [h7]) ea eb ec ed
    · have h7d := decide_eq_true h7
      refine i_iload B 4 dX9_meet_119 rfl ?_
      refine i_iload B 5 dX9_meet_121 rfl ?_
      refine i_iload B 6 dX9_meet_123 rfl ?_
      refine i_iload B 7 dX9_meet_125 rfl ?_
      refine i_iload_n B 0 dX9_meet_127 rfl ?_
      refine i_iload_n B 1 dX9_meet_128 rfl ?_
      refine c_roS (rest := []) (As := [.int cx, .int cy, .int dx, .int dy, .int ax, .int ay]) B (k_X9_isBetween l E cx cy dx dy ax ay) cal_yX9_isBetween is_yX9_isBetween mlX9_122 (by decide) (by decide) rfl (Nat.le_of_ble_eq_true rfl) Has.nil _ rfl dX9_meet_129 (fun r hr => ?_)
      subst hr
      refine i_if_ne B 194 dX9_meet_132 (by decide) (fun h8 => ?_) (fun h8 => ?_)
      · replace h8 := bI_n.mp h8
        refine i_iconst (v := 1) B dX9_meet_194 (by decide) ?_
        refine i_goto B 199 dX9_meet_195 (by decide) ?_
        exact ret _ _ _ (by decide) dX9_meet_199 (by rw [mt, ← ea, ← eb, ← ec, ← ed, mtt]; simp [bI, f0, h7, h8])
      · replace h8 := bI_0.mp h8
        exact j135 a b c d f0 (by simp [h7, h8]) ea eb ec ed
  refine i_iload B 6 dX9_meet_0 rfl ?_
  refine i_iload B 4 dX9_meet_2 rfl ?_
  refine i_isub B dX9_meet_4 ?_
  refine i_iload B 7 dX9_meet_5 rfl ?_
  refine i_iload B 5 dX9_meet_7 rfl ?_
  refine i_isub B dX9_meet_9 ?_
  refine i_iload_n B 0 dX9_meet_10 rfl ?_
  refine i_iload B 4 dX9_meet_11 rfl ?_
  refine i_isub B dX9_meet_13 ?_
  refine i_iload_n B 1 dX9_meet_14 rfl ?_
  refine i_iload B 5 dX9_meet_15 rfl ?_
  refine i_isub B dX9_meet_17 ?_
  refine c_roS (rest := []) (As := [.int (dx - cx), .int (dy - cy), .int (ax - cx), .int (ay - cy)]) B (k_X9_cross l E (dx - cx) (dy - cy) (ax - cx) (ay - cy)) cal_yX9_cross is_yX9_cross mlX9_114 (by decide) (by decide) rfl (Nat.le_of_ble_eq_true rfl) Has.nil _ rfl dX9_meet_18 (fun r hr => ?_)
  subst hr
  refine c_roS (rest := []) (As := [.int (crs (dx - cx) (dy - cy) (ax - cx) (ay - cy))]) B (k_X9_sign l E (crs (dx - cx) (dy - cy) (ax - cx) (ay - cy))) cal_yX9_sign is_yX9_sign mlX9_118 (by decide) (by decide) rfl (Nat.le_of_ble_eq_true rfl) Has.nil _ rfl dX9_meet_21 (fun r hr => ?_)
  subst hr
  refine j_nameI (fun a ea => ?_)
  refine i_istore B [(8, .int a), (0, .int ax), (1, .int ay), (2, .int bx), (3, .int by_), (4, .int cx), (5, .int cy), (6, .int dx), (7, .int dy)] dX9_meet_24 (by decide) rfl ?_
  refine i_iload B 7 dX9_meet_26 rfl ?_
  refine i_iload B 5 dX9_meet_28 rfl ?_
  refine i_isub B dX9_meet_30 ?_
  refine i_iload B 8 dX9_meet_31 rfl ?_
  refine i_iload B 6 dX9_meet_33 rfl ?_
  refine i_isub B dX9_meet_35 ?_
  refine i_iload_n B 3 dX9_meet_36 rfl ?_
  refine i_iload B 5 dX9_meet_37 rfl ?_
  refine i_isub B dX9_meet_39 ?_
  refine i_iload_n B 4 dX9_meet_40 rfl ?_
  refine i_iload B 6 dX9_meet_41 rfl ?_
  refine i_isub B dX9_meet_43 ?_
  refine c_roS (rest := []) (As := [.int (dx - cx), .int (dy - cy), .int (bx - cx), .int (by_ - cy)]) B (k_X9_cross l E (dx - cx) (dy - cy) (bx - cx) (by_ - cy)) cal_yX9_cross is_yX9_cross mlX9_114 (by decide) (by decide) rfl (Nat.le_of_ble_eq_true rfl) Has.nil _ rfl dX9_meet_44 (fun r hr => ?_)
  subst hr
  refine c_roS (rest := []) (As := [.int (crs (dx - cx) (dy - cy) (bx - cx) (by_ - cy))]) B (k_X9_sign l E (crs (dx - cx) (dy - cy) (bx - cx) (by_ - cy))) cal_yX9_sign is_yX9_sign mlX9_118 (by decide) (by decide) rfl (Nat.le_of_ble_eq_true rfl) Has.nil _ rfl dX9_meet_47 (fun r hr => ?_)
  subst hr
  refine j_nameI (fun b eb => ?_)
  refine i_istore B [(9, .int b), (8, .int a), (0, .int ax), (1, .int ay), (2, .int bx), (3, .int by_), (4, .int cx), (5, .int cy), (6, .int dx), (7, .int dy)] dX9_meet_50 (by decide) rfl ?_
  refine i_iload_n B 4 dX9_meet_52 rfl ?_
  refine i_iload_n B 2 dX9_meet_53 rfl ?_
  refine i_isub B dX9_meet_54 ?_
  refine i_iload_n B 5 dX9_meet_55 rfl ?_
  refine i_iload_n B 3 dX9_meet_56 rfl ?_
  refine i_isub B dX9_meet_57 ?_
  refine i_iload B 6 dX9_meet_58 rfl ?_
  refine i_iload_n B 2 dX9_meet_60 rfl ?_
  refine i_isub B dX9_meet_61 ?_
  refine i_iload B 7 dX9_meet_62 rfl ?_
  refine i_iload_n B 3 dX9_meet_64 rfl ?_
  refine i_isub B dX9_meet_65 ?_
  refine c_roS (rest := []) (As := [.int (bx - ax), .int (by_ - ay), .int (cx - ax), .int (cy - ay)]) B (k_X9_cross l E (bx - ax) (by_ - ay) (cx - ax) (cy - ay)) cal_yX9_cross is_yX9_cross mlX9_114 (by decide) (by decide) rfl (Nat.le_of_ble_eq_true rfl) Has.nil _ rfl dX9_meet_66 (fun r hr => ?_)
  subst hr
  refine c_roS (rest := []) (As := [.int (crs (bx - ax) (by_ - ay) (cx - ax) (cy - ay))]) B (k_X9_sign l E (crs (bx - ax) (by_ - ay) (cx - ax) (cy - ay))) cal_yX9_sign is_yX9_sign mlX9_118 (by decide) (by decide) rfl (Nat.le_of_ble_eq_true rfl) Has.nil _ rfl dX9_meet_69 (fun r hr => ?_)
  subst hr
  refine j_nameI (fun c ec => ?_)
  refine i_istore B [(10, .int c), (9, .int b), (8, .int a), (0, .int ax), (1, .int ay), (2, .int bx), (3, .int by_), (4, .int cx), (5, .int cy), (6, .int dx), (7, .int dy)] dX9_meet_72 (by decide) rfl ?_
  refine i_iload_n B 5 dX9_meet_74 rfl ?_
  refine i_iload_n B 3 dX9_meet_75 rfl ?_
  refine i_isub B dX9_meet_76 ?_
  refine i_iload_n B 6 dX9_meet_77 rfl ?_
  refine i_iload_n B 4 dX9_meet_78 rfl ?_
  refine i_isub B dX9_meet_79 ?_
  refine i_iload B 9 dX9_meet_80 rfl ?_
  refine i_iload_n B 3 dX9_meet_82 rfl ?_
  refine i_isub B dX9_meet_83 ?_
  refine i_iload B 10 dX9_meet_84 rfl ?_
  refine i_iload_n B 4 dX9_meet_86 rfl ?_
  refine i_isub B dX9_meet_87 ?_
  refine c_roS (rest := []) (As := [.int (bx - ax), .int (by_ - ay), .int (dx - ax), .int (dy - ay)]) B (k_X9_cross l E (bx - ax) (by_ - ay) (dx - ax) (dy - ay)) cal_yX9_cross is_yX9_cross mlX9_114 (by decide) (by decide) rfl (Nat.le_of_ble_eq_true rfl) Has.nil _ rfl dX9_meet_88 (fun r hr => ?_)
  subst hr
  refine c_roS (rest := []) (As := [.int (crs (bx - ax) (by_ - ay) (dx - ax) (dy - ay))]) B (k_X9_sign l E (crs (bx - ax) (by_ - ay) (dx - ax) (dy - ay))) cal_yX9_sign is_yX9_sign mlX9_118 (by decide) (by decide) rfl (Nat.le_of_ble_eq_true rfl) Has.nil _ rfl dX9_meet_91 (fun r hr => ?_)
  subst hr
  refine j_nameI (fun d ed => ?_)
  refine i_istore B [(11, .int d), (10, .int c), (9, .int b), (8, .int a), (0, .int ax), (1, .int ay), (2, .int bx), (3, .int by_), (4, .int cx), (5, .int cy), (6, .int dx), (7, .int dy)] dX9_meet_94 (by decide) rfl ?_
  refine i_iload B 3 dX9_meet_96 rfl ?_
  refine i_iload B 2 dX9_meet_98 rfl ?_
  refine i_imul B dX9_meet_100 ?_
  refine i_if_ge B 114 dX9_meet_101 (by decide) (fun h9 => ?_) (fun h9 => ?_)
  · replace h9 := q_n32.mpr h9
    refine i_locals [4, 5, 6, 7, 8, 9, 10, 11, 3, 2, 1, 0] (L' := [(0, .int ax), (1, .int ay), (2, .int bx), (3, .int by_), (4, .int cx), (5, .int cy), (6, .int dx), (7, .int dy), (8, .int a), (9, .int b), (10, .int c), (11, .int d)]) rfl ?_
    exact j114 a b c d (by simp [h9]) ea eb ec ed
  · replace h9 := q_m32.mp h9
    refine i_iload B 1 dX9_meet_104 rfl ?_
    refine i_iload B 0 dX9_meet_106 rfl ?_
    refine i_imul B dX9_meet_108 ?_
    refine i_if_ge B 114 dX9_meet_109 (by decide) (fun h10 => ?_) (fun h10 => ?_)
    · replace h10 := q_n32.mpr h10
      refine i_locals [4, 5, 6, 7, 8, 9, 10, 11, 3, 2, 1, 0] (L' := [(0, .int ax), (1, .int ay), (2, .int bx), (3, .int by_), (4, .int cx), (5, .int cy), (6, .int dx), (7, .int dy), (8, .int a), (9, .int b), (10, .int c), (11, .int d)]) rfl ?_
      exact j114 a b c d (by simp [h9, h10]) ea eb ec ed
    · replace h10 := q_m32.mp h10
      refine i_iconst (v := 1) B dX9_meet_112 (by decide) ?_
      exact ret _ _ _ (by decide) dX9_meet_113 (by rw [mt, ← ea, ← eb, ← ec, ← ed, mtt]; simp [bI, h9, h10])
end
section
/-- the reference: its object at h, its arrays at q -/
def mW (E : ED) (h : Nat) (q : Nat → Nat) (g : Nat → Int32) (a : Nat → Nat → Int32) : va_W := [(h, .inr (9, [.int 0, .int (g 1), .ref (q 2), .ref (q 3), .ref (q 4), .ref (q 5), .int (g 6), .int (g 7), .int (g 8), .ref (q 9), .ref (q 10), .int (g 11), .ref (q 12), .ref (q 13), .ref (q 14), .ref (q 15), .int (g 16), .int (g 17), .int (g 18), .int (g 19), .int (g 20), .ref (q 21), .ref (q 22), .ref (q 23), .int (g 24), .ref (q 25), .ref (q 26), .ref (q 27), .ref (q 28), .ref (q 29), .ref (q 30), .ref (q 31), .ref (q 32), .ref (q 33), .ref (q 34), .ref (q 35), .ref (q 36), .ref (q 37)])), (q 2, .inl (E.2.1, 12, .inl (a 2))), (q 3, .inl (E.2.1, 12, .inl (a 3))), (q 4, .inl (E.2.1, 12, .inl (a 4))), (q 5, .inl (E.2.1, 12, .inl (a 5))), (q 9, .inl (E.2.1, 11, .inl (a 9))), (q 10, .inl (E.2.1, 11, .inl (a 10))), (q 12, .inl (E.2.1, 4, .inl (a 12))), (q 13, .inl (E.2.1, 4, .inl (a 13))), (q 14, .inl (E.2.1, 4, .inl (a 14))), (q 15, .inl (E.2.1, 4, .inl (a 15))), (q 21, .inl (E.2.1, 20, .inl (a 21))), (q 22, .inl (E.2.1, 20, .inl (a 22))), (q 23, .inl (E.2.1, 20, .inl (a 23))), (q 25, .inl (E.2.1, 40, .inl (a 25))), (q 26, .inl (E.2.1, 40, .inl (a 26))), (q 27, .inl (E.2.1, 40, .inl (a 27))), (q 28, .inl (E.2.1, 40, .inl (a 28))), (q 29, .inl (E.2.2, 40, .inl (a 29))), (q 30, .inl (E.2.1, 121, .inl (a 30))), (q 31, .inl (E.2.1, 11264, .inl (a 31))), (q 32, .inl (E.2.1, 1024, .inl (a 32))), (q 33, .inl (E.2.1, 1024, .inl (a 33))), (q 34, .inl (E.2.1, 40, .inl (a 34))), (q 35, .inl (E.2.1, 40, .inl (a 35))), (q 36, .inl (E.2.1, 1681, .inl (a 36))), (q 37, .inl (E.2.1, 1681, .inl (a 37)))]

def sdx (a : Nat → Nat → Int32) (p : Nat) : Int32 := a 4 p - a 2 p
def sdy (a : Nat → Nat → Int32) (p : Nat) : Int32 := a 5 p - a 3 p
def smx (a : Nat → Nat → Int32) (p : Nat) : Int32 := a 2 p + a 4 p
def smy (a : Nat → Nat → Int32) (p : Nat) : Int32 := a 3 p + a 5 p
def swx (a : Nat → Nat → Int32) (x : Int32) (p : Nat) : Int32 := smx a p - 2 * x
def swy (a : Nat → Nat → Int32) (y : Int32) (p : Nat) : Int32 := smy a p - 2 * y
def sway (a : Nat → Nat → Int32) (x y : Int32) (p : Nat) : Int64 := (swx a x p).toInt64 * (swx a x p).toInt64 + (swy a y p).toInt64 * (swy a y p).toInt64
def slong (a : Nat → Nat → Int32) (p : Nat) : Int64 := (sdx a p).toInt64 * (sdx a p).toInt64 + (sdy a p).toInt64 * (sdy a p).toInt64
def sacr (a : Nat → Nat → Int32) (x y : Int32) (p : Nat) : Int64 := (crs (sdx a p) (sdy a p) (swx a x p) (swy a y p)).toInt64
def sn1 (g : Nat → Int32) (a : Nat → Nat → Int32) (x y : Int32) (p : Nat) : Bool := decide (0 < crs (sdx a p) (sdy a p) (x - a 2 p) (y - a 3 p)) && (!decide (4 * (g 6).toInt64 * (g 6).toInt64 < sway a x y p) && !decide (100 * sacr a x y p * sacr a x y p < (g 7).toInt64 * slong a p * sway a x y p))
def sno (a : Nat → Nat → Int32) (x y : Int32) (p o : Nat) : Bool := mt (2 * x) (2 * y) (smx a p) (smy a p) (2 * a 2 o) (2 * a 3 o) (2 * a 4 o) (2 * a 5 o)
def clr (a : Nat → Nat → Int32) (x y : Int32) (p : Nat) : Nat → Bool
  | 0 => true
  | k + 1 => clr a x y p k && (decide (k = p) || !sno a x y p k)
/-- the reference's SEEN -/
def sn (g : Nat → Int32) (a : Nat → Nat → Int32) (np : Nat) (x y : Int32) (p : Nat) : Bool := sn1 g a x y p && clr a x y p np

set_option maxHeartbeats 4000000 in
set_option maxRecDepth 100000 in
theorem k_X9_isSeen (l : Launch) (E : ED) (h : Nat) (q : Nat → Nat) (g : Nat → Int32) (a : Nat → Nat → Int32) (np p : Nat) (hn : g 1 = nI np) (hnp : np ≤ 12) (hp : p < 12) (x y : Int32) : RO l E yX9_isSeen cX9_isSeen 18 .boolean 3 83 [.ref h, .int x, .int y, .int (nI p)] (mW E h q g a) (fun r => r = bI (sn g a np x y p)) := by
  refine RO.mk (by decide) (Nat.le_of_ble_eq_true rfl) [(0, .ref h), (1, .int x), (2, .int y), (3, .int (nI p))] rfl (fun Z B ret => ?_)
  have lp : ∀ (n_lp : Nat) (i : Nat), (np - i < n_lp) → (i ≤ np) → (sn1 g a x y p = true) → J Z 0 0 (mW E h q g a) 205 [(16, .int (bI (clr a x y p i))), (17, .int (nI i)), (0, .ref h), (1, .int x), (2, .int y), (3, .int (nI p)), (6, .int (((a 2) p) + ((a 4) p))), (7, .int (((a 3) p) + ((a 5) p)))] [] := by
    intro n_lp
    induction n_lp with
    | zero => intro i hf_lp hi hs; omega
    | succ n_lp ih_lp =>
      intro i hf_lp hi hs
      refine i_iload B 1 dX9_isSeen_205 rfl ?_
      refine i_aload_n B 2 dX9_isSeen_207 rfl ?_
      refine i_get (v := .int (g 1)) B flX9_108 0 rfl rfl dX9_isSeen_208 ?_
      refine i_icmp_ge B 290 dX9_isSeen_211 (by decide) (fun h1 => ?_) (fun h1 => ?_)
      · replace h1 := q_n32.mpr h1
        rw [hn, nI_ltI (by omega) (by omega)] at h1
        refine i_iload B 0 dX9_isSeen_290 rfl ?_
        exact ret _ _ _ (bI_z _) dX9_isSeen_292 (by rw [sn, hs, show np = i by omega, Bool.true_and])
      · replace h1 := q_m32.mp h1
        rw [hn, nI_ltI (by omega) (by omega)] at h1
        refine i_iload B 0 dX9_isSeen_214 rfl ?_
        refine i_if_eq B 281 dX9_isSeen_216 (by decide) (fun h2 => ?_) (fun h2 => ?_)
        · replace h2 := bI_0.mp h2
          refine i_iconst (v := 0) B dX9_isSeen_281 (by decide) ?_
          refine i_istore B [(16, .int 0), (17, .int (nI i)), (0, .ref h), (1, .int x), (2, .int y), (3, .int (nI p)), (6, .int (((a 2) p) + ((a 4) p))), (7, .int (((a 3) p) + ((a 5) p)))] dX9_isSeen_282 (by decide) rfl ?_
          refine i_iinc (v := (nI (i + 1))) B 1 [(17, .int (nI (i + 1))), (16, .int 0), (0, .ref h), (1, .int x), (2, .int y), (3, .int (nI p)), (6, .int (((a 2) p) + ((a 4) p))), (7, .int (((a 3) p) + ((a 5) p)))] dX9_isSeen_284 rfl ((nI_1 _)) (by decide) rfl ?_
          refine i_goto B 205 dX9_isSeen_287 (by decide) ?_
          refine i_locals [1, 0, 2, 3, 4, 5, 6, 7] (L' := [(16, .int 0), (17, .int (nI (i + 1))), (0, .ref h), (1, .int x), (2, .int y), (3, .int (nI p)), (6, .int (((a 2) p) + ((a 4) p))), (7, .int (((a 3) p) + ((a 5) p)))]) rfl ?_
          refine i_Leq (congrArg (fun z => ([(16, .int z), (17, .int (nI (i + 1))), (0, .ref h), (1, .int x), (2, .int y), (3, .int (nI p)), (6, .int (((a 2) p) + ((a 4) p))), (7, .int (((a 3) p) + ((a 5) p)))] : List (Nat × Value))) (show (0 : Int32) = (bI (clr a x y p (i + 1))) from by rw [clr, h2]; simp only [sno, smx, smy, decide_true, decide_true, decide_false, Bool.not_true, Bool.not_false, Bool.true_and, Bool.false_and, Bool.and_true, Bool.and_false, Bool.true_or, Bool.or_true, Bool.false_or, Bool.or_false, bI_t, bI_f, decide_eq_true_eq])) ?_
          exact ih_lp (i + 1) (by omega) (by omega) hs
        · replace h2 := bI_n.mp h2
          refine i_iload B 1 dX9_isSeen_219 rfl ?_
          refine i_iload_n B 5 dX9_isSeen_221 rfl ?_
          refine i_icmp_eq B 277 dX9_isSeen_222 (by decide) (fun h3 => ?_) (fun h3 => ?_)
          · rw [nI_eq (by omega) (by omega)] at h3
            have h3d := decide_eq_true h3
            refine i_iconst (v := 1) B dX9_isSeen_277 (by decide) ?_
            refine i_goto B 282 dX9_isSeen_278 (by decide) ?_
            refine i_istore B [(16, .int 1), (17, .int (nI i)), (0, .ref h), (1, .int x), (2, .int y), (3, .int (nI p)), (6, .int (((a 2) p) + ((a 4) p))), (7, .int (((a 3) p) + ((a 5) p)))] dX9_isSeen_282 (by decide) rfl ?_
            refine i_iinc (v := (nI (i + 1))) B 1 [(17, .int (nI (i + 1))), (16, .int 1), (0, .ref h), (1, .int x), (2, .int y), (3, .int (nI p)), (6, .int (((a 2) p) + ((a 4) p))), (7, .int (((a 3) p) + ((a 5) p)))] dX9_isSeen_284 rfl ((nI_1 _)) (by decide) rfl ?_
            refine i_goto B 205 dX9_isSeen_287 (by decide) ?_
            refine i_locals [1, 0, 2, 3, 4, 5, 6, 7] (L' := [(16, .int 1), (17, .int (nI (i + 1))), (0, .ref h), (1, .int x), (2, .int y), (3, .int (nI p)), (6, .int (((a 2) p) + ((a 4) p))), (7, .int (((a 3) p) + ((a 5) p)))]) rfl ?_
            refine i_Leq (congrArg (fun z => ([(16, .int z), (17, .int (nI (i + 1))), (0, .ref h), (1, .int x), (2, .int y), (3, .int (nI p)), (6, .int (((a 2) p) + ((a 4) p))), (7, .int (((a 3) p) + ((a 5) p)))] : List (Nat × Value))) (show (1 : Int32) = (bI (clr a x y p (i + 1))) from by rw [clr, h2]; simp only [sno, smx, smy, h3d, decide_true, decide_false, Bool.not_true, Bool.not_false, Bool.true_and, Bool.false_and, Bool.and_true, Bool.and_false, Bool.true_or, Bool.or_true, Bool.false_or, Bool.or_false, bI_t, bI_f, decide_eq_true_eq])) ?_
            exact ih_lp (i + 1) (by omega) (by omega) hs
          · rw [nI_eq (by omega) (by omega)] at h3
            have h3d := decide_eq_false h3
            refine i_iconst (v := 2) B dX9_isSeen_225 (by decide) ?_
            refine i_iload_n B 3 dX9_isSeen_226 rfl ?_
            refine i_imul B dX9_isSeen_227 ?_
            refine i_iconst (v := 2) B dX9_isSeen_228 (by decide) ?_
            refine i_iload_n B 4 dX9_isSeen_229 rfl ?_
            refine i_imul B dX9_isSeen_230 ?_
            refine i_iload B 6 dX9_isSeen_231 rfl ?_
            refine i_iload B 7 dX9_isSeen_233 rfl ?_
            refine i_iconst (v := 2) B dX9_isSeen_235 (by decide) ?_
            refine i_aload_n B 2 dX9_isSeen_236 rfl ?_
            refine i_get (v := .ref (q 2)) B flX9_7 0 rfl rfl dX9_isSeen_237 ?_
            refine i_iload B 1 dX9_isSeen_240 rfl ?_
            refine i_ialdN B 1 i rfl rfl (by omega) (by decide) dX9_isSeen_242 ?_
            refine i_imul B dX9_isSeen_243 ?_
            refine i_iconst (v := 2) B dX9_isSeen_244 (by decide) ?_
            refine i_aload_n B 2 dX9_isSeen_245 rfl ?_
            refine i_get (v := .ref (q 3)) B flX9_13 0 rfl rfl dX9_isSeen_246 ?_
            refine i_iload B 1 dX9_isSeen_249 rfl ?_
            refine i_ialdN B 2 i rfl rfl (by omega) (by decide) dX9_isSeen_251 ?_
            refine i_imul B dX9_isSeen_252 ?_
            refine i_iconst (v := 2) B dX9_isSeen_253 (by decide) ?_
            refine i_aload_n B 2 dX9_isSeen_254 rfl ?_
            refine i_get (v := .ref (q 4)) B flX9_16 0 rfl rfl dX9_isSeen_255 ?_
            refine i_iload B 1 dX9_isSeen_258 rfl ?_
            refine i_ialdN B 3 i rfl rfl (by omega) (by decide) dX9_isSeen_260 ?_
            refine i_imul B dX9_isSeen_261 ?_
            refine i_iconst (v := 2) B dX9_isSeen_262 (by decide) ?_
            refine i_aload_n B 2 dX9_isSeen_263 rfl ?_
            refine i_get (v := .ref (q 5)) B flX9_19 0 rfl rfl dX9_isSeen_264 ?_
            refine i_iload B 1 dX9_isSeen_267 rfl ?_
            refine i_ialdN B 4 i rfl rfl (by omega) (by decide) dX9_isSeen_269 ?_
            refine i_imul B dX9_isSeen_270 ?_
            refine c_roS (rest := []) (As := [.int (2 * x), .int (2 * y), .int (((a 2) p) + ((a 4) p)), .int (((a 3) p) + ((a 5) p)), .int (2 * ((a 2) i)), .int (2 * ((a 3) i)), .int (2 * ((a 4) i)), .int (2 * ((a 5) i))]) B (k_X9_meet l E (2 * x) (2 * y) (((a 2) p) + ((a 4) p)) (((a 3) p) + ((a 5) p)) (2 * ((a 2) i)) (2 * ((a 3) i)) (2 * ((a 4) i)) (2 * ((a 5) i))) cal_yX9_meet is_yX9_meet mlX9_130 (by decide) (by decide) rfl (Nat.le_of_ble_eq_true rfl) Has.nil _ rfl dX9_isSeen_271 (fun r hr => ?_)
            subst hr
            refine i_if_ne B 281 dX9_isSeen_274 (by decide) (fun h4 => ?_) (fun h4 => ?_)
            · replace h4 := bI_n.mp h4
              refine i_iconst (v := 0) B dX9_isSeen_281 (by decide) ?_
              refine i_istore B [(16, .int 0), (17, .int (nI i)), (0, .ref h), (1, .int x), (2, .int y), (3, .int (nI p)), (6, .int (((a 2) p) + ((a 4) p))), (7, .int (((a 3) p) + ((a 5) p)))] dX9_isSeen_282 (by decide) rfl ?_
              refine i_iinc (v := (nI (i + 1))) B 1 [(17, .int (nI (i + 1))), (16, .int 0), (0, .ref h), (1, .int x), (2, .int y), (3, .int (nI p)), (6, .int (((a 2) p) + ((a 4) p))), (7, .int (((a 3) p) + ((a 5) p)))] dX9_isSeen_284 rfl ((nI_1 _)) (by decide) rfl ?_
              refine i_goto B 205 dX9_isSeen_287 (by decide) ?_
              refine i_locals [1, 0, 2, 3, 4, 5, 6, 7] (L' := [(16, .int 0), (17, .int (nI (i + 1))), (0, .ref h), (1, .int x), (2, .int y), (3, .int (nI p)), (6, .int (((a 2) p) + ((a 4) p))), (7, .int (((a 3) p) + ((a 5) p)))]) rfl ?_
              refine i_Leq (congrArg (fun z => ([(16, .int z), (17, .int (nI (i + 1))), (0, .ref h), (1, .int x), (2, .int y), (3, .int (nI p)), (6, .int (((a 2) p) + ((a 4) p))), (7, .int (((a 3) p) + ((a 5) p)))] : List (Nat × Value))) (show (0 : Int32) = (bI (clr a x y p (i + 1))) from by rw [clr, h2]; simp only [sno, smx, smy, h3d, h4, decide_true, decide_false, Bool.not_true, Bool.not_false, Bool.true_and, Bool.false_and, Bool.and_true, Bool.and_false, Bool.true_or, Bool.or_true, Bool.false_or, Bool.or_false, bI_t, bI_f, decide_eq_true_eq])) ?_
              exact ih_lp (i + 1) (by omega) (by omega) hs
            · replace h4 := bI_0.mp h4
              refine i_iconst (v := 1) B dX9_isSeen_277 (by decide) ?_
              refine i_goto B 282 dX9_isSeen_278 (by decide) ?_
              refine i_istore B [(16, .int 1), (17, .int (nI i)), (0, .ref h), (1, .int x), (2, .int y), (3, .int (nI p)), (6, .int (((a 2) p) + ((a 4) p))), (7, .int (((a 3) p) + ((a 5) p)))] dX9_isSeen_282 (by decide) rfl ?_
              refine i_iinc (v := (nI (i + 1))) B 1 [(17, .int (nI (i + 1))), (16, .int 1), (0, .ref h), (1, .int x), (2, .int y), (3, .int (nI p)), (6, .int (((a 2) p) + ((a 4) p))), (7, .int (((a 3) p) + ((a 5) p)))] dX9_isSeen_284 rfl ((nI_1 _)) (by decide) rfl ?_
              refine i_goto B 205 dX9_isSeen_287 (by decide) ?_
              refine i_locals [1, 0, 2, 3, 4, 5, 6, 7] (L' := [(16, .int 1), (17, .int (nI (i + 1))), (0, .ref h), (1, .int x), (2, .int y), (3, .int (nI p)), (6, .int (((a 2) p) + ((a 4) p))), (7, .int (((a 3) p) + ((a 5) p)))]) rfl ?_
              refine i_Leq (congrArg (fun z => ([(16, .int z), (17, .int (nI (i + 1))), (0, .ref h), (1, .int x), (2, .int y), (3, .int (nI p)), (6, .int (((a 2) p) + ((a 4) p))), (7, .int (((a 3) p) + ((a 5) p)))] : List (Nat × Value))) (show (1 : Int32) = (bI (clr a x y p (i + 1))) from by rw [clr, h2]; simp only [sno, smx, smy, h3d, h4, decide_true, decide_false, Bool.not_true, Bool.not_false, Bool.true_and, Bool.false_and, Bool.and_true, Bool.and_false, Bool.true_or, Bool.or_true, Bool.false_or, Bool.or_false, bI_t, bI_f, decide_eq_true_eq])) ?_
              exact ih_lp (i + 1) (by omega) (by omega) hs
  refine i_aload_n B 0 dX9_isSeen_0 rfl ?_
  refine i_get (v := .ref (q 4)) B flX9_16 0 rfl rfl dX9_isSeen_1 ?_
  refine i_iload_n B 3 dX9_isSeen_4 rfl ?_
  refine i_ialdN B 3 p rfl rfl (by omega) (by decide) dX9_isSeen_5 ?_
  refine i_aload_n B 0 dX9_isSeen_6 rfl ?_
  refine i_get (v := .ref (q 2)) B flX9_7 0 rfl rfl dX9_isSeen_7 ?_
  refine i_iload_n B 3 dX9_isSeen_10 rfl ?_
  refine i_ialdN B 1 p rfl rfl (by omega) (by decide) dX9_isSeen_11 ?_
  refine i_isub B dX9_isSeen_12 ?_
  refine i_istore B [(4, .int (((a 4) p) - ((a 2) p))), (0, .ref h), (1, .int x), (2, .int y), (3, .int (nI p))] dX9_isSeen_13 (by decide) rfl ?_
  refine i_aload_n B 1 dX9_isSeen_15 rfl ?_
  refine i_get (v := .ref (q 5)) B flX9_19 0 rfl rfl dX9_isSeen_16 ?_
  refine i_iload_n B 4 dX9_isSeen_19 rfl ?_
  refine i_ialdN B 4 p rfl rfl (by omega) (by decide) dX9_isSeen_20 ?_
  refine i_aload_n B 1 dX9_isSeen_21 rfl ?_
  refine i_get (v := .ref (q 3)) B flX9_13 0 rfl rfl dX9_isSeen_22 ?_
  refine i_iload_n B 4 dX9_isSeen_25 rfl ?_
  refine i_ialdN B 2 p rfl rfl (by omega) (by decide) dX9_isSeen_26 ?_
  refine i_isub B dX9_isSeen_27 ?_
  refine i_istore B [(5, .int (((a 5) p) - ((a 3) p))), (4, .int (((a 4) p) - ((a 2) p))), (0, .ref h), (1, .int x), (2, .int y), (3, .int (nI p))] dX9_isSeen_28 (by decide) rfl ?_
  refine i_iload B 1 dX9_isSeen_30 rfl ?_
  refine i_iload B 0 dX9_isSeen_32 rfl ?_
  refine i_iload_n B 3 dX9_isSeen_34 rfl ?_
  refine i_aload_n B 2 dX9_isSeen_35 rfl ?_
  refine i_get (v := .ref (q 2)) B flX9_7 0 rfl rfl dX9_isSeen_36 ?_
  refine i_iload_n B 5 dX9_isSeen_39 rfl ?_
  refine i_ialdN B 1 p rfl rfl (by omega) (by decide) dX9_isSeen_40 ?_
  refine i_isub B dX9_isSeen_41 ?_
  refine i_iload_n B 4 dX9_isSeen_42 rfl ?_
  refine i_aload_n B 2 dX9_isSeen_43 rfl ?_
  refine i_get (v := .ref (q 3)) B flX9_13 0 rfl rfl dX9_isSeen_44 ?_
  refine i_iload_n B 5 dX9_isSeen_47 rfl ?_
  refine i_ialdN B 2 p rfl rfl (by omega) (by decide) dX9_isSeen_48 ?_
  refine i_isub B dX9_isSeen_49 ?_
  refine c_roS (rest := []) (As := [.int (((a 4) p) - ((a 2) p)), .int (((a 5) p) - ((a 3) p)), .int (x - ((a 2) p)), .int (y - ((a 3) p))]) B (k_X9_cross l E (((a 4) p) - ((a 2) p)) (((a 5) p) - ((a 3) p)) (x - ((a 2) p)) (y - ((a 3) p))) cal_yX9_cross is_yX9_cross mlX9_114 (by decide) (by decide) rfl (Nat.le_of_ble_eq_true rfl) Has.nil _ rfl dX9_isSeen_50 (fun r hr => ?_)
  subst hr
  refine i_if_gt B 58 dX9_isSeen_53 (by decide) (fun h5 => ?_) (fun h5 => ?_)
  · refine i_aload_n B 2 dX9_isSeen_58 rfl ?_
    refine i_get (v := .ref (q 2)) B flX9_7 0 rfl rfl dX9_isSeen_59 ?_
    refine i_iload_n B 5 dX9_isSeen_62 rfl ?_
    refine i_ialdN B 1 p rfl rfl (by omega) (by decide) dX9_isSeen_63 ?_
    refine i_aload_n B 2 dX9_isSeen_64 rfl ?_
    refine i_get (v := .ref (q 4)) B flX9_16 0 rfl rfl dX9_isSeen_65 ?_
    refine i_iload_n B 5 dX9_isSeen_68 rfl ?_
    refine i_ialdN B 3 p rfl rfl (by omega) (by decide) dX9_isSeen_69 ?_
    refine i_iadd B dX9_isSeen_70 ?_
    refine i_istore B [(6, .int (((a 2) p) + ((a 4) p))), (5, .int (((a 5) p) - ((a 3) p))), (4, .int (((a 4) p) - ((a 2) p))), (0, .ref h), (1, .int x), (2, .int y), (3, .int (nI p))] dX9_isSeen_71 (by decide) rfl ?_
    refine i_aload_n B 3 dX9_isSeen_73 rfl ?_
    refine i_get (v := .ref (q 3)) B flX9_13 0 rfl rfl dX9_isSeen_74 ?_
    refine i_iload_n B 6 dX9_isSeen_77 rfl ?_
    refine i_ialdN B 2 p rfl rfl (by omega) (by decide) dX9_isSeen_78 ?_
    refine i_aload_n B 3 dX9_isSeen_79 rfl ?_
    refine i_get (v := .ref (q 5)) B flX9_19 0 rfl rfl dX9_isSeen_80 ?_
    refine i_iload_n B 6 dX9_isSeen_83 rfl ?_
    refine i_ialdN B 4 p rfl rfl (by omega) (by decide) dX9_isSeen_84 ?_
    refine i_iadd B dX9_isSeen_85 ?_
    refine i_istore B [(7, .int (((a 3) p) + ((a 5) p))), (6, .int (((a 2) p) + ((a 4) p))), (5, .int (((a 5) p) - ((a 3) p))), (4, .int (((a 4) p) - ((a 2) p))), (0, .ref h), (1, .int x), (2, .int y), (3, .int (nI p))] dX9_isSeen_86 (by decide) rfl ?_
    refine i_iload B 1 dX9_isSeen_88 rfl ?_
    refine i_iconst (v := 2) B dX9_isSeen_90 (by decide) ?_
    refine i_iload_n B 5 dX9_isSeen_91 rfl ?_
    refine i_imul B dX9_isSeen_92 ?_
    refine i_isub B dX9_isSeen_93 ?_
    refine i_istore B [(8, .int ((((a 2) p) + ((a 4) p)) - (2 * x))), (7, .int (((a 3) p) + ((a 5) p))), (6, .int (((a 2) p) + ((a 4) p))), (5, .int (((a 5) p) - ((a 3) p))), (4, .int (((a 4) p) - ((a 2) p))), (0, .ref h), (1, .int x), (2, .int y), (3, .int (nI p))] dX9_isSeen_94 (by decide) rfl ?_
    refine i_iload B 1 dX9_isSeen_96 rfl ?_
    refine i_iconst (v := 2) B dX9_isSeen_98 (by decide) ?_
    refine i_iload_n B 7 dX9_isSeen_99 rfl ?_
    refine i_imul B dX9_isSeen_100 ?_
    refine i_isub B dX9_isSeen_101 ?_
    refine i_istore B [(9, .int ((((a 3) p) + ((a 5) p)) - (2 * y))), (8, .int ((((a 2) p) + ((a 4) p)) - (2 * x))), (7, .int (((a 3) p) + ((a 5) p))), (6, .int (((a 2) p) + ((a 4) p))), (5, .int (((a 5) p) - ((a 3) p))), (4, .int (((a 4) p) - ((a 2) p))), (0, .ref h), (1, .int x), (2, .int y), (3, .int (nI p))] dX9_isSeen_102 (by decide) rfl ?_
    refine i_iload B 1 dX9_isSeen_104 rfl ?_
    refine i_i2l B dX9_isSeen_106 ?_
    refine i_iload B 1 dX9_isSeen_107 rfl ?_
    refine i_i2l B dX9_isSeen_109 ?_
    refine i_lmul B dX9_isSeen_110 ?_
    refine i_iload B 0 dX9_isSeen_111 rfl ?_
    refine i_i2l B dX9_isSeen_113 ?_
    refine i_iload B 0 dX9_isSeen_114 rfl ?_
    refine i_i2l B dX9_isSeen_116 ?_
    refine i_lmul B dX9_isSeen_117 ?_
    refine i_ladd B dX9_isSeen_118 ?_
    refine i_lstore B [(10, .long (((Int32.toInt64 ((((a 2) p) + ((a 4) p)) - (2 * x))) * (Int32.toInt64 ((((a 2) p) + ((a 4) p)) - (2 * x)))) + ((Int32.toInt64 ((((a 3) p) + ((a 5) p)) - (2 * y))) * (Int32.toInt64 ((((a 3) p) + ((a 5) p)) - (2 * y)))))), (9, .int ((((a 3) p) + ((a 5) p)) - (2 * y))), (8, .int ((((a 2) p) + ((a 4) p)) - (2 * x))), (7, .int (((a 3) p) + ((a 5) p))), (6, .int (((a 2) p) + ((a 4) p))), (5, .int (((a 5) p) - ((a 3) p))), (4, .int (((a 4) p) - ((a 2) p))), (0, .ref h), (1, .int x), (2, .int y), (3, .int (nI p))] dX9_isSeen_119 (by decide) rfl ?_
    refine i_iload B 6 dX9_isSeen_121 rfl ?_
    refine i_iload B 5 dX9_isSeen_123 rfl ?_
    refine i_iload B 2 dX9_isSeen_125 rfl ?_
    refine i_iload B 1 dX9_isSeen_127 rfl ?_
    refine c_roS (rest := []) (As := [.int (((a 4) p) - ((a 2) p)), .int (((a 5) p) - ((a 3) p)), .int ((((a 2) p) + ((a 4) p)) - (2 * x)), .int ((((a 3) p) + ((a 5) p)) - (2 * y))]) B (k_X9_cross l E (((a 4) p) - ((a 2) p)) (((a 5) p) - ((a 3) p)) ((((a 2) p) + ((a 4) p)) - (2 * x)) ((((a 3) p) + ((a 5) p)) - (2 * y))) cal_yX9_cross is_yX9_cross mlX9_114 (by decide) (by decide) rfl (Nat.le_of_ble_eq_true rfl) Has.nil _ rfl dX9_isSeen_129 (fun r hr => ?_)
    subst hr
    refine i_i2l B dX9_isSeen_132 ?_
    refine i_lstore B [(12, .long (Int32.toInt64 (crs (((a 4) p) - ((a 2) p)) (((a 5) p) - ((a 3) p)) ((((a 2) p) + ((a 4) p)) - (2 * x)) ((((a 3) p) + ((a 5) p)) - (2 * y))))), (10, .long (((Int32.toInt64 ((((a 2) p) + ((a 4) p)) - (2 * x))) * (Int32.toInt64 ((((a 2) p) + ((a 4) p)) - (2 * x)))) + ((Int32.toInt64 ((((a 3) p) + ((a 5) p)) - (2 * y))) * (Int32.toInt64 ((((a 3) p) + ((a 5) p)) - (2 * y)))))), (9, .int ((((a 3) p) + ((a 5) p)) - (2 * y))), (8, .int ((((a 2) p) + ((a 4) p)) - (2 * x))), (7, .int (((a 3) p) + ((a 5) p))), (6, .int (((a 2) p) + ((a 4) p))), (5, .int (((a 5) p) - ((a 3) p))), (4, .int (((a 4) p) - ((a 2) p))), (0, .ref h), (1, .int x), (2, .int y), (3, .int (nI p))] dX9_isSeen_133 (by decide) rfl ?_
    refine i_iload B 7 dX9_isSeen_135 rfl ?_
    refine i_i2l B dX9_isSeen_137 ?_
    refine i_iload B 7 dX9_isSeen_138 rfl ?_
    refine i_i2l B dX9_isSeen_140 ?_
    refine i_lmul B dX9_isSeen_141 ?_
    refine i_iload B 6 dX9_isSeen_142 rfl ?_
    refine i_i2l B dX9_isSeen_144 ?_
    refine i_iload B 6 dX9_isSeen_145 rfl ?_
    refine i_i2l B dX9_isSeen_147 ?_
    refine i_lmul B dX9_isSeen_148 ?_
    refine i_ladd B dX9_isSeen_149 ?_
    refine i_lstore B [(14, .long (((Int32.toInt64 (((a 4) p) - ((a 2) p))) * (Int32.toInt64 (((a 4) p) - ((a 2) p)))) + ((Int32.toInt64 (((a 5) p) - ((a 3) p))) * (Int32.toInt64 (((a 5) p) - ((a 3) p)))))), (12, .long (Int32.toInt64 (crs (((a 4) p) - ((a 2) p)) (((a 5) p) - ((a 3) p)) ((((a 2) p) + ((a 4) p)) - (2 * x)) ((((a 3) p) + ((a 5) p)) - (2 * y))))), (10, .long (((Int32.toInt64 ((((a 2) p) + ((a 4) p)) - (2 * x))) * (Int32.toInt64 ((((a 2) p) + ((a 4) p)) - (2 * x)))) + ((Int32.toInt64 ((((a 3) p) + ((a 5) p)) - (2 * y))) * (Int32.toInt64 ((((a 3) p) + ((a 5) p)) - (2 * y)))))), (9, .int ((((a 3) p) + ((a 5) p)) - (2 * y))), (8, .int ((((a 2) p) + ((a 4) p)) - (2 * x))), (7, .int (((a 3) p) + ((a 5) p))), (6, .int (((a 2) p) + ((a 4) p))), (5, .int (((a 5) p) - ((a 3) p))), (4, .int (((a 4) p) - ((a 2) p))), (0, .ref h), (1, .int x), (2, .int y), (3, .int (nI p))] dX9_isSeen_150 (by decide) rfl ?_
    refine i_lload B 2 dX9_isSeen_152 rfl ?_
    refine i_ldc2 B ckX9_126 dX9_isSeen_154 ?_
    refine i_aload_n B 9 dX9_isSeen_157 rfl ?_
    refine i_get (v := .int (g 6)) B flX9_22 0 rfl rfl dX9_isSeen_158 ?_
    refine i_i2l B dX9_isSeen_161 ?_
    refine i_lmul B dX9_isSeen_162 ?_
    refine i_aload_n B 9 dX9_isSeen_163 rfl ?_
    refine i_get (v := .int (g 6)) B flX9_22 0 rfl rfl dX9_isSeen_164 ?_
    refine i_i2l B dX9_isSeen_167 ?_
    refine i_lmul B dX9_isSeen_168 ?_
    refine i_lc_gt B 197 dX9_isSeen_169 dX9_isSeen_170 (by decide) (fun h6 => ?_) (fun h6 => ?_)
    · refine i_iconst (v := 0) B dX9_isSeen_197 (by decide) ?_
      exact ret _ _ _ (by decide) dX9_isSeen_198 (by rw [sn, sn1]; simp only [sdx, sdy, smx, smy, swx, swy, sway, slong, sacr, h5, h6, decide_true, decide_false, Bool.not_true, Bool.not_false, Bool.true_and, Bool.false_and, Bool.and_true, Bool.and_false, Bool.true_or, Bool.or_true, Bool.false_or, Bool.or_false, bI_t, bI_f])
    · refine i_ldc2 B ckX9_128 dX9_isSeen_173 ?_
      refine i_lload B 1 dX9_isSeen_176 rfl ?_
      refine i_lmul B dX9_isSeen_178 ?_
      refine i_lload B 1 dX9_isSeen_179 rfl ?_
      refine i_lmul B dX9_isSeen_181 ?_
      refine i_aload_n B 9 dX9_isSeen_182 rfl ?_
      refine i_get (v := .int (g 7)) B flX9_26 0 rfl rfl dX9_isSeen_183 ?_
      refine i_i2l B dX9_isSeen_186 ?_
      refine i_lload B 0 dX9_isSeen_187 rfl ?_
      refine i_lmul B dX9_isSeen_189 ?_
      refine i_lload B 2 dX9_isSeen_190 rfl ?_
      refine i_lmul B dX9_isSeen_192 ?_
      refine i_lc_ge B 199 dX9_isSeen_193 dX9_isSeen_194 (by decide) (fun h7 => ?_) (fun h7 => ?_)
      · replace h7 := q_n64.mpr h7
        refine i_iconst (v := 1) B dX9_isSeen_199 (by decide) ?_
        refine i_istore B [(16, .int 1), (14, .long (((Int32.toInt64 (((a 4) p) - ((a 2) p))) * (Int32.toInt64 (((a 4) p) - ((a 2) p)))) + ((Int32.toInt64 (((a 5) p) - ((a 3) p))) * (Int32.toInt64 (((a 5) p) - ((a 3) p)))))), (12, .long (Int32.toInt64 (crs (((a 4) p) - ((a 2) p)) (((a 5) p) - ((a 3) p)) ((((a 2) p) + ((a 4) p)) - (2 * x)) ((((a 3) p) + ((a 5) p)) - (2 * y))))), (10, .long (((Int32.toInt64 ((((a 2) p) + ((a 4) p)) - (2 * x))) * (Int32.toInt64 ((((a 2) p) + ((a 4) p)) - (2 * x)))) + ((Int32.toInt64 ((((a 3) p) + ((a 5) p)) - (2 * y))) * (Int32.toInt64 ((((a 3) p) + ((a 5) p)) - (2 * y)))))), (9, .int ((((a 3) p) + ((a 5) p)) - (2 * y))), (8, .int ((((a 2) p) + ((a 4) p)) - (2 * x))), (7, .int (((a 3) p) + ((a 5) p))), (6, .int (((a 2) p) + ((a 4) p))), (5, .int (((a 5) p) - ((a 3) p))), (4, .int (((a 4) p) - ((a 2) p))), (0, .ref h), (1, .int x), (2, .int y), (3, .int (nI p))] dX9_isSeen_200 (by decide) rfl ?_
        refine i_iconst (v := 0) B dX9_isSeen_202 (by decide) ?_
        refine i_istore B [(17, .int 0), (16, .int 1), (14, .long (((Int32.toInt64 (((a 4) p) - ((a 2) p))) * (Int32.toInt64 (((a 4) p) - ((a 2) p)))) + ((Int32.toInt64 (((a 5) p) - ((a 3) p))) * (Int32.toInt64 (((a 5) p) - ((a 3) p)))))), (12, .long (Int32.toInt64 (crs (((a 4) p) - ((a 2) p)) (((a 5) p) - ((a 3) p)) ((((a 2) p) + ((a 4) p)) - (2 * x)) ((((a 3) p) + ((a 5) p)) - (2 * y))))), (10, .long (((Int32.toInt64 ((((a 2) p) + ((a 4) p)) - (2 * x))) * (Int32.toInt64 ((((a 2) p) + ((a 4) p)) - (2 * x)))) + ((Int32.toInt64 ((((a 3) p) + ((a 5) p)) - (2 * y))) * (Int32.toInt64 ((((a 3) p) + ((a 5) p)) - (2 * y)))))), (9, .int ((((a 3) p) + ((a 5) p)) - (2 * y))), (8, .int ((((a 2) p) + ((a 4) p)) - (2 * x))), (7, .int (((a 3) p) + ((a 5) p))), (6, .int (((a 2) p) + ((a 4) p))), (5, .int (((a 5) p) - ((a 3) p))), (4, .int (((a 4) p) - ((a 2) p))), (0, .ref h), (1, .int x), (2, .int y), (3, .int (nI p))] dX9_isSeen_203 (by decide) rfl ?_
        refine i_locals [1, 0, 11, 12, 13, 14, 8, 7] (L' := [(16, .int 1), (17, .int 0), (0, .ref h), (1, .int x), (2, .int y), (3, .int (nI p)), (6, .int (((a 2) p) + ((a 4) p))), (7, .int (((a 3) p) + ((a 5) p)))]) rfl ?_
        refine i_Leq (congrArg (fun z => ([(16, .int z), (17, .int 0), (0, .ref h), (1, .int x), (2, .int y), (3, .int (nI p)), (6, .int (((a 2) p) + ((a 4) p))), (7, .int (((a 3) p) + ((a 5) p)))] : List (Nat × Value))) (show (1 : Int32) = (bI (clr a x y p 0)) from rfl)) ?_
        refine i_Leq (congrArg (fun z => ([(16, .int (bI (clr a x y p 0))), (17, .int z), (0, .ref h), (1, .int x), (2, .int y), (3, .int (nI p)), (6, .int (((a 2) p) + ((a 4) p))), (7, .int (((a 3) p) + ((a 5) p)))] : List (Nat × Value))) (show (0 : Int32) = (nI 0) from rfl)) ?_
        exact lp (np + 1) 0 (by omega) (Nat.zero_le _) (by rw [sn1]; simp only [sdx, sdy, smx, smy, swx, swy, sway, slong, sacr, h5, h6, h7, decide_true, decide_false, Bool.not_true, Bool.not_false, Bool.true_and, Bool.false_and, Bool.and_true, Bool.and_false, Bool.true_or, Bool.or_true, Bool.false_or, Bool.or_false, bI_t, bI_f])
      · replace h7 := q_m64.mp h7
        refine i_iconst (v := 0) B dX9_isSeen_197 (by decide) ?_
        exact ret _ _ _ (by decide) dX9_isSeen_198 (by rw [sn, sn1]; simp only [sdx, sdy, smx, smy, swx, swy, sway, slong, sacr, h5, h6, h7, decide_true, decide_false, Bool.not_true, Bool.not_false, Bool.true_and, Bool.false_and, Bool.and_true, Bool.and_false, Bool.true_or, Bool.or_true, Bool.false_or, Bool.or_false, bI_t, bI_f])
  · refine i_iconst (v := 0) B dX9_isSeen_56 (by decide) ?_
    exact ret _ _ _ (by decide) dX9_isSeen_57 (by rw [sn, sn1]; simp only [sdx, sdy, smx, smy, swx, swy, sway, slong, sacr, h5, decide_true, decide_false, Bool.not_true, Bool.not_false, Bool.true_and, Bool.false_and, Bool.and_true, Bool.and_false, Bool.true_or, Bool.or_true, Bool.false_or, Bool.or_false, bI_t, bI_f])

set_option maxHeartbeats 4000000 in
set_option maxRecDepth 100000 in
theorem k_X9_noPanel (l : Launch) (E : ED) (h : Nat) (q : Nat → Nat) (g : Nat → Int32) (a : Nat → Nat → Int32) (x : Int32) : RO l E yX9_noPanel cX9_noPanel 2 .boolean 1 25 [.ref h, .int x] (mW E h q g a) (fun r => r = bI (!wit x 0 (g 1 - 1))) := by
  refine RO.mk (by decide) (Nat.le_of_ble_eq_true rfl) [(0, .ref h), (1, .int x)] rfl (fun Z B ret => ?_)
  refine i_iload_n B 1 dX9_noPanel_0 rfl ?_
  refine i_i2l B dX9_noPanel_1 ?_
  refine i_lconst (v := 0) B dX9_noPanel_2 (by decide) ?_
  refine i_aload_n B 0 dX9_noPanel_3 rfl ?_
  refine i_get (v := .int (g 1)) B flX9_108 0 rfl rfl dX9_noPanel_4 ?_
  refine i_iconst (v := 1) B dX9_noPanel_7 (by decide) ?_
  refine i_isub B dX9_noPanel_8 ?_
  refine i_i2l B dX9_noPanel_9 ?_
  refine c_roS (rest := []) (As := [.long (Int32.toInt64 x), .long 0, .long (Int32.toInt64 ((g 1) - 1))]) B (k_X9_in l E (Int32.toInt64 x) 0 (Int32.toInt64 ((g 1) - 1))) cal_yX9_in is_yX9_in mlX9_104 (by decide) (by decide) rfl (Nat.le_of_ble_eq_true rfl) Has.nil _ rfl dX9_noPanel_10 (fun r hr => ?_)
  subst hr
  refine i_val (v' := .int (bI (wit x 0 ((g 1) - 1)))) (congrArg (fun z => Value.int (bI z)) (pin_i x 0 ((g 1) - 1))) ?_
  refine i_if_ne B 20 dX9_noPanel_13 (by decide) (fun h1 => ?_) (fun h1 => ?_)
  · replace h1 := bI_n.mp h1
    refine i_iconst (v := 0) B dX9_noPanel_20 (by decide) ?_
    exact ret _ _ _ (by decide) dX9_noPanel_21 (by simp only [h1, decide_true, decide_false, Bool.not_true, Bool.not_false, Bool.true_and, Bool.false_and, Bool.and_true, Bool.and_false, Bool.true_or, Bool.or_true, Bool.false_or, Bool.or_false, Bool.and_self, Bool.or_self, bI_t, bI_f, if_true, if_false, ite_true, ite_false, Bool.false_eq_true, Bool.true_eq_false, eq_self, reduceIte, true_or, or_true, false_or, or_false, and_true, true_and, and_false, false_and, not_true_eq_false, not_false_eq_true, decide_eq_true_eq, decide_eq_false_iff_not])
  · replace h1 := bI_0.mp h1
    refine i_iconst (v := 1) B dX9_noPanel_16 (by decide) ?_
    refine i_goto B 21 dX9_noPanel_17 (by decide) ?_
    exact ret _ _ _ (by decide) dX9_noPanel_21 (by simp only [h1, decide_true, decide_false, Bool.not_true, Bool.not_false, Bool.true_and, Bool.false_and, Bool.and_true, Bool.and_false, Bool.true_or, Bool.or_true, Bool.false_or, Bool.or_false, Bool.and_self, Bool.or_self, bI_t, bI_f, if_true, if_false, ite_true, ite_false, Bool.false_eq_true, Bool.true_eq_false, eq_self, reduceIte, true_or, or_true, false_or, or_false, and_true, true_and, and_false, false_and, not_true_eq_false, not_false_eq_true, decide_eq_true_eq, decide_eq_false_iff_not])

def nset (v x : Int32) : Bool := decide (x < 0) || !decide (x >>> (v &&& 31) = 0)

set_option maxHeartbeats 4000000 in
set_option maxRecDepth 100000 in
theorem k_X9_noSet (l : Launch) (E : ED) (h : Nat) (q : Nat → Nat) (g : Nat → Int32) (a : Nat → Nat → Int32) (x : Int32) : RO l E yX9_noSet cX9_noSet 2 .boolean 0 0 [.ref h, .int x] (mW E h q g a) (fun r => r = bI (nset (g 8) x)) := by
  refine RO.mk (by decide) (Nat.le_of_ble_eq_true rfl) [(0, .ref h), (1, .int x)] rfl (fun Z B ret => ?_)
  refine i_iload_n B 1 dX9_noSet_0 rfl ?_
  refine i_if_lt B 13 dX9_noSet_1 (by decide) (fun h1 => ?_) (fun h1 => ?_)
  · refine i_iconst (v := 1) B dX9_noSet_13 (by decide) ?_
    refine i_goto B 18 dX9_noSet_14 (by decide) ?_
    exact ret _ _ _ (by decide) dX9_noSet_18 (by simp only [nset, h1, decide_true, decide_false, Bool.not_true, Bool.not_false, Bool.true_and, Bool.false_and, Bool.and_true, Bool.and_false, Bool.true_or, Bool.or_true, Bool.false_or, Bool.or_false, Bool.and_self, Bool.or_self, bI_t, bI_f, if_true, if_false, ite_true, ite_false, Bool.false_eq_true, Bool.true_eq_false, eq_self, reduceIte, true_or, or_true, false_or, or_false, and_true, true_and, and_false, false_and, not_true_eq_false, not_false_eq_true, decide_eq_true_eq, decide_eq_false_iff_not])
  · refine i_iload_n B 1 dX9_noSet_4 rfl ?_
    refine i_aload_n B 0 dX9_noSet_5 rfl ?_
    refine i_get (v := .int (g 8)) B flX9_111 0 rfl rfl dX9_noSet_6 ?_
    refine i_ishr B dX9_noSet_9 ?_
    refine i_if_eq B 17 dX9_noSet_10 (by decide) (fun h2 => ?_) (fun h2 => ?_)
    · have h2d := decide_eq_true h2
      refine i_iconst (v := 0) B dX9_noSet_17 (by decide) ?_
      exact ret _ _ _ (by decide) dX9_noSet_18 (by simp only [nset, h1, h2d, decide_true, decide_false, Bool.not_true, Bool.not_false, Bool.true_and, Bool.false_and, Bool.and_true, Bool.and_false, Bool.true_or, Bool.or_true, Bool.false_or, Bool.or_false, Bool.and_self, Bool.or_self, bI_t, bI_f, if_true, if_false, ite_true, ite_false, Bool.false_eq_true, Bool.true_eq_false, eq_self, reduceIte, true_or, or_true, false_or, or_false, and_true, true_and, and_false, false_and, not_true_eq_false, not_false_eq_true, decide_eq_true_eq, decide_eq_false_iff_not])
    · have h2d := decide_eq_false h2
      refine i_iconst (v := 1) B dX9_noSet_13 (by decide) ?_
      refine i_goto B 18 dX9_noSet_14 (by decide) ?_
      exact ret _ _ _ (by decide) dX9_noSet_18 (by simp only [nset, h1, h2d, decide_true, decide_false, Bool.not_true, Bool.not_false, Bool.true_and, Bool.false_and, Bool.and_true, Bool.and_false, Bool.true_or, Bool.or_true, Bool.false_or, Bool.or_false, Bool.and_self, Bool.or_self, bI_t, bI_f, if_true, if_false, ite_true, ite_false, Bool.false_eq_true, Bool.true_eq_false, eq_self, reduceIte, true_or, or_true, false_or, or_false, and_true, true_and, and_false, false_and, not_true_eq_false, not_false_eq_true, decide_eq_true_eq, decide_eq_false_iff_not])

/-- the PANELS below k that are SEEN from VIEW v, as bits -/
def seb (g : Nat → Int32) (a : Nat → Nat → Int32) (np v : Nat) : Nat → Int32
  | 0 => 0
  | k + 1 => seb g a np v k ||| (if sn g a np (a 9 v) (a 10 v) k = true then 1 <<< (nI k &&& 31) else 0)

set_option maxHeartbeats 4000000 in
set_option maxRecDepth 100000 in
theorem k_X9_seesOf (l : Launch) (E : ED) (h : Nat) (q : Nat → Nat) (g : Nat → Int32) (a : Nat → Nat → Int32) (np v : Nat) (hn : g 1 = nI np) (hnp : np ≤ 12) (hv : v < 11) : RO l E yX9_seesOf cX9_seesOf 4 .int 4 120 [.ref h, .int (nI v)] (mW E h q g a) (fun r => r = seb g a np v np) := by
  refine RO.mk (by decide) (Nat.le_of_ble_eq_true rfl) [(0, .ref h), (1, .int (nI v))] rfl (fun Z B ret => ?_)
  have lp : ∀ (n_lp : Nat) (i : Nat), (np - i < n_lp) → (i ≤ np) → J Z 0 0 (mW E h q g a) 4 [(3, .int (nI i)), (2, .int (seb g a np v i)), (0, .ref h), (1, .int (nI v))] [] := by
    intro n_lp
    induction n_lp with
    | zero => intro i hf_lp hi; omega
    | succ n_lp ih_lp =>
      intro i hf_lp hi
      refine i_iload_n B 0 dX9_seesOf_4 rfl ?_
      refine i_aload_n B 2 dX9_seesOf_5 rfl ?_
      refine i_get (v := .int (g 1)) B flX9_108 0 rfl rfl dX9_seesOf_6 ?_
      refine i_icmp_ge B 48 dX9_seesOf_9 (by decide) (fun h1 => ?_) (fun h1 => ?_)
      · replace h1 := q_n32.mpr h1
        rw [hn, nI_ltI (by omega) (by omega)] at h1
        refine i_iload_n B 1 dX9_seesOf_48 rfl ?_
        exact ret _ _ _ rfl dX9_seesOf_49 (by rw [show np = i by omega])
      · replace h1 := q_m32.mp h1
        rw [hn, nI_ltI (by omega) (by omega)] at h1
        refine i_iload_n B 1 dX9_seesOf_12 rfl ?_
        refine i_aload_n B 2 dX9_seesOf_13 rfl ?_
        refine i_aload_n B 2 dX9_seesOf_14 rfl ?_
        refine i_get (v := .ref (q 9)) B flX9_29 0 rfl rfl dX9_seesOf_15 ?_
        refine i_iload_n B 3 dX9_seesOf_18 rfl ?_
        refine i_ialdN B 5 v rfl rfl (by omega) (by decide) dX9_seesOf_19 ?_
        refine i_aload_n B 2 dX9_seesOf_20 rfl ?_
        refine i_get (v := .ref (q 10)) B flX9_32 0 rfl rfl dX9_seesOf_21 ?_
        refine i_iload_n B 3 dX9_seesOf_24 rfl ?_
        refine i_ialdN B 6 v rfl rfl (by omega) (by decide) dX9_seesOf_25 ?_
        refine i_iload_n B 0 dX9_seesOf_26 rfl ?_
        refine c_roV (rest := [.int (seb g a np v i)]) (As := [.int ((a 9) v), .int ((a 10) v), .int (nI i)]) B (k_X9_isSeen l E h q g a np i hn hnp (by omega) ((a 9) v) ((a 10) v)) cal_yX9_isSeen iv_yX9_isSeen mlX9_144 rfl 0 rfl (by decide) (by decide) rfl (Nat.le_of_ble_eq_true rfl) Has.rf _ rfl dX9_seesOf_27 (fun r hr => ?_)
        subst hr
        refine i_if_eq B 39 dX9_seesOf_30 (by decide) (fun h2 => ?_) (fun h2 => ?_)
        · replace h2 := bI_0.mp h2
          refine i_iconst (v := 0) B dX9_seesOf_39 (by decide) ?_
          refine i_ior B dX9_seesOf_40 ?_
          refine i_istore_n B [(2, .int ((seb g a np v i) ||| 0)), (3, .int (nI i)), (0, .ref h), (1, .int (nI v))] dX9_seesOf_41 (by decide) rfl ?_
          refine i_iinc (v := (nI (i + 1))) B 1 [(3, .int (nI (i + 1))), (2, .int ((seb g a np v i) ||| 0)), (0, .ref h), (1, .int (nI v))] dX9_seesOf_42 rfl ((nI_1 _)) (by decide) rfl ?_
          refine i_goto B 4 dX9_seesOf_45 (by decide) ?_
          refine i_Leq (congrArg (fun z => ([(3, .int (nI (i + 1))), (2, .int z), (0, .ref h), (1, .int (nI v))] : List (Nat × Value))) (show (((seb g a np v i) ||| 0) : Int32) = (seb g a np v (i + 1)) from by rw [seb]; simp only [h1, h2, if_true, if_false, Bool.false_eq_true])) ?_
          exact ih_lp (i + 1) (by omega) (by omega)
        · replace h2 := bI_n.mp h2
          refine i_iconst (v := 1) B dX9_seesOf_33 (by decide) ?_
          refine i_iload_n B 0 dX9_seesOf_34 rfl ?_
          refine i_ishl B dX9_seesOf_35 ?_
          refine i_goto B 40 dX9_seesOf_36 (by decide) ?_
          refine i_ior B dX9_seesOf_40 ?_
          refine i_istore_n B [(2, .int ((seb g a np v i) ||| (1 <<< ((nI i) &&& 31)))), (3, .int (nI i)), (0, .ref h), (1, .int (nI v))] dX9_seesOf_41 (by decide) rfl ?_
          refine i_iinc (v := (nI (i + 1))) B 1 [(3, .int (nI (i + 1))), (2, .int ((seb g a np v i) ||| (1 <<< ((nI i) &&& 31)))), (0, .ref h), (1, .int (nI v))] dX9_seesOf_42 rfl ((nI_1 _)) (by decide) rfl ?_
          refine i_goto B 4 dX9_seesOf_45 (by decide) ?_
          refine i_Leq (congrArg (fun z => ([(3, .int (nI (i + 1))), (2, .int z), (0, .ref h), (1, .int (nI v))] : List (Nat × Value))) (show (((seb g a np v i) ||| (1 <<< ((nI i) &&& 31))) : Int32) = (seb g a np v (i + 1)) from by rw [seb]; simp only [h1, h2, if_true, if_false, Bool.false_eq_true])) ?_
          exact ih_lp (i + 1) (by omega) (by omega)
  refine i_iconst (v := 0) B dX9_seesOf_0 (by decide) ?_
  refine i_istore_n B [(2, .int 0), (0, .ref h), (1, .int (nI v))] dX9_seesOf_1 (by decide) rfl ?_
  refine i_iconst (v := 0) B dX9_seesOf_2 (by decide) ?_
  refine i_istore_n B [(3, .int 0), (2, .int 0), (0, .ref h), (1, .int (nI v))] dX9_seesOf_3 (by decide) rfl ?_
  refine i_Leq (congrArg (fun z => ([(3, .int z), (2, .int 0), (0, .ref h), (1, .int (nI v))] : List (Nat × Value))) (show (0 : Int32) = (nI 0) from rfl)) ?_
  refine i_Leq (congrArg (fun z => ([(3, .int (nI 0)), (2, .int z), (0, .ref h), (1, .int (nI v))] : List (Nat × Value))) (show (0 : Int32) = (seb g a np v 0) from rfl)) ?_
  exact lp (np + 1) 0 (by omega) (Nat.zero_le _)
end
section
theorem shl1 : ∀ n, n ≤ 10 → (1 : Int32) <<< (nI n &&& 31) = nI (2 ^ n) := by decide
theorem pow_le : ∀ n, n ≤ 10 → 2 ^ n ≤ 1024 := by decide
/-- a number within 0 .. n - 1 -/
theorem wit_ix {x : Int32} {n : Nat} (hn : n ≤ 100) (h : wit x 0 (nI n - 1) = true) : ∃ j : Nat, j < n ∧ x = nI j := by
  unfold wit at h
  simp only [Bool.and_eq_true, Bool.not_eq_true', decide_eq_false_iff_not] at h
  obtain ⟨h1, h2⟩ := h
  obtain ⟨j, hj, rfl⟩ := nI_of h1
  refine ⟨j, ?_, rfl⟩
  rw [Int32.lt_iff_toInt_lt, nI_toInt hj] at h2
  have e : (nI n - 1).toInt = (n : Int) - 1 := by
    have := pk_sub_toInt (a := n) (b := 1) (by omega) (by omega)
    exact this
  rw [e] at h2
  omega
theorem ix_wit {j n : Nat} (hn : n ≤ 100) (h : j < n) : wit (nI j) 0 (nI n - 1) = true := by
  unfold wit
  have e : (nI n - 1).toInt = (n : Int) - 1 := pk_sub_toInt (a := n) (b := 1) (by omega) (by omega)
  have h1 : ¬ nI j < 0 := nI_pos (by omega)
  have h2 : ¬ nI n - 1 < nI j := by
    rw [Int32.lt_iff_toInt_lt, nI_toInt (by omega), e]
    omega
  simp only [h1, h2, decide_false, Bool.not_false, Bool.and_self]
def ix (x : Int32) : Nat := x.toNatClampNeg
theorem ix_nI {j : Nat} (h : j < 2 ^ 31) : ix (nI j) = j := nI_clamp h
theorem clr_cg {a b : Nat → Nat → Int32} (h2 : b 2 = a 2) (h3 : b 3 = a 3) (h4 : b 4 = a 4) (h5 : b 5 = a 5) (x y : Int32) (p k : Nat) : clr b x y p k = clr a x y p k := by
  induction k with
  | zero => rfl
  | succ k ih => simp only [clr, ih, sno, smx, smy, h2, h3, h4, h5]
theorem sn_cg {g : Nat → Int32} {a b : Nat → Nat → Int32} (h2 : b 2 = a 2) (h3 : b 3 = a 3) (h4 : b 4 = a 4) (h5 : b 5 = a 5) (np : Nat) (x y : Int32) (p : Nat) : sn g b np x y p = sn g a np x y p := by
  have e1 : sdx b p = sdx a p := by rw [sdx, sdx, h4, h2]
  have e2 : sdy b p = sdy a p := by rw [sdy, sdy, h5, h3]
  have e3 : swx b x p = swx a x p := by rw [swx, swx, smx, smx, h4, h2]
  have e4 : swy b y p = swy a y p := by rw [swy, swy, smy, smy, h5, h3]
  have e5 : sway b x y p = sway a x y p := by rw [sway, sway, e3, e4]
  have e6 : slong b p = slong a p := by rw [slong, slong, e1, e2]
  have e7 : sacr b x y p = sacr a x y p := by rw [sacr, sacr, e1, e2, e3, e4]
  rw [sn, sn, clr_cg h2 h3 h4 h5, sn1, sn1, e1, e2, e5, e6, e7, h2, h3]
theorem seb_cg {g : Nat → Int32} {a b : Nat → Nat → Int32} (h2 : b 2 = a 2) (h3 : b 3 = a 3) (h4 : b 4 = a 4) (h5 : b 5 = a 5) (h9 : b 9 = a 9) (h10 : b 10 = a 10) (np v k : Nat) : seb g b np v k = seb g a np v k := by
  induction k with
  | zero => rfl
  | succ k ih => simp only [seb, ih, sn_cg h2 h3 h4 h5, h9, h10]
theorem seb_34 (g : Nat → Int32) (a : Nat → Nat → Int32) (f : Nat → Int32) (np v k : Nat) : seb g (va_up a 34 f) np v k = seb g a np v k := seb_cg (b := va_up a 34 f) (a := a) rfl rfl rfl rfl rfl rfl np v k
/-- the row 'one' behind a look -/
def lkf (g : Nat → Int32) (a : Nat → Nat → Int32) (np : Nat) : Nat → Nat → Int32
  | 0 => a 34
  | k + 1 => upd (lkf g a np k) k (seb g a np k np)
def bits10 (x : Int32) : Nat → Int32
  | 0 => 0
  | k + 1 => bits10 x k + (x >>> (nI k &&& 31) &&& 1)
def tmn (s : Int32) (one : Nat → Int32) (p : Nat) : Nat → Int32
  | 0 => 0
  | k + 1 => tmn s one p k + (if s >>> (nI k &&& 31) &&& 1 = 1 then one k >>> (nI p &&& 31) &&& 1 else 0)
def tms (s : Int32) (one : Nat → Int32) (nv : Nat) : Nat → Int32
  | 0 => 1000000
  | k + 1 => if tmn s one k nv < tms s one nv k then tmn s one k nv else tms s one nv k
def cvr (one : Nat → Int32) (nv np : Nat) (k : Int32) : Nat → Int32
  | 0 => -9
  | s + 1 => if (cvr one nv np k s = -9 ∨ bits10 (nI s) 10 < bits10 (cvr one nv np k s) 10) ∧ ¬ tms (nI s) one nv np < k then nI s else cvr one nv np k s


set_option maxHeartbeats 4000000 in
set_option maxRecDepth 100000 in
theorem k_X9_look (l : Launch) (E : ED) (h : Nat) (q : Nat → Nat) (g : Nat → Int32) (a : Nat → Nat → Int32) (np : Nat) (hn : g 1 = nI np) (hnp : np ≤ 12) (nv : Nat) (hv : g 8 = nI nv) (hnv : nv ≤ 10) : WV l E yX9_look cX9_look 2 5 143 0 0 [.ref h] (mW E h q g a) (fun _ : Unit => True) (fun _ => mW E h q g (va_up a 34 (lkf g a np nv))) := by
  refine WV.mk (by decide) (Nat.le_of_ble_eq_true rfl) [(0, .ref h)] rfl (fun Z B hI ret => ?_)
  have lp : ∀ (n_lp : Nat) (i : Nat), (nv - i < n_lp) → (i ≤ nv) → J Z 0 0 (mW E h q g (va_up a 34 (lkf g a np i))) 2 [(1, .int (nI i)), (0, .ref h)] [] := by
    intro n_lp
    induction n_lp with
    | zero => intro i hf_lp hi; omega
    | succ n_lp ih_lp =>
      intro i hf_lp hi
      refine i_iload_n B 0 dX9_look_2 rfl ?_
      refine i_aload_n B 1 dX9_look_3 rfl ?_
      refine i_get (v := .int (g 8)) B flX9_111 0 rfl rfl dX9_look_4 ?_
      refine i_icmp_ge B 27 dX9_look_7 (by decide) (fun h1 => ?_) (fun h1 => ?_)
      · replace h1 := q_n32.mpr h1
        rw [hv, nI_ltI (by omega) (by omega)] at h1
        refine i_world (ws' := mW E h q g (va_up a 34 (lkf g a np nv))) (by rw [show nv = i by omega]) ?_
        exact ret _ _ () dX9_look_27 (trivial)
      · replace h1 := q_m32.mp h1
        rw [hv, nI_ltI (by omega) (by omega)] at h1
        refine i_aload_n B 1 dX9_look_10 rfl ?_
        refine i_get (v := .ref (q 34)) B flX9_87 0 rfl rfl dX9_look_11 ?_
        refine i_iload_n B 0 dX9_look_14 rfl ?_
        refine i_aload_n B 1 dX9_look_15 rfl ?_
        refine i_iload_n B 0 dX9_look_16 rfl ?_
        refine c_roV (rest := [.int (nI i), .ref (q 34)]) (As := [.int (nI i)]) B (k_X9_seesOf l E h q g (va_up a 34 (lkf g a np i)) np i hn hnp (by omega)) cal_yX9_seesOf iv_yX9_seesOf mlX9_148 rfl 0 rfl (by decide) (by decide) rfl (Nat.le_of_ble_eq_true rfl) Has.rf _ rfl dX9_look_17 (fun r hr => ?_)
        subst hr
        refine i_iastN B 23 i (mW E h q g (va_up a 34 (upd (lkf g a np i) i (seb g (va_up a 34 (lkf g a np i)) np i np)))) rfl rfl (by omega) (by decide) rfl dX9_look_20 ?_
        refine i_iinc (v := (nI (i + 1))) B 0 [(1, .int (nI (i + 1))), (0, .ref h)] dX9_look_21 rfl ((nI_1 _)) (by decide) rfl ?_
        refine i_goto B 2 dX9_look_24 (by decide) ?_
        refine i_world (ws' := (mW E h q g (va_up a 34 (lkf g a np (i + 1))))) (by rw [lkf, seb_34]) ?_
        exact ih_lp (i + 1) (by omega) (by omega)
  refine i_iconst (v := 0) B dX9_look_0 (by decide) ?_
  refine i_istore_n B [(1, .int 0), (0, .ref h)] dX9_look_1 (by decide) rfl ?_
  refine i_Leq (congrArg (fun z => ([(1, .int z), (0, .ref h)] : List (Nat × Value))) (show (0 : Int32) = (nI 0) from rfl)) ?_
  refine i_world (ws' := (mW E h q g (va_up a 34 (lkf g a np 0)))) (by rw [lkf]; rfl) ?_
  exact lp (nv + 1) 0 (by omega) (Nat.zero_le _)

set_option maxHeartbeats 4000000 in
set_option maxRecDepth 100000 in
theorem k_X9_bits (l : Launch) (E : ED) (x : Int32) : RO l E yX9_bits cX9_bits 3 .int 0 0 [.int x] [] (fun r => r = bits10 x 10) := by
  refine RO.mk (by decide) (Nat.le_of_ble_eq_true rfl) [(0, .int x)] rfl (fun Z B ret => ?_)
  have lp : ∀ (n_lp : Nat) (i : Nat), (10 - i < n_lp) → (i ≤ 10) → J Z 0 0 [] 4 [(2, .int (nI i)), (1, .int (bits10 x i)), (0, .int x)] [] := by
    intro n_lp
    induction n_lp with
    | zero => intro i hf_lp hi; omega
    | succ n_lp ih_lp =>
      intro i hf_lp hi
      refine i_iload_n B 0 dX9_bits_4 rfl ?_
      refine i_bipush (v := 10) B dX9_bits_5 (by decide) ?_
      refine i_icmp_ge B 24 dX9_bits_7 (by decide) (fun h1 => ?_) (fun h1 => ?_)
      · replace h1 := q_n32.mpr h1
        rw [show (10 : Int32) = nI 10 from rfl, nI_ltI (by omega) (by omega)] at h1
        refine i_iload_n B 1 dX9_bits_24 rfl ?_
        exact ret _ _ _ rfl dX9_bits_25 (by rw [show i = 10 by omega])
      · replace h1 := q_m32.mp h1
        rw [show (10 : Int32) = nI 10 from rfl, nI_ltI (by omega) (by omega)] at h1
        refine i_iload_n B 1 dX9_bits_10 rfl ?_
        refine i_iload_n B 2 dX9_bits_11 rfl ?_
        refine i_iload_n B 0 dX9_bits_12 rfl ?_
        refine i_ishr B dX9_bits_13 ?_
        refine i_iconst (v := 1) B dX9_bits_14 (by decide) ?_
        refine i_iand B dX9_bits_15 ?_
        refine i_iadd B dX9_bits_16 ?_
        refine i_istore_n B [(1, .int ((bits10 x i) + ((x >>> ((nI i) &&& 31)) &&& 1))), (2, .int (nI i)), (0, .int x)] dX9_bits_17 (by decide) rfl ?_
        refine i_iinc (v := (nI (i + 1))) B 1 [(2, .int (nI (i + 1))), (1, .int ((bits10 x i) + ((x >>> ((nI i) &&& 31)) &&& 1))), (0, .int x)] dX9_bits_18 rfl ((nI_1 _)) (by decide) rfl ?_
        refine i_goto B 4 dX9_bits_21 (by decide) ?_
        refine i_Leq (congrArg (fun z => ([(2, .int (nI (i + 1))), (1, .int z), (0, .int x)] : List (Nat × Value))) (show (((bits10 x i) + ((x >>> ((nI i) &&& 31)) &&& 1)) : Int32) = (bits10 x (i + 1)) from rfl)) ?_
        exact ih_lp (i + 1) (by omega) (by omega)
  refine i_iconst (v := 0) B dX9_bits_0 (by decide) ?_
  refine i_istore_n B [(1, .int 0), (0, .int x)] dX9_bits_1 (by decide) rfl ?_
  refine i_iconst (v := 0) B dX9_bits_2 (by decide) ?_
  refine i_istore_n B [(2, .int 0), (1, .int 0), (0, .int x)] dX9_bits_3 (by decide) rfl ?_
  refine i_Leq (congrArg (fun z => ([(2, .int z), (1, .int 0), (0, .int x)] : List (Nat × Value))) (show (0 : Int32) = (nI 0) from rfl)) ?_
  refine i_Leq (congrArg (fun z => ([(2, .int (nI 0)), (1, .int z), (0, .int x)] : List (Nat × Value))) (show (0 : Int32) = (bits10 x 0) from rfl)) ?_
  exact lp (11) 0 (by omega) (by omega)

set_option maxHeartbeats 4000000 in
set_option maxRecDepth 100000 in
theorem k_X9_timesOf (l : Launch) (E : ED) (h : Nat) (q : Nat → Nat) (g : Nat → Int32) (a : Nat → Nat → Int32) (np : Nat) (hn : g 1 = nI np) (hnp : np ≤ 12) (nv : Nat) (hv : g 8 = nI nv) (hnv : nv ≤ 10) (x : Int32) : RO l E yX9_timesOf cX9_timesOf 6 .int 0 0 [.ref h, .int x] (mW E h q g a) (fun r => r = tms x (a 34) nv np) := by
  refine RO.mk (by decide) (Nat.le_of_ble_eq_true rfl) [(0, .ref h), (1, .int x)] rfl (fun Z B ret => ?_)
  have lp : ∀ (n_lp : Nat) (i : Nat), (np - i < n_lp) → (i ≤ np) → J Z 0 0 (mW E h q g a) 5 [(3, .int (nI i)), (2, .int (tms x (a 34) nv i)), (0, .ref h), (1, .int x)] [] := by
    intro n_lp
    induction n_lp with
    | zero => intro i hf_lp hi; omega
    | succ n_lp ih_lp =>
      intro i hf_lp hi
      refine i_iload_n B 0 dX9_timesOf_5 rfl ?_
      refine i_aload_n B 2 dX9_timesOf_6 rfl ?_
      refine i_get (v := .int (g 1)) B flX9_108 0 rfl rfl dX9_timesOf_7 ?_
      refine i_icmp_ge B 83 dX9_timesOf_10 (by decide) (fun h1 => ?_) (fun h1 => ?_)
      · replace h1 := q_n32.mpr h1
        rw [hn, nI_ltI (by omega) (by omega)] at h1
        refine i_iload_n B 1 dX9_timesOf_83 rfl ?_
        exact ret _ _ _ rfl dX9_timesOf_84 (by rw [show np = i by omega])
      · replace h1 := q_m32.mp h1
        rw [hn, nI_ltI (by omega) (by omega)] at h1
        refine i_iconst (v := 0) B dX9_timesOf_13 (by decide) ?_
        refine i_istore B [(4, .int 0), (3, .int (nI i)), (2, .int (tms x (a 34) nv i)), (0, .ref h), (1, .int x)] dX9_timesOf_14 (by decide) rfl ?_
        refine i_iconst (v := 0) B dX9_timesOf_16 (by decide) ?_
        refine i_istore B [(5, .int 0), (4, .int 0), (3, .int (nI i)), (2, .int (tms x (a 34) nv i)), (0, .ref h), (1, .int x)] dX9_timesOf_17 (by decide) rfl ?_
        have lpi : ∀ (n_lpi : Nat) (j : Nat), (nv - j < n_lpi) → (j ≤ nv) → J Z 0 0 (mW E h q g a) 19 [(5, .int (nI j)), (4, .int (tmn x (a 34) i j)), (3, .int (nI i)), (2, .int (tms x (a 34) nv i)), (0, .ref h), (1, .int x)] [] := by
          intro n_lpi
          induction n_lpi with
          | zero => intro j hf_lpi hj; omega
          | succ n_lpi ih_lpi =>
            intro j hf_lpi hj
            refine i_iload B 0 dX9_timesOf_19 rfl ?_
            refine i_aload_n B 4 dX9_timesOf_21 rfl ?_
            refine i_get (v := .int (g 8)) B flX9_111 0 rfl rfl dX9_timesOf_22 ?_
            refine i_icmp_ge B 64 dX9_timesOf_25 (by decide) (fun h2 => ?_) (fun h2 => ?_)
            · replace h2 := q_n32.mpr h2
              rw [hv, nI_ltI (by omega) (by omega)] at h2
              refine i_iload B 1 dX9_timesOf_64 rfl ?_
              refine i_iload_n B 3 dX9_timesOf_66 rfl ?_
              refine i_icmp_ge B 75 dX9_timesOf_67 (by decide) (fun h3 => ?_) (fun h3 => ?_)
              · replace h3 := q_n32.mpr h3
                have ej : j = nv := by omega
                refine i_iload_n B 3 dX9_timesOf_75 rfl ?_
                refine i_istore_n B [(2, .int (tms x (a 34) nv i)), (5, .int (nI j)), (4, .int (tmn x (a 34) i j)), (3, .int (nI i)), (0, .ref h), (1, .int x)] dX9_timesOf_76 (by decide) rfl ?_
                refine i_iinc (v := (nI (i + 1))) B 3 [(3, .int (nI (i + 1))), (2, .int (tms x (a 34) nv i)), (5, .int (nI j)), (4, .int (tmn x (a 34) i j)), (0, .ref h), (1, .int x)] dX9_timesOf_77 rfl ((nI_1 _)) (by decide) rfl ?_
                refine i_goto B 5 dX9_timesOf_80 (by decide) ?_
                refine i_locals [0, 1, 4, 5] (L' := [(3, .int (nI (i + 1))), (2, .int (tms x (a 34) nv i)), (0, .ref h), (1, .int x)]) rfl ?_
                refine i_Leq (congrArg (fun z => ([(3, .int (nI (i + 1))), (2, .int z), (0, .ref h), (1, .int x)] : List (Nat × Value))) (show ((tms x (a 34) nv i) : Int32) = (tms x (a 34) nv (i + 1)) from by rw [tms]; simp only [show nv = j by omega] at *; simp only [h3, if_true, if_false])) ?_
                exact ih_lp (i + 1) (by omega) (by omega)
              · replace h3 := q_m32.mp h3
                have ej : j = nv := by omega
                refine i_iload B 1 dX9_timesOf_70 rfl ?_
                refine i_goto B 76 dX9_timesOf_72 (by decide) ?_
                refine i_istore_n B [(2, .int (tmn x (a 34) i j)), (5, .int (nI j)), (4, .int (tmn x (a 34) i j)), (3, .int (nI i)), (0, .ref h), (1, .int x)] dX9_timesOf_76 (by decide) rfl ?_
                refine i_iinc (v := (nI (i + 1))) B 3 [(3, .int (nI (i + 1))), (2, .int (tmn x (a 34) i j)), (5, .int (nI j)), (4, .int (tmn x (a 34) i j)), (0, .ref h), (1, .int x)] dX9_timesOf_77 rfl ((nI_1 _)) (by decide) rfl ?_
                refine i_goto B 5 dX9_timesOf_80 (by decide) ?_
                refine i_locals [0, 1, 4, 5] (L' := [(3, .int (nI (i + 1))), (2, .int (tmn x (a 34) i j)), (0, .ref h), (1, .int x)]) rfl ?_
                refine i_Leq (congrArg (fun z => ([(3, .int (nI (i + 1))), (2, .int z), (0, .ref h), (1, .int x)] : List (Nat × Value))) (show ((tmn x (a 34) i j) : Int32) = (tms x (a 34) nv (i + 1)) from by rw [tms]; simp only [show nv = j by omega] at *; simp only [h3, if_true, if_false])) ?_
                exact ih_lp (i + 1) (by omega) (by omega)
            · replace h2 := q_m32.mp h2
              rw [hv, nI_ltI (by omega) (by omega)] at h2
              refine i_iload B 1 dX9_timesOf_28 rfl ?_
              refine i_iload_n B 5 dX9_timesOf_30 rfl ?_
              refine i_iload B 0 dX9_timesOf_31 rfl ?_
              refine i_ishr B dX9_timesOf_33 ?_
              refine i_iconst (v := 1) B dX9_timesOf_34 (by decide) ?_
              refine i_iand B dX9_timesOf_35 ?_
              refine i_iconst (v := 1) B dX9_timesOf_36 (by decide) ?_
              refine i_icmp_ne B 54 dX9_timesOf_37 (by decide) (fun h4 => ?_) (fun h4 => ?_)
              · have h4d := decide_eq_false h4
                refine i_iconst (v := 0) B dX9_timesOf_54 (by decide) ?_
                refine i_iadd B dX9_timesOf_55 ?_
                refine i_istore B [(4, .int ((tmn x (a 34) i j) + 0)), (5, .int (nI j)), (3, .int (nI i)), (2, .int (tms x (a 34) nv i)), (0, .ref h), (1, .int x)] dX9_timesOf_56 (by decide) rfl ?_
                refine i_iinc (v := (nI (j + 1))) B 1 [(5, .int (nI (j + 1))), (4, .int ((tmn x (a 34) i j) + 0)), (3, .int (nI i)), (2, .int (tms x (a 34) nv i)), (0, .ref h), (1, .int x)] dX9_timesOf_58 rfl ((nI_1 _)) (by decide) rfl ?_
                refine i_goto B 19 dX9_timesOf_61 (by decide) ?_
                refine i_Leq (congrArg (fun z => ([(5, .int (nI (j + 1))), (4, .int z), (3, .int (nI i)), (2, .int (tms x (a 34) nv i)), (0, .ref h), (1, .int x)] : List (Nat × Value))) (show (((tmn x (a 34) i j) + 0) : Int32) = (tmn x (a 34) i (j + 1)) from by rw [tmn]; simp only [h4, if_true, if_false])) ?_
                exact ih_lpi (j + 1) (by omega) (by omega)
              · have h4d := decide_eq_true h4
                refine i_aload_n B 4 dX9_timesOf_40 rfl ?_
                refine i_get (v := .ref (q 34)) B flX9_87 0 rfl rfl dX9_timesOf_41 ?_
                refine i_iload B 0 dX9_timesOf_44 rfl ?_
                refine i_ialdN B 23 j rfl rfl (by omega) (by decide) dX9_timesOf_46 ?_
                refine i_iload_n B 2 dX9_timesOf_47 rfl ?_
                refine i_ishr B dX9_timesOf_48 ?_
                refine i_iconst (v := 1) B dX9_timesOf_49 (by decide) ?_
                refine i_iand B dX9_timesOf_50 ?_
                refine i_goto B 55 dX9_timesOf_51 (by decide) ?_
                refine i_iadd B dX9_timesOf_55 ?_
                refine i_istore B [(4, .int ((tmn x (a 34) i j) + ((((a 34) j) >>> ((nI i) &&& 31)) &&& 1))), (5, .int (nI j)), (3, .int (nI i)), (2, .int (tms x (a 34) nv i)), (0, .ref h), (1, .int x)] dX9_timesOf_56 (by decide) rfl ?_
                refine i_iinc (v := (nI (j + 1))) B 1 [(5, .int (nI (j + 1))), (4, .int ((tmn x (a 34) i j) + ((((a 34) j) >>> ((nI i) &&& 31)) &&& 1))), (3, .int (nI i)), (2, .int (tms x (a 34) nv i)), (0, .ref h), (1, .int x)] dX9_timesOf_58 rfl ((nI_1 _)) (by decide) rfl ?_
                refine i_goto B 19 dX9_timesOf_61 (by decide) ?_
                refine i_Leq (congrArg (fun z => ([(5, .int (nI (j + 1))), (4, .int z), (3, .int (nI i)), (2, .int (tms x (a 34) nv i)), (0, .ref h), (1, .int x)] : List (Nat × Value))) (show (((tmn x (a 34) i j) + ((((a 34) j) >>> ((nI i) &&& 31)) &&& 1)) : Int32) = (tmn x (a 34) i (j + 1)) from by rw [tmn]; simp only [h4, if_true, if_false])) ?_
                exact ih_lpi (j + 1) (by omega) (by omega)
        refine i_Leq (congrArg (fun z => ([(5, .int z), (4, .int 0), (3, .int (nI i)), (2, .int (tms x (a 34) nv i)), (0, .ref h), (1, .int x)] : List (Nat × Value))) (show (0 : Int32) = (nI 0) from rfl)) ?_
        refine i_Leq (congrArg (fun z => ([(5, .int (nI 0)), (4, .int z), (3, .int (nI i)), (2, .int (tms x (a 34) nv i)), (0, .ref h), (1, .int x)] : List (Nat × Value))) (show (0 : Int32) = (tmn x (a 34) i 0) from rfl)) ?_
        exact lpi (nv + 1) 0 (by omega) (Nat.zero_le _)
  refine i_ldc B ckX9_151 dX9_timesOf_0 ?_
  refine i_istore_n B [(2, .int 1000000), (0, .ref h), (1, .int x)] dX9_timesOf_2 (by decide) rfl ?_
  refine i_iconst (v := 0) B dX9_timesOf_3 (by decide) ?_
  refine i_istore_n B [(3, .int 0), (2, .int 1000000), (0, .ref h), (1, .int x)] dX9_timesOf_4 (by decide) rfl ?_
  refine i_Leq (congrArg (fun z => ([(3, .int z), (2, .int 1000000), (0, .ref h), (1, .int x)] : List (Nat × Value))) (show (0 : Int32) = (nI 0) from rfl)) ?_
  refine i_Leq (congrArg (fun z => ([(3, .int (nI 0)), (2, .int z), (0, .ref h), (1, .int x)] : List (Nat × Value))) (show (1000000 : Int32) = (tms x (a 34) nv 0) from rfl)) ?_
  exact lp (np + 1) 0 (by omega) (Nat.zero_le _)

abbrev GA : Type := (Nat → Int32) × (Nat → Nat → Int32)
theorem lkf_at {g : Nat → Int32} {a : Nat → Nat → Int32} {np k j : Nat} (h : j < k) : lkf g a np k j = seb g a np j np := by
  induction k with
  | zero => omega
  | succ k ih =>
    rw [lkf]
    by_cases e : j = k
    · subst e; exact pk_us
    · rw [pk_un e]; exact ih (by omega)
theorem tmn_cg {s : Int32} {f f' : Nat → Int32} {p k : Nat} (h : ∀ j, j < k → f j = f' j) : tmn s f p k = tmn s f' p k := by
  induction k with
  | zero => rfl
  | succ k ih => rw [tmn, tmn, ih (fun j hj => h j (by omega)), h k (by omega)]
theorem tms_cg {s : Int32} {f f' : Nat → Int32} {nv k : Nat} (h : ∀ j, j < nv → f j = f' j) : tms s f nv k = tms s f' nv k := by
  induction k with
  | zero => rfl
  | succ k ih => rw [tms, tms, ih, tmn_cg h]
/-- what is SEEN from each VIEW -/
def sbr (g : Nat → Int32) (a : Nat → Nat → Int32) (np : Nat) : Nat → Int32 := fun v => seb g a np v np
theorem tms_lk (g : Nat → Int32) (a : Nat → Nat → Int32) (np nv : Nat) (s : Int32) (k : Nat) : tms s (lkf g a np nv) nv k = tms s (sbr g a np) nv k := tms_cg (fun _ h => lkf_at h)
def covF (g : Nat → Int32) (a : Nat → Nat → Int32) (np nv : Nat) (k : Int32) : Int32 := if (!wit k 1 3) = true then -2 else cvr (sbr g a np) nv np k (2 ^ nv)
def covsF (g : Nat → Int32) (a : Nat → Nat → Int32) (np nv : Nat) (s k : Int32) : Int32 := if nset (g 8) s = true then -1 else if (!wit k 1 3) = true then -2 else bI (!decide (tms s (sbr g a np) nv np < k))
def timF (g : Nat → Int32) (a : Nat → Nat → Int32) (np nv : Nat) (s : Int32) : Int32 := if nset (g 8) s = true then -1 else if decide (np = 0) = true then -9 else tms s (sbr g a np) nv np
def senF (g : Nat → Int32) (a : Nat → Nat → Int32) (np : Nat) (x y p : Int32) : Int32 := if (!pt x y) = true then -2 else if (!wit p 0 (g 1 - 1)) = true then -1 else bI (sn g a np x y (ix p))
def sesF (g : Nat → Int32) (a : Nat → Nat → Int32) (np : Nat) (v : Int32) : Int32 := if (!wit v 0 (g 8 - 1)) = true then -1 else seb g a np (ix v) np
def panelF (g : Nat → Int32) (a : Nat → Nat → Int32) (np : Nat) (x1 y1 x2 y2 : Int32) : Int32 × GA := if (!(pt x1 y1 && pt x2 y2)) = true then (-2, g, a) else if (decide (x1 = x2) && decide (y1 = y2)) = true then (-3, g, a) else if decide (np = 12) = true then (-4, g, a) else (nI np, upd g 1 (nI (np + 1)), va_up (va_up (va_up (va_up a 2 (upd (a 2) np x1)) 3 (upd (a 3) np y1)) 4 (upd (a 4) np x2)) 5 (upd (a 5) np y2))
def eyeF (g : Nat → Int32) (what v : Int32) : Int32 × (Nat → Int32) := if (decide (what = 0) && wit v 1 90) = true then (g 6, upd g 6 v) else if (decide (what = 1) && wit v 0 100) = true then (g 7, upd g 7 v) else (-2, g)
def storeF (g : Nat → Int32) (what v : Int32) : Int32 × (Nat → Int32) := if (decide (what = 0) && wit v 1 30000) = true then (g 18, upd g 18 v) else if (decide (what = 1) && wit v 0 500) = true then (g 19, upd g 19 v) else (-2, g)
def viewF (g : Nat → Int32) (a : Nat → Nat → Int32) (nv : Nat) (x y : Int32) : Int32 × GA := if (!pt x y) = true then (-2, g, a) else if decide (nv = 10) = true then (-4, g, a) else (nI nv, upd g 8 (nI (nv + 1)), va_up (va_up a 9 (upd (a 9) nv x)) 10 (upd (a 10) nv y))
def closeF (g : Nat → Int32) (a : Nat → Nat → Int32) (nc : Nat) (x1 y1 x2 y2 : Int32) : Int32 × GA := if (!(pt x1 y1 && pt x2 y2)) = true then (-2, g, a) else if (!decide (x1 < x2) || !decide (y1 < y2)) = true then (-3, g, a) else if decide (nc = 4) = true then (-4, g, a) else (nI (nc + 1), upd g 11 (nI (nc + 1)), va_up (va_up (va_up (va_up a 12 (upd (a 12) nc x1)) 13 (upd (a 13) nc y1)) 14 (upd (a 14) nc x2)) 15 (upd (a 15) nc y2))
def openF (g : Nat → Int32) (nc : Nat) : Int32 × (Nat → Int32) := if decide (nc = 0) = true then (-3, g) else (nI (nc - 1), upd g 11 (nI (nc - 1)))
def windF (g : Nat → Int32) (x y : Int32) : Int32 × (Nat → Int32) := if (!(wit x (-9) 9 && wit y (-9) 9)) = true then (-2, g) else (100 * g 16 + g 17 + 909, upd (upd g 16 x) 17 y)
def baseF (a : Nat → Nat → Int32) (x y : Int32) : Int32 × (Nat → Nat → Int32) := if (!pt x y) = true then (-2, a) else (100 * a 9 10 + a 10 10, va_up (va_up a 9 (upd (a 9) 10 x)) 10 (upd (a 10) 10 y))
def logF (g : Nat → Int32) (a : Nat → Nat → Int32) (nl : Nat) (x y e : Int32) : Int32 × GA := if (!(pt x y && wit e 0 5)) = true then (-2, g, a) else if decide (nl = 20) = true then (-4, g, a) else (nI nl, upd g 20 (nI (nl + 1)), va_up (va_up (va_up a 21 (upd (a 21) nl x)) 22 (upd (a 22) nl y)) 23 (upd (a 23) nl e))
def markF (g : Nat → Int32) (a : Nat → Nat → Int32) (nm : Nat) (p at_ len yr : Int32) : Int32 × GA := if (!wit p 0 (g 1 - 1)) = true then (-1, g, a) else if (!(wit at_ 0 1000 && (wit len 0 500 && wit yr 0 9))) = true then (-2, g, a) else if decide (nm = 40) = true then (-4, g, a) else (nI nm, upd g 24 (nI (nm + 1)), va_up (va_up (va_up (va_up a 25 (upd (a 25) nm p)) 26 (upd (a 26) nm at_)) 27 (upd (a 27) nm len)) 28 (upd (a 28) nm yr))
def wipeF (g : Nat → Int32) (a : Nat → Nat → Int32) (m : Int32) : Int32 × (Nat → Nat → Int32) := if (!wit m 0 (g 24 - 1)) = true then (-1, a) else if (!decide (a 29 (ix m) = 0)) = true then (-3, a) else (1, va_up a 29 (upd (a 29) (ix m) 1))
def onF (a : Nat → Nat → Int32) (k : Nat) (p y : Int32) : Bool := decide (a 29 k = 0) && (decide (a 25 k = p) && decide (a 28 k = y))
def mks (a : Nat → Nat → Int32) (p y z : Int32) : Nat → Int32
  | 0 => 0
  | k + 1 => mks a p y z k + (if onF a k p y = true then (if decide (z = 0) = true then 1 else a 27 k) else 0)
def marksF (g : Nat → Int32) (a : Nat → Nat → Int32) (nm : Nat) (p y z : Int32) : Int32 := if (!wit p 0 (g 1 - 1)) = true then -1 else if (!wit y 0 9) = true then -2 else mks a p y z nm
def cnw (w : Nat → Int32) : Nat → Int32
  | 0 => 0
  | k + 1 => cnw w k + (if decide (w k = 0) = true then 1 else 0)
def countF (g : Nat → Int32) (a : Nat → Nat → Int32) (nm : Nat) (what : Int32) : Int32 := if decide (what = 0) = true then g 1 else if decide (what = 1) = true then g 8 else if decide (what = 2) = true then g 11 else if decide (what = 3) = true then g 20 else if decide (what = 4) = true then cnw (a 29) nm else -2
theorem wit01 (x : Int32) : wit x 0 1 = (decide (x = 0) || decide (x = 1)) := by
  unfold wit
  by_cases h0 : x = 0
  · subst h0; decide
  · by_cases h1 : x = 1
    · subst h1; decide
    · rw [decide_eq_false h0, decide_eq_false h1]
      have e0 : x.toInt ≠ 0 := fun e => h0 (Int32.toInt_inj.mp e)
      have e1 : x.toInt ≠ 1 := fun e => h1 (Int32.toInt_inj.mp e)
      by_cases q : x < 0
      · rw [decide_eq_true q]; rfl
      · rw [decide_eq_false q]
        have q2 : (1 : Int32) < x := by
          rw [Int32.lt_iff_toInt_lt] at q ⊢
          have a0 : (0 : Int32).toInt = 0 := rfl
          have a1 : (1 : Int32).toInt = 1 := rfl
          omega
        rw [decide_eq_true q2]; rfl
end
