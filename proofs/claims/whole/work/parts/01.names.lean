-- ===== PART A: goes FIRST, ahead of the names: the tables' words, and 'selects' of the private methods out of them =====
/-- a private method of a class that the tables say can be made, by its rows of tables_1 -/
def lw_okq (q : MethodName × Nat) : Prop := (q.1.cls ≠ "java/lang/invoke/MethodHandle" ∧ q.1.cls ≠ "java/lang/invoke/VarHandle") ∧ Cond.instantiable q.1.cls q.2 ∈ tables_1 ∧ Cond.privateMethod q.1 ∈ tables_1 ∧ Cond.instanceMethod q.1 ∈ tables_1
theorem lw_p0 : lw_okq (⟨"WingLooks", "isPanel", "(I)Z"⟩, 8) := ⟨⟨by decide +kernel, by decide +kernel⟩, List.mem_of_getElem? (i := 14) (by decide +kernel), List.mem_of_getElem? (i := 266) (by decide +kernel), List.mem_of_getElem? (i := 267) (by decide +kernel)⟩
theorem lw_p1 : lw_okq (⟨"WingLooks$Wings", "isTouched", "(IIIII)Z"⟩, 7) := ⟨⟨by decide +kernel, by decide +kernel⟩, List.mem_of_getElem? (i := 22) (by decide +kernel), List.mem_of_getElem? (i := 275) (by decide +kernel), List.mem_of_getElem? (i := 276) (by decide +kernel)⟩
theorem lw_p2 : lw_okq (⟨"WingLooks", "isViewSet", "(I)Z"⟩, 8) := ⟨⟨by decide +kernel, by decide +kernel⟩, List.mem_of_getElem? (i := 14) (by decide +kernel), List.mem_of_getElem? (i := 334) (by decide +kernel), List.mem_of_getElem? (i := 335) (by decide +kernel)⟩
theorem lw_p3 : lw_okq (⟨"WingLooks", "forgetRoutes", "()V"⟩, 8) := ⟨⟨by decide +kernel, by decide +kernel⟩, List.mem_of_getElem? (i := 14) (by decide +kernel), List.mem_of_getElem? (i := 351) (by decide +kernel), List.mem_of_getElem? (i := 352) (by decide +kernel)⟩
theorem lw_p4 : lw_okq (⟨"WingLooks$Air", "goesInto", "(IIIII)Z"⟩, 7) := ⟨⟨by decide +kernel, by decide +kernel⟩, List.mem_of_getElem? (i := 95) (by decide +kernel), List.mem_of_getElem? (i := 383) (by decide +kernel), List.mem_of_getElem? (i := 384) (by decide +kernel)⟩
theorem lw_p5 : lw_okq (⟨"WingLooks", "routesFor", "(I)LWingLooks$Routes;"⟩, 8) := ⟨⟨by decide +kernel, by decide +kernel⟩, List.mem_of_getElem? (i := 14) (by decide +kernel), List.mem_of_getElem? (i := 401) (by decide +kernel), List.mem_of_getElem? (i := 402) (by decide +kernel)⟩
theorem lw_p6 : lw_okq (⟨"WingLooks$Routes", "measureLegs", "(I)V"⟩, 9) := ⟨⟨by decide +kernel, by decide +kernel⟩, List.mem_of_getElem? (i := 405) (by decide +kernel), List.mem_of_getElem? (i := 443) (by decide +kernel), List.mem_of_getElem? (i := 444) (by decide +kernel)⟩
theorem lw_p7 : lw_okq (⟨"WingLooks$Routes", "xOf", "(I)I"⟩, 9) := ⟨⟨by decide +kernel, by decide +kernel⟩, List.mem_of_getElem? (i := 405) (by decide +kernel), List.mem_of_getElem? (i := 450) (by decide +kernel), List.mem_of_getElem? (i := 451) (by decide +kernel)⟩
theorem lw_p8 : lw_okq (⟨"WingLooks$Routes", "yOf", "(I)I"⟩, 9) := ⟨⟨by decide +kernel, by decide +kernel⟩, List.mem_of_getElem? (i := 405) (by decide +kernel), List.mem_of_getElem? (i := 454) (by decide +kernel), List.mem_of_getElem? (i := 455) (by decide +kernel)⟩
theorem lw_p9 : lw_okq (⟨"WingLooks$Routes", "fillTails", "(I)V"⟩, 9) := ⟨⟨by decide +kernel, by decide +kernel⟩, List.mem_of_getElem? (i := 405) (by decide +kernel), List.mem_of_getElem? (i := 461) (by decide +kernel), List.mem_of_getElem? (i := 462) (by decide +kernel)⟩
theorem lw_p10 : lw_okq (⟨"WingLooks$Routes", "costFrom", "(II)I"⟩, 9) := ⟨⟨by decide +kernel, by decide +kernel⟩, List.mem_of_getElem? (i := 405) (by decide +kernel), List.mem_of_getElem? (i := 465) (by decide +kernel), List.mem_of_getElem? (i := 466) (by decide +kernel)⟩
theorem lw_p11 : lw_okq (⟨"WingLooks$Routes", "costBy", "(III)I"⟩, 9) := ⟨⟨by decide +kernel, by decide +kernel⟩, List.mem_of_getElem? (i := 405) (by decide +kernel), List.mem_of_getElem? (i := 469) (by decide +kernel), List.mem_of_getElem? (i := 470) (by decide +kernel)⟩
theorem lw_p12 : lw_okq (⟨"WingLooks$Routes", "hasRound", "(I)Z"⟩, 9) := ⟨⟨by decide +kernel, by decide +kernel⟩, List.mem_of_getElem? (i := 405) (by decide +kernel), List.mem_of_getElem? (i := 478) (by decide +kernel), List.mem_of_getElem? (i := 479) (by decide +kernel)⟩
theorem lw_p13 : lw_okq (⟨"WingLooks$Routes", "nextView", "(II)I"⟩, 9) := ⟨⟨by decide +kernel, by decide +kernel⟩, List.mem_of_getElem? (i := 405) (by decide +kernel), List.mem_of_getElem? (i := 491) (by decide +kernel), List.mem_of_getElem? (i := 492) (by decide +kernel)⟩
theorem lw_p14 : lw_okq (⟨"WingLooks$Routes", "splitUp", "(I)V"⟩, 9) := ⟨⟨by decide +kernel, by decide +kernel⟩, List.mem_of_getElem? (i := 405) (by decide +kernel), List.mem_of_getElem? (i := 503) (by decide +kernel), List.mem_of_getElem? (i := 504) (by decide +kernel)⟩
theorem lw_p15 : lw_okq (⟨"WingLooks$Routes", "bestSplit", "(I)I"⟩, 9) := ⟨⟨by decide +kernel, by decide +kernel⟩, List.mem_of_getElem? (i := 405) (by decide +kernel), List.mem_of_getElem? (i := 507) (by decide +kernel), List.mem_of_getElem? (i := 508) (by decide +kernel)⟩
def lw_privs_1 : List (MethodName × Nat) := [(⟨"WingLooks", "isPanel", "(I)Z"⟩, 8), (⟨"WingLooks$Wings", "isTouched", "(IIIII)Z"⟩, 7), (⟨"WingLooks", "isViewSet", "(I)Z"⟩, 8), (⟨"WingLooks", "forgetRoutes", "()V"⟩, 8), (⟨"WingLooks$Air", "goesInto", "(IIIII)Z"⟩, 7), (⟨"WingLooks", "routesFor", "(I)LWingLooks$Routes;"⟩, 8), (⟨"WingLooks$Routes", "measureLegs", "(I)V"⟩, 9), (⟨"WingLooks$Routes", "xOf", "(I)I"⟩, 9), (⟨"WingLooks$Routes", "yOf", "(I)I"⟩, 9), (⟨"WingLooks$Routes", "fillTails", "(I)V"⟩, 9), (⟨"WingLooks$Routes", "costFrom", "(II)I"⟩, 9), (⟨"WingLooks$Routes", "costBy", "(III)I"⟩, 9), (⟨"WingLooks$Routes", "hasRound", "(I)Z"⟩, 9), (⟨"WingLooks$Routes", "nextView", "(II)I"⟩, 9), (⟨"WingLooks$Routes", "splitUp", "(I)V"⟩, 9), (⟨"WingLooks$Routes", "bestSplit", "(I)I"⟩, 9)]
theorem lw_r1 : ∀ q ∈ lw_privs_1, lw_okq q := List.forall_mem_cons.mpr ⟨lw_p0, List.forall_mem_cons.mpr ⟨lw_p1, List.forall_mem_cons.mpr ⟨lw_p2, List.forall_mem_cons.mpr ⟨lw_p3, List.forall_mem_cons.mpr ⟨lw_p4, List.forall_mem_cons.mpr ⟨lw_p5, List.forall_mem_cons.mpr ⟨lw_p6, List.forall_mem_cons.mpr ⟨lw_p7, List.forall_mem_cons.mpr ⟨lw_p8, List.forall_mem_cons.mpr ⟨lw_p9, List.forall_mem_cons.mpr ⟨lw_p10, List.forall_mem_cons.mpr ⟨lw_p11, List.forall_mem_cons.mpr ⟨lw_p12, List.forall_mem_cons.mpr ⟨lw_p13, List.forall_mem_cons.mpr ⟨lw_p14, List.forall_mem_cons.mpr ⟨lw_p15, fun _ h => absurd h List.not_mem_nil⟩⟩⟩⟩⟩⟩⟩⟩⟩⟩⟩⟩⟩⟩⟩⟩
theorem lw_p16 : lw_okq (⟨"WingLooks$MarkBook", "isOf", "(III)Z"⟩, 11) := ⟨⟨by decide +kernel, by decide +kernel⟩, List.mem_of_getElem? (i := 166) (by decide +kernel), List.mem_of_getElem? (i := 574) (by decide +kernel), List.mem_of_getElem? (i := 575) (by decide +kernel)⟩
theorem lw_p17 : lw_okq (⟨"WingLooks$MarkBook", "sortPlaces", "(II[I)I"⟩, 11) := ⟨⟨by decide +kernel, by decide +kernel⟩, List.mem_of_getElem? (i := 166) (by decide +kernel), List.mem_of_getElem? (i := 586) (by decide +kernel), List.mem_of_getElem? (i := 587) (by decide +kernel)⟩
theorem lw_p18 : lw_okq (⟨"WingLooks$MarkBook", "addPlace", "(III)V"⟩, 11) := ⟨⟨by decide +kernel, by decide +kernel⟩, List.mem_of_getElem? (i := 166) (by decide +kernel), List.mem_of_getElem? (i := 590) (by decide +kernel), List.mem_of_getElem? (i := 591) (by decide +kernel)⟩
theorem lw_p19 : lw_okq (⟨"WingLooksModel", "noPanel", "(I)Z"⟩, 38) := ⟨⟨by decide +kernel, by decide +kernel⟩, List.mem_of_getElem? (i := 607) (by decide +kernel), List.mem_of_getElem? (i := 753) (by decide +kernel), List.mem_of_getElem? (i := 754) (by decide +kernel)⟩
theorem lw_p20 : lw_okq (⟨"WingLooksModel", "isSeen", "(III)Z"⟩, 38) := ⟨⟨by decide +kernel, by decide +kernel⟩, List.mem_of_getElem? (i := 607) (by decide +kernel), List.mem_of_getElem? (i := 757) (by decide +kernel), List.mem_of_getElem? (i := 758) (by decide +kernel)⟩
theorem lw_p21 : lw_okq (⟨"WingLooksModel", "seesOf", "(I)I"⟩, 38) := ⟨⟨by decide +kernel, by decide +kernel⟩, List.mem_of_getElem? (i := 607) (by decide +kernel), List.mem_of_getElem? (i := 778) (by decide +kernel), List.mem_of_getElem? (i := 779) (by decide +kernel)⟩
theorem lw_p22 : lw_okq (⟨"WingLooksModel", "look", "()V"⟩, 38) := ⟨⟨by decide +kernel, by decide +kernel⟩, List.mem_of_getElem? (i := 607) (by decide +kernel), List.mem_of_getElem? (i := 787) (by decide +kernel), List.mem_of_getElem? (i := 788) (by decide +kernel)⟩
theorem lw_p23 : lw_okq (⟨"WingLooksModel", "timesOf", "(I)I"⟩, 38) := ⟨⟨by decide +kernel, by decide +kernel⟩, List.mem_of_getElem? (i := 607) (by decide +kernel), List.mem_of_getElem? (i := 794) (by decide +kernel), List.mem_of_getElem? (i := 795) (by decide +kernel)⟩
theorem lw_p24 : lw_okq (⟨"WingLooksModel", "noSet", "(I)Z"⟩, 38) := ⟨⟨by decide +kernel, by decide +kernel⟩, List.mem_of_getElem? (i := 607) (by decide +kernel), List.mem_of_getElem? (i := 803) (by decide +kernel), List.mem_of_getElem? (i := 804) (by decide +kernel)⟩
theorem lw_p25 : lw_okq (⟨"WingLooksModel", "legOf", "(IIII)I"⟩, 38) := ⟨⟨by decide +kernel, by decide +kernel⟩, List.mem_of_getElem? (i := 607) (by decide +kernel), List.mem_of_getElem? (i := 839) (by decide +kernel), List.mem_of_getElem? (i := 840) (by decide +kernel)⟩
theorem lw_p26 : lw_okq (⟨"WingLooksModel", "isInside", "(IIIII)Z"⟩, 38) := ⟨⟨by decide +kernel, by decide +kernel⟩, List.mem_of_getElem? (i := 607) (by decide +kernel), List.mem_of_getElem? (i := 843) (by decide +kernel), List.mem_of_getElem? (i := 844) (by decide +kernel)⟩
theorem lw_p27 : lw_okq (⟨"WingLooksModel", "fly", "()V"⟩, 38) := ⟨⟨by decide +kernel, by decide +kernel⟩, List.mem_of_getElem? (i := 607) (by decide +kernel), List.mem_of_getElem? (i := 851) (by decide +kernel), List.mem_of_getElem? (i := 852) (by decide +kernel)⟩
theorem lw_p28 : lw_okq (⟨"WingLooksModel", "roundOf", "(I)I"⟩, 38) := ⟨⟨by decide +kernel, by decide +kernel⟩, List.mem_of_getElem? (i := 607) (by decide +kernel), List.mem_of_getElem? (i := 855) (by decide +kernel), List.mem_of_getElem? (i := 856) (by decide +kernel)⟩
theorem lw_p29 : lw_okq (⟨"WingLooksModel", "part", "()V"⟩, 38) := ⟨⟨by decide +kernel, by decide +kernel⟩, List.mem_of_getElem? (i := 607) (by decide +kernel), List.mem_of_getElem? (i := 867) (by decide +kernel), List.mem_of_getElem? (i := 868) (by decide +kernel)⟩
theorem lw_p30 : lw_okq (⟨"WingLooksModel", "isProved", "(II)Z"⟩, 38) := ⟨⟨by decide +kernel, by decide +kernel⟩, List.mem_of_getElem? (i := 607) (by decide +kernel), List.mem_of_getElem? (i := 884) (by decide +kernel), List.mem_of_getElem? (i := 885) (by decide +kernel)⟩
theorem lw_p31 : lw_okq (⟨"WingLooksModel", "provedOf", "(I)I"⟩, 38) := ⟨⟨by decide +kernel, by decide +kernel⟩, List.mem_of_getElem? (i := 607) (by decide +kernel), List.mem_of_getElem? (i := 892) (by decide +kernel), List.mem_of_getElem? (i := 893) (by decide +kernel)⟩
def lw_privs_2 : List (MethodName × Nat) := [(⟨"WingLooks$MarkBook", "isOf", "(III)Z"⟩, 11), (⟨"WingLooks$MarkBook", "sortPlaces", "(II[I)I"⟩, 11), (⟨"WingLooks$MarkBook", "addPlace", "(III)V"⟩, 11), (⟨"WingLooksModel", "noPanel", "(I)Z"⟩, 38), (⟨"WingLooksModel", "isSeen", "(III)Z"⟩, 38), (⟨"WingLooksModel", "seesOf", "(I)I"⟩, 38), (⟨"WingLooksModel", "look", "()V"⟩, 38), (⟨"WingLooksModel", "timesOf", "(I)I"⟩, 38), (⟨"WingLooksModel", "noSet", "(I)Z"⟩, 38), (⟨"WingLooksModel", "legOf", "(IIII)I"⟩, 38), (⟨"WingLooksModel", "isInside", "(IIIII)Z"⟩, 38), (⟨"WingLooksModel", "fly", "()V"⟩, 38), (⟨"WingLooksModel", "roundOf", "(I)I"⟩, 38), (⟨"WingLooksModel", "part", "()V"⟩, 38), (⟨"WingLooksModel", "isProved", "(II)Z"⟩, 38), (⟨"WingLooksModel", "provedOf", "(I)I"⟩, 38)]
theorem lw_r2 : ∀ q ∈ lw_privs_2, lw_okq q := List.forall_mem_cons.mpr ⟨lw_p16, List.forall_mem_cons.mpr ⟨lw_p17, List.forall_mem_cons.mpr ⟨lw_p18, List.forall_mem_cons.mpr ⟨lw_p19, List.forall_mem_cons.mpr ⟨lw_p20, List.forall_mem_cons.mpr ⟨lw_p21, List.forall_mem_cons.mpr ⟨lw_p22, List.forall_mem_cons.mpr ⟨lw_p23, List.forall_mem_cons.mpr ⟨lw_p24, List.forall_mem_cons.mpr ⟨lw_p25, List.forall_mem_cons.mpr ⟨lw_p26, List.forall_mem_cons.mpr ⟨lw_p27, List.forall_mem_cons.mpr ⟨lw_p28, List.forall_mem_cons.mpr ⟨lw_p29, List.forall_mem_cons.mpr ⟨lw_p30, List.forall_mem_cons.mpr ⟨lw_p31, fun _ h => absurd h List.not_mem_nil⟩⟩⟩⟩⟩⟩⟩⟩⟩⟩⟩⟩⟩⟩⟩⟩
theorem lw_p32 : lw_okq (⟨"WingLooksModel", "isOn", "(III)Z"⟩, 38) := ⟨⟨by decide +kernel, by decide +kernel⟩, List.mem_of_getElem? (i := 607) (by decide +kernel), List.mem_of_getElem? (i := 913) (by decide +kernel), List.mem_of_getElem? (i := 914) (by decide +kernel)⟩
theorem lw_p33 : lw_okq (⟨"WingLooksModel", "placed", "(II[I)I"⟩, 38) := ⟨⟨by decide +kernel, by decide +kernel⟩, List.mem_of_getElem? (i := 607) (by decide +kernel), List.mem_of_getElem? (i := 921) (by decide +kernel), List.mem_of_getElem? (i := 922) (by decide +kernel)⟩
theorem lw_p34 : lw_okq (⟨"WingLooksModel", "take", "(IIII)V"⟩, 38) := ⟨⟨by decide +kernel, by decide +kernel⟩, List.mem_of_getElem? (i := 607) (by decide +kernel), List.mem_of_getElem? (i := 925) (by decide +kernel), List.mem_of_getElem? (i := 926) (by decide +kernel)⟩
def lw_privs_3 : List (MethodName × Nat) := [(⟨"WingLooksModel", "isOn", "(III)Z"⟩, 38), (⟨"WingLooksModel", "placed", "(II[I)I"⟩, 38), (⟨"WingLooksModel", "take", "(IIII)V"⟩, 38)]
theorem lw_r3 : ∀ q ∈ lw_privs_3, lw_okq q := List.forall_mem_cons.mpr ⟨lw_p32, List.forall_mem_cons.mpr ⟨lw_p33, List.forall_mem_cons.mpr ⟨lw_p34, fun _ h => absurd h List.not_mem_nil⟩⟩⟩
def lw_privs : List (MethodName × Nat) := lw_privs_1 ++ (lw_privs_2 ++ (lw_privs_3))
def lw_tbl : List Cond := k2_sels lw_privs ++ tables_1
theorem lw_privs_ok : ∀ q ∈ lw_privs, lw_okq q := by
  show ∀ q ∈ lw_privs_1 ++ (lw_privs_2 ++ (lw_privs_3)), lw_okq q
  exact List.forall_mem_append.mpr ⟨lw_r1, List.forall_mem_append.mpr ⟨lw_r2, lw_r3⟩⟩
theorem goodIn_r {big : List Cond} (ws : List Cond) (ps : List Nat) (hp : ws = ps.filterMap (fun i => big[i]?)) (h : ws.all goodWord = true) : GoodIn big ws := by
  intro w hw
  have h1 := List.all_eq_true.mp h w hw
  rw [hp] at hw
  obtain ⟨i, -, hi⟩ := List.mem_filterMap.mp hw
  have hm : w ∈ big := by first | exact List.mem_of_getElem? hi | exact List.getElem?_mem hi
  exact ⟨hm, good_of_word h1⟩
theorem goodIn_app {big a b : List Cond} (ha : GoodIn big a) (hb : GoodIn big b) : GoodIn big (a ++ b) := fun w h => (List.mem_append.mp h).elim (ha w) (hb w)
theorem goodIn_ca {big a b : List Cond} {c : Cond} (ha : GoodIn big (c :: a)) (hb : GoodIn big b) : GoodIn big (c :: (a ++ b)) := fun w h => (List.mem_cons.mp h).elim (fun e => ha w (List.mem_cons.mpr (Or.inl e))) (fun h => (List.mem_append.mp h).elim (fun h => ha w (List.mem_cons.mpr (Or.inr h))) (hb w))
theorem goodIn_sub {big ws : List Cond} (hm : ∀ w ∈ ws, w ∈ big) (h : ws.all goodWord = true) : GoodIn big ws := fun w hw => ⟨hm w hw, good_of_word (List.all_eq_true.mp h w hw)⟩
def RX0 : String := "WingLooks$Air"
def TX0 : u_T := fun k => match k with
  | 0 => ("WingLooks$Air", "left", "[I", true)
  | 1 => ("WingLooks$Air", "bottom", "[I", true)
  | 2 => ("WingLooks$Air", "right", "[I", true)
  | 3 => ("WingLooks$Air", "top", "[I", true)
  | 4 => ("WingLooks$Air", "size", "I", false)
  | 5 => ("WingLooks$Air", "windX", "I", false)
  | _ => ("WingLooks$Air", "windY", "I", false)
def tyX0 : Nat → FieldType := fun k => match k with
  | 0 => .array .int
  | 1 => .array .int
  | 2 => .array .int
  | 3 => .array .int
  | 4 => .int
  | 5 => .int
  | _ => .int
abbrev wsX00 : List Cond := u_ws RX0 TX0 7
theorem nmX0 : ∀ a, a < 7 → ∀ b, b < 7 → a ≠ b → (TX0 a).2.1 ≠ (TX0 b).2.1 := by decide +kernel
theorem tyX0_ok : ∀ k, k < 7 → parseFieldDescriptor (TX0 k).2.2.1 = some (tyX0 k) := by decide +kernel
abbrev cX0_init : ByteArray := prog_2_method_1_code
def yX0_init : MethodName := ⟨RX0, "<init>", "()V"⟩
abbrev cX0_add : ByteArray := prog_2_method_2_code
def yX0_add : MethodName := ⟨RX0, "add", "(IIII)V"⟩
abbrev cX0_isShut : ByteArray := prog_2_method_3_code
def yX0_isShut : MethodName := ⟨RX0, "isShut", "(IIII)Z"⟩
abbrev cX0_goesInto : ByteArray := prog_2_method_4_code
def yX0_goesInto : MethodName := ⟨RX0, "goesInto", "(IIIII)Z"⟩
abbrev cX0_cost : ByteArray := prog_2_method_5_code
def yX0_cost : MethodName := ⟨RX0, "cost", "(II)I"⟩
abbrev cX0_rootUp : ByteArray := prog_2_method_6_code
def yX0_rootUp : MethodName := ⟨RX0, "rootUp", "(I)I"⟩
def RX1 : String := "WingLooks$Craft"
def TX1 : u_T := fun k => match k with
  | 0 => ("WingLooks$Craft", "baseX", "I", false)
  | 1 => ("WingLooks$Craft", "baseY", "I", false)
  | 2 => ("WingLooks$Craft", "battery", "I", false)
  | _ => ("WingLooks$Craft", "hover", "I", false)
def tyX1 : Nat → FieldType := fun k => match k with
  | 0 => .int
  | 1 => .int
  | 2 => .int
  | _ => .int
abbrev wsX10 : List Cond := u_ws RX1 TX1 4
theorem nmX1 : ∀ a, a < 4 → ∀ b, b < 4 → a ≠ b → (TX1 a).2.1 ≠ (TX1 b).2.1 := by decide +kernel
theorem tyX1_ok : ∀ k, k < 4 → parseFieldDescriptor (TX1 k).2.2.1 = some (tyX1 k) := by decide +kernel
abbrev cX1_init : ByteArray := prog_3_method_1_code
def yX1_init : MethodName := ⟨RX1, "<init>", "()V"⟩
def RX2 : String := "WingLooks$LogBook"
def TX2 : u_T := fun k => match k with
  | 0 => ("WingLooks$LogBook", "places", "LWingLooks$Places;", true)
  | _ => ("WingLooks$LogBook", "spread", "[I", true)
def tyX2 : Nat → FieldType := fun k => match k with
  | 0 => .object "WingLooks$Places"
  | _ => .array .int
abbrev wsX20 : List Cond := u_ws RX2 TX2 2
theorem nmX2 : ∀ a, a < 2 → ∀ b, b < 2 → a ≠ b → (TX2 a).2.1 ≠ (TX2 b).2.1 := by decide +kernel
theorem tyX2_ok : ∀ k, k < 2 → parseFieldDescriptor (TX2 k).2.2.1 = some (tyX2 k) := by decide +kernel
abbrev cX2_init : ByteArray := prog_4_method_1_code
def yX2_init : MethodName := ⟨RX2, "<init>", "()V"⟩
abbrev cX2_add : ByteArray := prog_4_method_2_code
def yX2_add : MethodName := ⟨RX2, "add", "(III)I"⟩
abbrev cX2_isProof : ByteArray := prog_4_method_3_code
def yX2_isProof : MethodName := ⟨RX2, "isProof", "(ILWingLooks$Wings;I)Z"⟩
abbrev cX2_proofs : ByteArray := prog_4_method_4_code
def yX2_proofs : MethodName := ⟨RX2, "proofs", "(LWingLooks$Wings;II)I"⟩
def RX3 : String := "WingLooks$Lookout"
def TX3 : u_T := fun k => match k with
  | 0 => ("WingLooks$Lookout", "watchers", "[I", true)
  | _ => ("WingLooks$Lookout", "panels", "I", false)
def tyX3 : Nat → FieldType := fun k => match k with
  | 0 => .array .int
  | _ => .int
abbrev wsX30 : List Cond := u_ws RX3 TX3 2
theorem nmX3 : ∀ a, a < 2 → ∀ b, b < 2 → a ≠ b → (TX3 a).2.1 ≠ (TX3 b).2.1 := by decide +kernel
theorem tyX3_ok : ∀ k, k < 2 → parseFieldDescriptor (TX3 k).2.2.1 = some (tyX3 k) := by decide +kernel
abbrev cX3_init : ByteArray := prog_5_method_1_code
def yX3_init : MethodName := ⟨RX3, "<init>", "()V"⟩
abbrev cX3_watch : ByteArray := prog_5_method_2_code
def yX3_watch : MethodName := ⟨RX3, "watch", "(LWingLooks$Wings;LWingLooks$Places;)V"⟩
abbrev cX3_leastTimes : ByteArray := prog_5_method_3_code
def yX3_leastTimes : MethodName := ⟨RX3, "leastTimes", "(I)I"⟩
abbrev cX3_smallestCover : ByteArray := prog_5_method_4_code
def yX3_smallestCover : MethodName := ⟨RX3, "smallestCover", "(II)I"⟩
def RX4 : String := "WingLooks$MarkBook"
def TX4 : u_T := fun k => match k with
  | 0 => ("WingLooks$MarkBook", "panelOf", "[I", true)
  | 1 => ("WingLooks$MarkBook", "atOf", "[I", true)
  | 2 => ("WingLooks$MarkBook", "lengthOf", "[I", true)
  | 3 => ("WingLooks$MarkBook", "yearOf", "[I", true)
  | 4 => ("WingLooks$MarkBook", "wiped", "[Z", true)
  | 5 => ("WingLooks$MarkBook", "size", "I", false)
  | 6 => ("WingLooks$MarkBook", "placesOne", "[I", true)
  | 7 => ("WingLooks$MarkBook", "placesTwo", "[I", true)
  | 8 => ("WingLooks$MarkBook", "worth", "[I", true)
  | 9 => ("WingLooks$MarkBook", "pairs", "I", false)
  | _ => ("WingLooks$MarkBook", "pairedDrift", "I", false)
def tyX4 : Nat → FieldType := fun k => match k with
  | 0 => .array .int
  | 1 => .array .int
  | 2 => .array .int
  | 3 => .array .int
  | 4 => .array .boolean
  | 5 => .int
  | 6 => .array .int
  | 7 => .array .int
  | 8 => .array .int
  | 9 => .int
  | _ => .int
abbrev wsX40 : List Cond := u_ws RX4 TX4 11
theorem nmX4 : ∀ a, a < 11 → ∀ b, b < 11 → a ≠ b → (TX4 a).2.1 ≠ (TX4 b).2.1 := by decide +kernel
theorem tyX4_ok : ∀ k, k < 11 → parseFieldDescriptor (TX4 k).2.2.1 = some (tyX4 k) := by decide +kernel
abbrev cX4_init : ByteArray := prog_6_method_1_code
def yX4_init : MethodName := ⟨RX4, "<init>", "()V"⟩
abbrev cX4_add : ByteArray := prog_6_method_2_code
def yX4_add : MethodName := ⟨RX4, "add", "(IIII)I"⟩
abbrev cX4_present : ByteArray := prog_6_method_3_code
def yX4_present : MethodName := ⟨RX4, "present", "()I"⟩
abbrev cX4_isOf : ByteArray := prog_6_method_4_code
def yX4_isOf : MethodName := ⟨RX4, "isOf", "(III)Z"⟩
abbrev cX4_sum : ByteArray := prog_6_method_5_code
def yX4_sum : MethodName := ⟨RX4, "sum", "(IIZ)I"⟩
abbrev cX4_pairUp : ByteArray := prog_6_method_6_code
def yX4_pairUp : MethodName := ⟨RX4, "pairUp", "(IIII)V"⟩
abbrev cX4_sortPlaces : ByteArray := prog_6_method_7_code
def yX4_sortPlaces : MethodName := ⟨RX4, "sortPlaces", "(II[I)I"⟩
abbrev cX4_addPlace : ByteArray := prog_6_method_8_code
def yX4_addPlace : MethodName := ⟨RX4, "addPlace", "(III)V"⟩
def RX5 : String := "WingLooks$Places"
def TX5 : u_T := fun k => match k with
  | 0 => ("WingLooks$Places", "x", "[I", true)
  | 1 => ("WingLooks$Places", "y", "[I", true)
  | _ => ("WingLooks$Places", "size", "I", false)
def tyX5 : Nat → FieldType := fun k => match k with
  | 0 => .array .int
  | 1 => .array .int
  | _ => .int
abbrev wsX50 : List Cond := u_ws RX5 TX5 3
theorem nmX5 : ∀ a, a < 3 → ∀ b, b < 3 → a ≠ b → (TX5 a).2.1 ≠ (TX5 b).2.1 := by decide +kernel
theorem tyX5_ok : ∀ k, k < 3 → parseFieldDescriptor (TX5 k).2.2.1 = some (tyX5 k) := by decide +kernel
abbrev cX5_init : ByteArray := prog_7_method_1_code
def yX5_init : MethodName := ⟨RX5, "<init>", "(I)V"⟩
abbrev cX5_add : ByteArray := prog_7_method_2_code
def yX5_add : MethodName := ⟨RX5, "add", "(II)I"⟩
def RX6 : String := "WingLooks$Routes"
def TX6 : u_T := fun k => match k with
  | 0 => ("WingLooks$Routes", "views", "LWingLooks$Places;", true)
  | 1 => ("WingLooks$Routes", "air", "LWingLooks$Air;", true)
  | 2 => ("WingLooks$Routes", "craft", "LWingLooks$Craft;", true)
  | 3 => ("WingLooks$Routes", "legCosts", "[I", true)
  | 4 => ("WingLooks$Routes", "tails", "[I", true)
  | 5 => ("WingLooks$Routes", "rounds", "[I", true)
  | 6 => ("WingLooks$Routes", "splits", "[I", true)
  | 7 => ("WingLooks$Routes", "routedSet", "I", false)
  | _ => ("WingLooks$Routes", "splitSet", "I", false)
def tyX6 : Nat → FieldType := fun k => match k with
  | 0 => .object "WingLooks$Places"
  | 1 => .object "WingLooks$Air"
  | 2 => .object "WingLooks$Craft"
  | 3 => .array .int
  | 4 => .array .int
  | 5 => .array .int
  | 6 => .array .int
  | 7 => .int
  | _ => .int
abbrev wsX60 : List Cond := u_ws RX6 TX6 9
theorem nmX6 : ∀ a, a < 9 → ∀ b, b < 9 → a ≠ b → (TX6 a).2.1 ≠ (TX6 b).2.1 := by decide +kernel
theorem tyX6_ok : ∀ k, k < 9 → parseFieldDescriptor (TX6 k).2.2.1 = some (tyX6 k) := by decide +kernel
abbrev cX6_init : ByteArray := prog_8_method_1_code
def yX6_init : MethodName := ⟨RX6, "<init>", "(LWingLooks$Places;LWingLooks$Air;LWingLooks$Craft;)V"⟩
abbrev cX6_forget : ByteArray := prog_8_method_2_code
def yX6_forget : MethodName := ⟨RX6, "forget", "()V"⟩
abbrev cX6_learn : ByteArray := prog_8_method_3_code
def yX6_learn : MethodName := ⟨RX6, "learn", "(I)V"⟩
abbrev cX6_measureLegs : ByteArray := prog_8_method_4_code
def yX6_measureLegs : MethodName := ⟨RX6, "measureLegs", "(I)V"⟩
abbrev cX6_xOf : ByteArray := prog_8_method_5_code
def yX6_xOf : MethodName := ⟨RX6, "xOf", "(I)I"⟩
abbrev cX6_yOf : ByteArray := prog_8_method_6_code
def yX6_yOf : MethodName := ⟨RX6, "yOf", "(I)I"⟩
abbrev cX6_fillTails : ByteArray := prog_8_method_7_code
def yX6_fillTails : MethodName := ⟨RX6, "fillTails", "(I)V"⟩
abbrev cX6_costFrom : ByteArray := prog_8_method_8_code
def yX6_costFrom : MethodName := ⟨RX6, "costFrom", "(II)I"⟩
abbrev cX6_costBy : ByteArray := prog_8_method_9_code
def yX6_costBy : MethodName := ⟨RX6, "costBy", "(III)I"⟩
abbrev cX6_roundCost : ByteArray := prog_8_method_10_code
def yX6_roundCost : MethodName := ⟨RX6, "roundCost", "(I)I"⟩
abbrev cX6_hasRound : ByteArray := prog_8_method_11_code
def yX6_hasRound : MethodName := ⟨RX6, "hasRound", "(I)Z"⟩
abbrev cX6_viewAt : ByteArray := prog_8_method_12_code
def yX6_viewAt : MethodName := ⟨RX6, "viewAt", "(II)I"⟩
abbrev cX6_nextView : ByteArray := prog_8_method_13_code
def yX6_nextView : MethodName := ⟨RX6, "nextView", "(II)I"⟩
abbrev cX6_fewestTrips : ByteArray := prog_8_method_14_code
def yX6_fewestTrips : MethodName := ⟨RX6, "fewestTrips", "(I)I"⟩
abbrev cX6_cheapestTrips : ByteArray := prog_8_method_15_code
def yX6_cheapestTrips : MethodName := ⟨RX6, "cheapestTrips", "(I)I"⟩
abbrev cX6_splitUp : ByteArray := prog_8_method_16_code
def yX6_splitUp : MethodName := ⟨RX6, "splitUp", "(I)V"⟩
abbrev cX6_bestSplit : ByteArray := prog_8_method_17_code
def yX6_bestSplit : MethodName := ⟨RX6, "bestSplit", "(I)I"⟩
def RX7 : String := "WingLooks$Wings"
def TX7 : u_T := fun k => match k with
  | 0 => ("WingLooks$Wings", "startX", "[I", true)
  | 1 => ("WingLooks$Wings", "startY", "[I", true)
  | 2 => ("WingLooks$Wings", "endX", "[I", true)
  | 3 => ("WingLooks$Wings", "endY", "[I", true)
  | 4 => ("WingLooks$Wings", "size", "I", false)
  | 5 => ("WingLooks$Wings", "range", "I", false)
  | _ => ("WingLooks$Wings", "slant", "I", false)
def tyX7 : Nat → FieldType := fun k => match k with
  | 0 => .array .int
  | 1 => .array .int
  | 2 => .array .int
  | 3 => .array .int
  | 4 => .int
  | 5 => .int
  | _ => .int
abbrev wsX70 : List Cond := u_ws RX7 TX7 7
theorem nmX7 : ∀ a, a < 7 → ∀ b, b < 7 → a ≠ b → (TX7 a).2.1 ≠ (TX7 b).2.1 := by decide +kernel
theorem tyX7_ok : ∀ k, k < 7 → parseFieldDescriptor (TX7 k).2.2.1 = some (tyX7 k) := by decide +kernel
abbrev cX7_init : ByteArray := prog_9_method_1_code
def yX7_init : MethodName := ⟨RX7, "<init>", "()V"⟩
abbrev cX7_add : ByteArray := prog_9_method_2_code
def yX7_add : MethodName := ⟨RX7, "add", "(IIII)I"⟩
abbrev cX7_visibleFrom : ByteArray := prog_9_method_3_code
def yX7_visibleFrom : MethodName := ⟨RX7, "visibleFrom", "(II)I"⟩
abbrev cX7_isVisible : ByteArray := prog_9_method_4_code
def yX7_isVisible : MethodName := ⟨RX7, "isVisible", "(III)Z"⟩
abbrev cX7_isTouched : ByteArray := prog_9_method_5_code
def yX7_isTouched : MethodName := ⟨RX7, "isTouched", "(IIIII)Z"⟩
abbrev cX7_doOverlap : ByteArray := prog_9_method_6_code
def yX7_doOverlap : MethodName := ⟨RX7, "doOverlap", "(IIII)Z"⟩
abbrev cX7_areApart : ByteArray := prog_9_method_7_code
def yX7_areApart : MethodName := ⟨RX7, "areApart", "(II)Z"⟩
def RX8 : String := "WingLooks"
def TX8 : u_T := fun k => match k with
  | 0 => ("WingLooks", "wings", "LWingLooks$Wings;", true)
  | 1 => ("WingLooks", "views", "LWingLooks$Places;", true)
  | 2 => ("WingLooks", "lookout", "LWingLooks$Lookout;", true)
  | 3 => ("WingLooks", "air", "LWingLooks$Air;", true)
  | 4 => ("WingLooks", "craft", "LWingLooks$Craft;", true)
  | 5 => ("WingLooks", "logBook", "LWingLooks$LogBook;", true)
  | 6 => ("WingLooks", "markBook", "LWingLooks$MarkBook;", true)
  | _ => ("WingLooks", "routes", "LWingLooks$Routes;", false)
def tyX8 : Nat → FieldType := fun k => match k with
  | 0 => .object "WingLooks$Wings"
  | 1 => .object "WingLooks$Places"
  | 2 => .object "WingLooks$Lookout"
  | 3 => .object "WingLooks$Air"
  | 4 => .object "WingLooks$Craft"
  | 5 => .object "WingLooks$LogBook"
  | 6 => .object "WingLooks$MarkBook"
  | _ => .object "WingLooks$Routes"
abbrev wsX80 : List Cond := u_ws RX8 TX8 8
theorem nmX8 : ∀ a, a < 8 → ∀ b, b < 8 → a ≠ b → (TX8 a).2.1 ≠ (TX8 b).2.1 := by decide +kernel
theorem tyX8_ok : ∀ k, k < 8 → parseFieldDescriptor (TX8 k).2.2.1 = some (tyX8 k) := by decide +kernel
abbrev cX8_init : ByteArray := prog_1_method_1_code
def yX8_init : MethodName := ⟨RX8, "<init>", "()V"⟩
abbrev cX8_panel : ByteArray := prog_1_method_2_code
def yX8_panel : MethodName := ⟨RX8, "panel", "(IIII)I"⟩
abbrev cX8_eye : ByteArray := prog_1_method_3_code
def yX8_eye : MethodName := ⟨RX8, "eye", "(II)I"⟩
abbrev cX8_view : ByteArray := prog_1_method_4_code
def yX8_view : MethodName := ⟨RX8, "view", "(II)I"⟩
abbrev cX8_seen : ByteArray := prog_1_method_5_code
def yX8_seen : MethodName := ⟨RX8, "seen", "(III)I"⟩
abbrev cX8_sees : ByteArray := prog_1_method_6_code
def yX8_sees : MethodName := ⟨RX8, "sees", "(I)I"⟩
abbrev cX8_cover : ByteArray := prog_1_method_7_code
def yX8_cover : MethodName := ⟨RX8, "cover", "(I)I"⟩
abbrev cX8_covers : ByteArray := prog_1_method_8_code
def yX8_covers : MethodName := ⟨RX8, "covers", "(II)I"⟩
abbrev cX8_times : ByteArray := prog_1_method_9_code
def yX8_times : MethodName := ⟨RX8, "times", "(I)I"⟩
abbrev cX8_close : ByteArray := prog_1_method_10_code
def yX8_close : MethodName := ⟨RX8, "close", "(IIII)I"⟩
abbrev cX8_open : ByteArray := prog_1_method_11_code
def yX8_open : MethodName := ⟨RX8, "open", "()I"⟩
abbrev cX8_wind : ByteArray := prog_1_method_12_code
def yX8_wind : MethodName := ⟨RX8, "wind", "(II)I"⟩
abbrev cX8_base : ByteArray := prog_1_method_13_code
def yX8_base : MethodName := ⟨RX8, "base", "(II)I"⟩
abbrev cX8_store : ByteArray := prog_1_method_14_code
def yX8_store : MethodName := ⟨RX8, "store", "(II)I"⟩
abbrev cX8_leg : ByteArray := prog_1_method_15_code
def yX8_leg : MethodName := ⟨RX8, "leg", "(IIII)I"⟩
abbrev cX8_round : ByteArray := prog_1_method_16_code
def yX8_round : MethodName := ⟨RX8, "round", "(I)I"⟩
abbrev cX8_stop : ByteArray := prog_1_method_17_code
def yX8_stop : MethodName := ⟨RX8, "stop", "(II)I"⟩
abbrev cX8_flights : ByteArray := prog_1_method_18_code
def yX8_flights : MethodName := ⟨RX8, "flights", "(I)I"⟩
abbrev cX8_energy : ByteArray := prog_1_method_19_code
def yX8_energy : MethodName := ⟨RX8, "energy", "(I)I"⟩
abbrev cX8_log : ByteArray := prog_1_method_20_code
def yX8_log : MethodName := ⟨RX8, "log", "(III)I"⟩
abbrev cX8_proves : ByteArray := prog_1_method_21_code
def yX8_proves : MethodName := ⟨RX8, "proves", "(II)I"⟩
abbrev cX8_proved : ByteArray := prog_1_method_22_code
def yX8_proved : MethodName := ⟨RX8, "proved", "(I)I"⟩
abbrev cX8_missing : ByteArray := prog_1_method_23_code
def yX8_missing : MethodName := ⟨RX8, "missing", "(II)I"⟩
abbrev cX8_mark : ByteArray := prog_1_method_24_code
def yX8_mark : MethodName := ⟨RX8, "mark", "(IIII)I"⟩
abbrev cX8_wipe : ByteArray := prog_1_method_25_code
def yX8_wipe : MethodName := ⟨RX8, "wipe", "(I)I"⟩
abbrev cX8_marks : ByteArray := prog_1_method_26_code
def yX8_marks : MethodName := ⟨RX8, "marks", "(IIZ)I"⟩
abbrev cX8_match : ByteArray := prog_1_method_27_code
def yX8_match : MethodName := ⟨RX8, "match", "(IIIIZ)I"⟩
abbrev cX8_count : ByteArray := prog_1_method_28_code
def yX8_count : MethodName := ⟨RX8, "count", "(I)I"⟩
abbrev cX8_isWithin : ByteArray := prog_1_method_29_code
def yX8_isWithin : MethodName := ⟨RX8, "isWithin", "(III)Z"⟩
abbrev cX8_isPoint : ByteArray := prog_1_method_30_code
def yX8_isPoint : MethodName := ⟨RX8, "isPoint", "(II)Z"⟩
abbrev cX8_isYear : ByteArray := prog_1_method_31_code
def yX8_isYear : MethodName := ⟨RX8, "isYear", "(I)Z"⟩
abbrev cX8_asNumber : ByteArray := prog_1_method_32_code
def yX8_asNumber : MethodName := ⟨RX8, "asNumber", "(Z)I"⟩
abbrev cX8_has : ByteArray := prog_1_method_33_code
def yX8_has : MethodName := ⟨RX8, "has", "(II)Z"⟩
abbrev cX8_turn : ByteArray := prog_1_method_34_code
def yX8_turn : MethodName := ⟨RX8, "turn", "(IIIIII)I"⟩
abbrev cX8_isPanel : ByteArray := prog_1_method_35_code
def yX8_isPanel : MethodName := ⟨RX8, "isPanel", "(I)Z"⟩
abbrev cX8_isViewSet : ByteArray := prog_1_method_36_code
def yX8_isViewSet : MethodName := ⟨RX8, "isViewSet", "(I)Z"⟩
abbrev cX8_routesFor : ByteArray := prog_1_method_37_code
def yX8_routesFor : MethodName := ⟨RX8, "routesFor", "(I)LWingLooks$Routes;"⟩
abbrev cX8_forgetRoutes : ByteArray := prog_1_method_38_code
def yX8_forgetRoutes : MethodName := ⟨RX8, "forgetRoutes", "()V"⟩
def RX9 : String := "WingLooksModel"
def TX9 : u_T := fun k => match k with
  | 0 => ("WingLooksModel", "thrown", "I", false)
  | 1 => ("WingLooksModel", "panels", "I", false)
  | 2 => ("WingLooksModel", "px", "[I", true)
  | 3 => ("WingLooksModel", "py", "[I", true)
  | 4 => ("WingLooksModel", "qx", "[I", true)
  | 5 => ("WingLooksModel", "qy", "[I", true)
  | 6 => ("WingLooksModel", "range", "I", false)
  | 7 => ("WingLooksModel", "slant", "I", false)
  | 8 => ("WingLooksModel", "views", "I", false)
  | 9 => ("WingLooksModel", "vx", "[I", true)
  | 10 => ("WingLooksModel", "vy", "[I", true)
  | 11 => ("WingLooksModel", "closed", "I", false)
  | 12 => ("WingLooksModel", "lowX", "[I", true)
  | 13 => ("WingLooksModel", "lowY", "[I", true)
  | 14 => ("WingLooksModel", "highX", "[I", true)
  | 15 => ("WingLooksModel", "highY", "[I", true)
  | 16 => ("WingLooksModel", "windX", "I", false)
  | 17 => ("WingLooksModel", "windY", "I", false)
  | 18 => ("WingLooksModel", "battery", "I", false)
  | 19 => ("WingLooksModel", "hover", "I", false)
  | 20 => ("WingLooksModel", "logs", "I", false)
  | 21 => ("WingLooksModel", "lx", "[I", true)
  | 22 => ("WingLooksModel", "ly", "[I", true)
  | 23 => ("WingLooksModel", "le", "[I", true)
  | 24 => ("WingLooksModel", "marks", "I", false)
  | 25 => ("WingLooksModel", "markPanel", "[I", true)
  | 26 => ("WingLooksModel", "markAt", "[I", true)
  | 27 => ("WingLooksModel", "markLength", "[I", true)
  | 28 => ("WingLooksModel", "markYear", "[I", true)
  | 29 => ("WingLooksModel", "isWiped", "[Z", true)
  | 30 => ("WingLooksModel", "legs", "[I", true)
  | 31 => ("WingLooksModel", "rest", "[I", true)
  | 32 => ("WingLooksModel", "fewest", "[I", true)
  | 33 => ("WingLooksModel", "least", "[I", true)
  | 34 => ("WingLooksModel", "one", "[I", true)
  | 35 => ("WingLooksModel", "two", "[I", true)
  | 36 => ("WingLooksModel", "pairs", "[I", true)
  | _ => ("WingLooksModel", "drift", "[I", true)
def tyX9 : Nat → FieldType := fun k => match k with
  | 0 => .int
  | 1 => .int
  | 2 => .array .int
  | 3 => .array .int
  | 4 => .array .int
  | 5 => .array .int
  | 6 => .int
  | 7 => .int
  | 8 => .int
  | 9 => .array .int
  | 10 => .array .int
  | 11 => .int
  | 12 => .array .int
  | 13 => .array .int
  | 14 => .array .int
  | 15 => .array .int
  | 16 => .int
  | 17 => .int
  | 18 => .int
  | 19 => .int
  | 20 => .int
  | 21 => .array .int
  | 22 => .array .int
  | 23 => .array .int
  | 24 => .int
  | 25 => .array .int
  | 26 => .array .int
  | 27 => .array .int
  | 28 => .array .int
  | 29 => .array .boolean
  | 30 => .array .int
  | 31 => .array .int
  | 32 => .array .int
  | 33 => .array .int
  | 34 => .array .int
  | 35 => .array .int
  | 36 => .array .int
  | _ => .array .int
abbrev wsX90 : List Cond := u_ws RX9 TX9 38
theorem nmX9 : ∀ a, a < 38 → ∀ b, b < 38 → a ≠ b → (TX9 a).2.1 ≠ (TX9 b).2.1 := by decide +kernel
theorem tyX9_ok : ∀ k, k < 38 → parseFieldDescriptor (TX9 k).2.2.1 = some (tyX9 k) := by decide +kernel
abbrev cX9_init : ByteArray := prog_11_method_1_code
def yX9_init : MethodName := ⟨RX9, "<init>", "()V"⟩
abbrev cX9_in : ByteArray := prog_11_method_3_code
def yX9_in : MethodName := ⟨RX9, "in", "(JJJ)Z"⟩
abbrev cX9_noPoint : ByteArray := prog_11_method_4_code
def yX9_noPoint : MethodName := ⟨RX9, "noPoint", "(II)Z"⟩
abbrev cX9_noPanel : ByteArray := prog_11_method_5_code
def yX9_noPanel : MethodName := ⟨RX9, "noPanel", "(I)Z"⟩
abbrev cX9_noSet : ByteArray := prog_11_method_6_code
def yX9_noSet : MethodName := ⟨RX9, "noSet", "(I)Z"⟩
abbrev cX9_cross : ByteArray := prog_11_method_7_code
def yX9_cross : MethodName := ⟨RX9, "cross", "(IIII)I"⟩
abbrev cX9_sign : ByteArray := prog_11_method_8_code
def yX9_sign : MethodName := ⟨RX9, "sign", "(I)I"⟩
abbrev cX9_isBetween : ByteArray := prog_11_method_9_code
def yX9_isBetween : MethodName := ⟨RX9, "isBetween", "(IIIIII)Z"⟩
abbrev cX9_meet : ByteArray := prog_11_method_10_code
def yX9_meet : MethodName := ⟨RX9, "meet", "(IIIIIIII)Z"⟩
abbrev cX9_isSeen : ByteArray := prog_11_method_11_code
def yX9_isSeen : MethodName := ⟨RX9, "isSeen", "(III)Z"⟩
abbrev cX9_panel : ByteArray := prog_11_method_12_code
def yX9_panel : MethodName := ⟨RX9, "panel", "(IIII)I"⟩
abbrev cX9_eye : ByteArray := prog_11_method_13_code
def yX9_eye : MethodName := ⟨RX9, "eye", "(II)I"⟩
abbrev cX9_view : ByteArray := prog_11_method_14_code
def yX9_view : MethodName := ⟨RX9, "view", "(II)I"⟩
abbrev cX9_seen : ByteArray := prog_11_method_15_code
def yX9_seen : MethodName := ⟨RX9, "seen", "(III)I"⟩
abbrev cX9_seesOf : ByteArray := prog_11_method_16_code
def yX9_seesOf : MethodName := ⟨RX9, "seesOf", "(I)I"⟩
abbrev cX9_sees : ByteArray := prog_11_method_17_code
def yX9_sees : MethodName := ⟨RX9, "sees", "(I)I"⟩
abbrev cX9_look : ByteArray := prog_11_method_18_code
def yX9_look : MethodName := ⟨RX9, "look", "()V"⟩
abbrev cX9_timesOf : ByteArray := prog_11_method_19_code
def yX9_timesOf : MethodName := ⟨RX9, "timesOf", "(I)I"⟩
abbrev cX9_bits : ByteArray := prog_11_method_20_code
def yX9_bits : MethodName := ⟨RX9, "bits", "(I)I"⟩
abbrev cX9_cover : ByteArray := prog_11_method_21_code
def yX9_cover : MethodName := ⟨RX9, "cover", "(I)I"⟩
abbrev cX9_covers : ByteArray := prog_11_method_22_code
def yX9_covers : MethodName := ⟨RX9, "covers", "(II)I"⟩
abbrev cX9_times : ByteArray := prog_11_method_23_code
def yX9_times : MethodName := ⟨RX9, "times", "(I)I"⟩
abbrev cX9_isInside : ByteArray := prog_11_method_24_code
def yX9_isInside : MethodName := ⟨RX9, "isInside", "(IIIII)Z"⟩
abbrev cX9_legOf : ByteArray := prog_11_method_25_code
def yX9_legOf : MethodName := ⟨RX9, "legOf", "(IIII)I"⟩
abbrev cX9_close : ByteArray := prog_11_method_26_code
def yX9_close : MethodName := ⟨RX9, "close", "(IIII)I"⟩
abbrev cX9_open : ByteArray := prog_11_method_27_code
def yX9_open : MethodName := ⟨RX9, "open", "()I"⟩
abbrev cX9_wind : ByteArray := prog_11_method_28_code
def yX9_wind : MethodName := ⟨RX9, "wind", "(II)I"⟩
abbrev cX9_base : ByteArray := prog_11_method_29_code
def yX9_base : MethodName := ⟨RX9, "base", "(II)I"⟩
abbrev cX9_store : ByteArray := prog_11_method_30_code
def yX9_store : MethodName := ⟨RX9, "store", "(II)I"⟩
abbrev cX9_leg : ByteArray := prog_11_method_31_code
def yX9_leg : MethodName := ⟨RX9, "leg", "(IIII)I"⟩
abbrev cX9_fly : ByteArray := prog_11_method_32_code
def yX9_fly : MethodName := ⟨RX9, "fly", "()V"⟩
abbrev cX9_roundOf : ByteArray := prog_11_method_33_code
def yX9_roundOf : MethodName := ⟨RX9, "roundOf", "(I)I"⟩
abbrev cX9_round : ByteArray := prog_11_method_34_code
def yX9_round : MethodName := ⟨RX9, "round", "(I)I"⟩
abbrev cX9_stop : ByteArray := prog_11_method_35_code
def yX9_stop : MethodName := ⟨RX9, "stop", "(II)I"⟩
abbrev cX9_part : ByteArray := prog_11_method_36_code
def yX9_part : MethodName := ⟨RX9, "part", "()V"⟩
abbrev cX9_flights : ByteArray := prog_11_method_37_code
def yX9_flights : MethodName := ⟨RX9, "flights", "(I)I"⟩
abbrev cX9_energy : ByteArray := prog_11_method_38_code
def yX9_energy : MethodName := ⟨RX9, "energy", "(I)I"⟩
abbrev cX9_log : ByteArray := prog_11_method_39_code
def yX9_log : MethodName := ⟨RX9, "log", "(III)I"⟩
abbrev cX9_isProved : ByteArray := prog_11_method_40_code
def yX9_isProved : MethodName := ⟨RX9, "isProved", "(II)Z"⟩
abbrev cX9_proves : ByteArray := prog_11_method_41_code
def yX9_proves : MethodName := ⟨RX9, "proves", "(II)I"⟩
abbrev cX9_provedOf : ByteArray := prog_11_method_42_code
def yX9_provedOf : MethodName := ⟨RX9, "provedOf", "(I)I"⟩
abbrev cX9_proved : ByteArray := prog_11_method_43_code
def yX9_proved : MethodName := ⟨RX9, "proved", "(I)I"⟩
abbrev cX9_missing : ByteArray := prog_11_method_44_code
def yX9_missing : MethodName := ⟨RX9, "missing", "(II)I"⟩
abbrev cX9_mark : ByteArray := prog_11_method_45_code
def yX9_mark : MethodName := ⟨RX9, "mark", "(IIII)I"⟩
abbrev cX9_wipe : ByteArray := prog_11_method_46_code
def yX9_wipe : MethodName := ⟨RX9, "wipe", "(I)I"⟩
abbrev cX9_isOn : ByteArray := prog_11_method_47_code
def yX9_isOn : MethodName := ⟨RX9, "isOn", "(III)Z"⟩
abbrev cX9_marks : ByteArray := prog_11_method_48_code
def yX9_marks : MethodName := ⟨RX9, "marks", "(IIZ)I"⟩
abbrev cX9_placed : ByteArray := prog_11_method_49_code
def yX9_placed : MethodName := ⟨RX9, "placed", "(II[I)I"⟩
abbrev cX9_match : ByteArray := prog_11_method_50_code
def yX9_match : MethodName := ⟨RX9, "match", "(IIIIZ)I"⟩
abbrev cX9_take : ByteArray := prog_11_method_51_code
def yX9_take : MethodName := ⟨RX9, "take", "(IIII)V"⟩
abbrev cX9_count : ByteArray := prog_11_method_52_code
def yX9_count : MethodName := ⟨RX9, "count", "(I)I"⟩
def RJ6 : String := "java/lang/Integer"
def TJ6 : u_T := fun k => match k with
  | _ => ("", "", "", false)
def tyJ6 : Nat → FieldType := fun k => match k with
  | _ => .int
abbrev wsJ60 : List Cond := u_ws RJ6 TJ6 0
theorem nmJ6 : ∀ a, a < 0 → ∀ b, b < 0 → a ≠ b → (TJ6 a).2.1 ≠ (TJ6 b).2.1 := by decide +kernel
theorem tyJ6_ok : ∀ k, k < 0 → parseFieldDescriptor (TJ6 k).2.2.1 = some (tyJ6 k) := by decide +kernel
abbrev cJ6_bitCount_0f7a4 : ByteArray := prog_12_method_49_code
def yJ6_bitCount_0f7a4 : MethodName := ⟨RJ6, "bitCount", "(I)I"⟩
def RJ9 : String := "java/lang/Math"
def TJ9 : u_T := fun k => match k with
  | _ => ("", "", "", false)
def tyJ9 : Nat → FieldType := fun k => match k with
  | _ => .int
abbrev wsJ90 : List Cond := u_ws RJ9 TJ9 0
theorem nmJ9 : ∀ a, a < 0 → ∀ b, b < 0 → a ≠ b → (TJ9 a).2.1 ≠ (TJ9 b).2.1 := by decide +kernel
theorem tyJ9_ok : ∀ k, k < 0 → parseFieldDescriptor (TJ9 k).2.2.1 = some (tyJ9 k) := by decide +kernel
abbrev cJ9_abs_0f7a4 : ByteArray := prog_13_method_59_code
def yJ9_abs_0f7a4 : MethodName := ⟨RJ9, "abs", "(I)I"⟩
abbrev cJ9_max_7cf53 : ByteArray := prog_13_method_65_code
def yJ9_max_7cf53 : MethodName := ⟨RJ9, "max", "(II)I"⟩
abbrev cJ9_min_7cf53 : ByteArray := prog_13_method_69_code
def yJ9_min_7cf53 : MethodName := ⟨RJ9, "min", "(II)I"⟩
def RL : String := "WingLooksLaw"
abbrev cL_law : ByteArray := code
def yL_law : MethodName := ⟨RL, "law", "([I)Z"⟩
