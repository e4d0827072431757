def lo (S : Nat) : Nat := S &&& (4294967296 - S)
def ot (S : Nat) : Nat := S &&& (lo S ^^^ ff)
def nxm (o m : Nat) : Nat := (m + 4294967296 - o) &&& o
theorem neg_nI {S : Nat} (h : S < 4294967296) : -nI S = nI (4294967296 - S) := by
  apply Int32.toBitVec_inj.1
  show -BitVec.ofNat 32 S = BitVec.ofNat 32 (4294967296 - S)
  apply BitVec.eq_of_toNat_eq
  rw [BitVec.toNat_neg, BitVec.toNat_ofNat, BitVec.toNat_ofNat]
  omega
theorem lo_nI {S : Nat} (h : S < 4294967296) : nI S &&& -nI S = nI (lo S) := by rw [neg_nI h, nx_and]; rfl
theorem ot_nI (S : Nat) : nI S &&& (nI (lo S) ^^^ -1) = nI (ot S) := by rw [ff_m1, nx_xor, nx_and]; rfl
theorem nxm_nI {o m : Nat} (h : o < 4294967296) : (nI m - nI o) &&& nI o = nI (nxm o m) := by
  rw [Int32.sub_eq_add_neg, neg_nI h, nI_add, nx_and, nxm, show m + (4294967296 - o) = m + 4294967296 - o by omega]
theorem rest_nI (o m : Nat) : nI o &&& (nI m ^^^ -1) = nI (o &&& (m ^^^ ff)) := by rw [ff_m1, nx_xor, nx_and]
theorem lo_ne : ∀ S, S < 1024 → S ≠ 0 → lo S ≠ 0 ∧ ot S < S := by decide +kernel
theorem lo_sub (S : Nat) : lo S &&& S = lo S := by rw [lo, Nat.and_comm S, Nat.and_assoc, Nat.and_self]
theorem ot_sub (S : Nat) : ot S &&& S = ot S := by rw [ot, Nat.and_comm S, Nat.and_assoc, Nat.and_self]
theorem nxm_sub (o m : Nat) : nxm o m &&& o = nxm o m := by rw [nxm, Nat.and_assoc, Nat.and_self]
/-- the best split, the choices below c looked at -/
def bsm (bat : Int32) (rn sp : Nat → Int32) (u o : Nat) : Nat → Nat × Int32
  | 0 => (0, 100000000)
  | c + 1 => (nxm o (bsm bat rn sp u o c).1, if bat < rn (u ||| (bsm bat rn sp u o c).1) then (bsm bat rn sp u o c).2 else mn (bsm bat rn sp u o c).2 (1000000 + rn (u ||| (bsm bat rn sp u o c).1) + sp (o &&& ((bsm bat rn sp u o c).1 ^^^ ff))))
def bsf (bat : Int32) (rn sp : Nat → Int32) (S : Nat) : Int32 := (bsm bat rn sp (lo S) (ot S) (2 ^ pcn (ot S) 10)).2
theorem bsm_sub (bat : Int32) (rn sp : Nat → Int32) (u o c : Nat) : (bsm bat rn sp u o c).1 &&& o = (bsm bat rn sp u o c).1 := by
  cases c with
  | zero => exact Nat.zero_and o
  | succ c => rw [bsm]; exact nxm_sub _ _
theorem or_sub {P Q S : Nat} (h1 : P &&& S = P) (h2 : Q &&& S = Q) : (P ||| Q) &&& S = P ||| Q := by rw [Nat.and_or_distrib_right, h1, h2]
theorem or_ne {P Q : Nat} (h : P ≠ 0) : P ||| Q ≠ 0 := fun e => by
  have : P ≤ P ||| Q := Nat.left_le_or
  omega
theorem bsm_cg {bat : Int32} {rn rn' sp sp' : Nat → Int32} {S : Nat} (hS : S < 1024) (h0 : S ≠ 0) (hr : ∀ T, T &&& S = T → T ≠ 0 → rn T = rn' T) (hs : ∀ T, T &&& S = T → T < S → sp T = sp' T) : ∀ c, bsm bat rn sp (lo S) (ot S) c = bsm bat rn' sp' (lo S) (ot S) c := by
  intro c
  induction c with
  | zero => rfl
  | succ c ih =>
    have e1 := bsm_sub bat rn' sp' (lo S) (ot S) c
    have l := lo_ne S hS h0
    rw [bsm, bsm, ih, hr _ (or_sub (lo_sub S) (part_tr e1 (ot_sub S))) (or_ne l.1), hs _ (part_tr (by rw [Nat.and_comm (ot S), Nat.and_assoc, Nat.and_self]) (ot_sub S)) (Nat.lt_of_le_of_lt Nat.and_le_left l.2)]
theorem bsf_cg {bat : Int32} {rn rn' sp sp' : Nat → Int32} {S : Nat} (hS : S < 1024) (h0 : S ≠ 0) (hr : ∀ T, T &&& S = T → T ≠ 0 → rn T = rn' T) (hs : ∀ T, T &&& S = T → T < S → sp T = sp' T) : bsf bat rn sp S = bsf bat rn' sp' S := by rw [bsf, bsf, bsm_cg hS h0 hr hs]
def stb (bat : Int32) (rn : Nat → Int32) : Nat → Nat → Int32
  | 0 => fun _ => 0
  | n + 1 => fun S => if S = n then (if n = 0 then 0 else bsf bat rn (stb bat rn n) n) else stb bat rn n S
/-- the class's number of FLIGHTS and their ENERGY, in one -/
def SPL (bat : Int32) (rn : Nat → Int32) (S : Nat) : Int32 := stb bat rn (S + 1) S
theorem stb_lt {bat : Int32} {rn : Nat → Int32} {n S : Nat} (h : S < n) : stb bat rn n S = SPL bat rn S := by
  induction n with
  | zero => omega
  | succ n ih =>
    by_cases e : S = n
    · subst e; rfl
    · show (if S = n then _ else stb bat rn n S) = _
      rw [if_neg e]; exact ih (by omega)
theorem SPL_0 (bat : Int32) (rn : Nat → Int32) : SPL bat rn 0 = 0 := rfl
theorem SPL_eq {bat : Int32} {rn : Nat → Int32} {S : Nat} (hS : S < 1024) (h0 : S ≠ 0) : SPL bat rn S = bsf bat rn (SPL bat rn) S := by
  rw [SPL]
  show (if S = S then (if S = 0 then 0 else bsf bat rn (stb bat rn S) S) else _) = _
  rw [if_pos rfl, if_neg h0]
  exact bsf_cg hS h0 (fun _ _ _ => rfl) (fun T _ h => stb_lt h)

set_option maxHeartbeats 4000000 in
set_option maxRecDepth 100000 in
theorem k_X6_bestSplit (l : Launch) (E : ED) (q : Nat → Nat) (g : Nat → Int32) (a : Nat → Nat → Int32) (s : Nat → Int32) (t : Nat → Nat → Int32) (S : Nat) (hS : S < 1024) : RO l E yX6_bestSplit cX6_bestSplit 9 .int 1 21 [.ref (q 49), .int (nI S)] (cW E q g a s t (.ref (q 49)) (sR E q s t)) (fun r => r = bsf (g 18) (t 56) (t 57) S) := by
  refine RO.mk (by decide) (Nat.le_of_ble_eq_true rfl) [(0, .ref (q 49)), (1, .int (nI S))] rfl (fun Z B ret => ?_)
  have hlo := sub_le (lo_sub S)
  have hot := sub_le (ot_sub S)
  have hpc := pcn_le (ot S) 10
  have hpw := pow_le _ hpc
  have lp : ∀ (n_lp : Nat) (c : Nat), (2 ^ pcn (ot S) 10 - c < n_lp) → (c ≤ 2 ^ pcn (ot S) 10) → J Z 0 0 (cW E q g a s t (.ref (q 49)) (sR E q s t)) 29 [(7, .int (nI c)), (6, .int (nI (bsm (g 18) (t 56) (t 57) (lo S) (ot S) c).1)), (5, .int (bsm (g 18) (t 56) (t 57) (lo S) (ot S) c).2), (0, .ref (q 49)), (2, .int (nI (lo S))), (3, .int (nI (ot S))), (4, .int (nI (2 ^ pcn (ot S) 10)))] [] := by
    intro n_lp
    induction n_lp with
    | zero => intro c hf_lp hcc; omega
    | succ n_lp ih_lp =>
      intro c hf_lp hcc
      have hbs := bsm_sub (g 18) (t 56) (t 57) (lo S) (ot S) c
      have hbl := sub_le hbs
      have hor := Nat.or_lt_two_pow (n := 10) (x := lo S) (y := (bsm (g 18) (t 56) (t 57) (lo S) (ot S) c).1) (by omega) (by omega)
      refine i_iload B 0 dX6_bestSplit_29 rfl ?_
      refine i_iload B 6 dX6_bestSplit_31 rfl ?_
      refine i_icmp_ge B 97 dX6_bestSplit_33 (by decide) (fun h1 => ?_) (fun h1 => ?_)
      · replace h1 := q_n32.mpr h1
        rw [nI_ltI (by omega) (by omega)] at h1
        refine i_iload B 2 dX6_bestSplit_97 rfl ?_
        exact ret _ _ _ rfl dX6_bestSplit_99 (by rw [bsf, show 2 ^ pcn (ot S) 10 = c by omega])
      · replace h1 := q_m32.mp h1
        rw [nI_ltI (by omega) (by omega)] at h1
        refine i_aload_n B 3 dX6_bestSplit_36 rfl ?_
        refine i_get (v := .ref (q 56)) B flX6_18 31 rfl rfl dX6_bestSplit_37 ?_
        refine i_iload_n B 4 dX6_bestSplit_40 rfl ?_
        refine i_iload B 1 dX6_bestSplit_41 rfl ?_
        refine i_ior B dX6_bestSplit_43 ?_
        refine i_val (v' := .int (nI (lo S ||| (bsm (g 18) (t 56) (t 57) (lo S) (ot S) c).1))) (congrArg Value.int (nx_or _ _)) ?_
        refine i_ialdN B 34 (lo S ||| (bsm (g 18) (t 56) (t 57) (lo S) (ot S) c).1) rfl rfl hor (by decide) dX6_bestSplit_44 ?_
        refine i_val (v' := .int ((t 56) (lo S ||| (bsm (g 18) (t 56) (t 57) (lo S) (ot S) c).1))) rfl ?_
        refine i_istore B [(8, .int ((t 56) (lo S ||| (bsm (g 18) (t 56) (t 57) (lo S) (ot S) c).1))), (7, .int (nI c)), (6, .int (nI (bsm (g 18) (t 56) (t 57) (lo S) (ot S) c).1)), (5, .int (bsm (g 18) (t 56) (t 57) (lo S) (ot S) c).2), (0, .ref (q 49)), (2, .int (nI (lo S))), (3, .int (nI (ot S))), (4, .int (nI (2 ^ pcn (ot S) 10)))] dX6_bestSplit_45 (by decide) rfl ?_
        refine i_iload B 0 dX6_bestSplit_47 rfl ?_
        refine i_aload_n B 4 dX6_bestSplit_49 rfl ?_
        refine i_get (v := .ref (q 45)) B flX6_32 31 rfl rfl dX6_bestSplit_50 ?_
        refine i_get (v := .int (g 18)) B flX6_122 16 rfl rfl dX6_bestSplit_53 ?_
        refine i_icmp_gt B 83 dX6_bestSplit_56 (by decide) (fun h2 => ?_) (fun h2 => ?_)
        · refine i_iload B 2 dX6_bestSplit_83 rfl ?_
          refine i_iload_n B 6 dX6_bestSplit_85 rfl ?_
          refine i_isub B dX6_bestSplit_86 ?_
          refine i_iload_n B 6 dX6_bestSplit_87 rfl ?_
          refine i_iand B dX6_bestSplit_88 ?_
          refine i_val (v' := .int (nI (nxm (ot S) (bsm (g 18) (t 56) (t 57) (lo S) (ot S) c).1))) (congrArg Value.int (nxm_nI (by omega))) ?_
          refine i_istore B [(6, .int (nI (nxm (ot S) (bsm (g 18) (t 56) (t 57) (lo S) (ot S) c).1))), (8, .int ((t 56) (lo S ||| (bsm (g 18) (t 56) (t 57) (lo S) (ot S) c).1))), (7, .int (nI c)), (5, .int (bsm (g 18) (t 56) (t 57) (lo S) (ot S) c).2), (0, .ref (q 49)), (2, .int (nI (lo S))), (3, .int (nI (ot S))), (4, .int (nI (2 ^ pcn (ot S) 10)))] dX6_bestSplit_89 (by decide) rfl ?_
          refine i_iinc (v := (nI (c + 1))) B 2 [(7, .int (nI (c + 1))), (6, .int (nI (nxm (ot S) (bsm (g 18) (t 56) (t 57) (lo S) (ot S) c).1))), (8, .int ((t 56) (lo S ||| (bsm (g 18) (t 56) (t 57) (lo S) (ot S) c).1))), (5, .int (bsm (g 18) (t 56) (t 57) (lo S) (ot S) c).2), (0, .ref (q 49)), (2, .int (nI (lo S))), (3, .int (nI (ot S))), (4, .int (nI (2 ^ pcn (ot S) 10)))] dX6_bestSplit_91 rfl ((nI_1 _)) (by decide) rfl ?_
          refine i_goto B 29 dX6_bestSplit_94 (by decide) ?_
          refine i_locals [0, 1, 3, 4, 5, 6, 7] (L' := [(7, .int (nI (c + 1))), (6, .int (nI (nxm (ot S) (bsm (g 18) (t 56) (t 57) (lo S) (ot S) c).1))), (5, .int (bsm (g 18) (t 56) (t 57) (lo S) (ot S) c).2), (0, .ref (q 49)), (2, .int (nI (lo S))), (3, .int (nI (ot S))), (4, .int (nI (2 ^ pcn (ot S) 10)))]) rfl ?_
          refine i_Leq (congrArg (fun z_9 => ([(7, .int (nI (c + 1))), (6, .int z_9), (5, .int (bsm (g 18) (t 56) (t 57) (lo S) (ot S) c).2), (0, .ref (q 49)), (2, .int (nI (lo S))), (3, .int (nI (ot S))), (4, .int (nI (2 ^ pcn (ot S) 10)))] : List (Nat × Value))) (show ((nI (nxm (ot S) (bsm (g 18) (t 56) (t 57) (lo S) (ot S) c).1)) : Int32) = (nI (bsm (g 18) (t 56) (t 57) (lo S) (ot S) (c + 1)).1) from by rw [bsm])) ?_
          refine i_Leq (congrArg (fun z_9 => ([(7, .int (nI (c + 1))), (6, .int (nI (bsm (g 18) (t 56) (t 57) (lo S) (ot S) (c + 1)).1)), (5, .int z_9), (0, .ref (q 49)), (2, .int (nI (lo S))), (3, .int (nI (ot S))), (4, .int (nI (2 ^ pcn (ot S) 10)))] : List (Nat × Value))) (show ((bsm (g 18) (t 56) (t 57) (lo S) (ot S) c).2 : Int32) = (bsm (g 18) (t 56) (t 57) (lo S) (ot S) (c + 1)).2 from by rw [bsm]; simp only [h2, if_true, if_false])) ?_
          exact ih_lp (c + 1) (by omega) (by omega)
        · refine i_iload B 3 dX6_bestSplit_59 rfl ?_
          refine i_ldc B ckX6_71 dX6_bestSplit_61 ?_
          refine i_iload B 0 dX6_bestSplit_63 rfl ?_
          refine i_iadd B dX6_bestSplit_65 ?_
          refine i_aload_n B 4 dX6_bestSplit_66 rfl ?_
          refine i_get (v := .ref (q 57)) B flX6_21 31 rfl rfl dX6_bestSplit_67 ?_
          refine i_iload_n B 6 dX6_bestSplit_70 rfl ?_
          refine i_iload B 2 dX6_bestSplit_71 rfl ?_
          refine i_iconst (v := (-1)) B dX6_bestSplit_73 (by decide) ?_
          refine i_ixor B dX6_bestSplit_74 ?_
          refine i_iand B dX6_bestSplit_75 ?_
          refine i_val (v' := .int (nI (ot S &&& ((bsm (g 18) (t 56) (t 57) (lo S) (ot S) c).1 ^^^ ff)))) (congrArg Value.int (rest_nI _ _)) ?_
          refine i_ialdN B 35 (ot S &&& ((bsm (g 18) (t 56) (t 57) (lo S) (ot S) c).1 ^^^ ff)) rfl rfl (Nat.lt_of_le_of_lt Nat.and_le_left (by omega)) (by decide) dX6_bestSplit_76 ?_
          refine i_val (v' := .int ((t 57) (ot S &&& ((bsm (g 18) (t 56) (t 57) (lo S) (ot S) c).1 ^^^ ff)))) rfl ?_
          refine i_iadd B dX6_bestSplit_77 ?_
          refine i_min B mlX6_98 is_Mmin ini_java_lang_Math cd_Mmin (by decide) (Nat.le_of_ble_eq_true rfl) (by decide) dX6_bestSplit_78 ?_
          refine i_val (v' := .int (mn (bsm (g 18) (t 56) (t 57) (lo S) (ot S) c).2 ((1000000 + ((t 56) (lo S ||| (bsm (g 18) (t 56) (t 57) (lo S) (ot S) c).1))) + ((t 57) (ot S &&& ((bsm (g 18) (t 56) (t 57) (lo S) (ot S) c).1 ^^^ ff)))))) rfl ?_
          refine i_istore B [(5, .int (mn (bsm (g 18) (t 56) (t 57) (lo S) (ot S) c).2 ((1000000 + ((t 56) (lo S ||| (bsm (g 18) (t 56) (t 57) (lo S) (ot S) c).1))) + ((t 57) (ot S &&& ((bsm (g 18) (t 56) (t 57) (lo S) (ot S) c).1 ^^^ ff)))))), (8, .int ((t 56) (lo S ||| (bsm (g 18) (t 56) (t 57) (lo S) (ot S) c).1))), (7, .int (nI c)), (6, .int (nI (bsm (g 18) (t 56) (t 57) (lo S) (ot S) c).1)), (0, .ref (q 49)), (2, .int (nI (lo S))), (3, .int (nI (ot S))), (4, .int (nI (2 ^ pcn (ot S) 10)))] dX6_bestSplit_81 (by decide) rfl ?_
          refine i_iload B 3 dX6_bestSplit_83 rfl ?_
          refine i_iload_n B 6 dX6_bestSplit_85 rfl ?_
          refine i_isub B dX6_bestSplit_86 ?_
          refine i_iload_n B 6 dX6_bestSplit_87 rfl ?_
          refine i_iand B dX6_bestSplit_88 ?_
          refine i_val (v' := .int (nI (nxm (ot S) (bsm (g 18) (t 56) (t 57) (lo S) (ot S) c).1))) (congrArg Value.int (nxm_nI (by omega))) ?_
          refine i_istore B [(6, .int (nI (nxm (ot S) (bsm (g 18) (t 56) (t 57) (lo S) (ot S) c).1))), (5, .int (mn (bsm (g 18) (t 56) (t 57) (lo S) (ot S) c).2 ((1000000 + ((t 56) (lo S ||| (bsm (g 18) (t 56) (t 57) (lo S) (ot S) c).1))) + ((t 57) (ot S &&& ((bsm (g 18) (t 56) (t 57) (lo S) (ot S) c).1 ^^^ ff)))))), (8, .int ((t 56) (lo S ||| (bsm (g 18) (t 56) (t 57) (lo S) (ot S) c).1))), (7, .int (nI c)), (0, .ref (q 49)), (2, .int (nI (lo S))), (3, .int (nI (ot S))), (4, .int (nI (2 ^ pcn (ot S) 10)))] dX6_bestSplit_89 (by decide) rfl ?_
          refine i_iinc (v := (nI (c + 1))) B 3 [(7, .int (nI (c + 1))), (6, .int (nI (nxm (ot S) (bsm (g 18) (t 56) (t 57) (lo S) (ot S) c).1))), (5, .int (mn (bsm (g 18) (t 56) (t 57) (lo S) (ot S) c).2 ((1000000 + ((t 56) (lo S ||| (bsm (g 18) (t 56) (t 57) (lo S) (ot S) c).1))) + ((t 57) (ot S &&& ((bsm (g 18) (t 56) (t 57) (lo S) (ot S) c).1 ^^^ ff)))))), (8, .int ((t 56) (lo S ||| (bsm (g 18) (t 56) (t 57) (lo S) (ot S) c).1))), (0, .ref (q 49)), (2, .int (nI (lo S))), (3, .int (nI (ot S))), (4, .int (nI (2 ^ pcn (ot S) 10)))] dX6_bestSplit_91 rfl ((nI_1 _)) (by decide) rfl ?_
          refine i_goto B 29 dX6_bestSplit_94 (by decide) ?_
          refine i_locals [0, 1, 2, 4, 5, 6, 7] (L' := [(7, .int (nI (c + 1))), (6, .int (nI (nxm (ot S) (bsm (g 18) (t 56) (t 57) (lo S) (ot S) c).1))), (5, .int (mn (bsm (g 18) (t 56) (t 57) (lo S) (ot S) c).2 ((1000000 + ((t 56) (lo S ||| (bsm (g 18) (t 56) (t 57) (lo S) (ot S) c).1))) + ((t 57) (ot S &&& ((bsm (g 18) (t 56) (t 57) (lo S) (ot S) c).1 ^^^ ff)))))), (0, .ref (q 49)), (2, .int (nI (lo S))), (3, .int (nI (ot S))), (4, .int (nI (2 ^ pcn (ot S) 10)))]) rfl ?_
          refine i_Leq (congrArg (fun z_9 => ([(7, .int (nI (c + 1))), (6, .int z_9), (5, .int (mn (bsm (g 18) (t 56) (t 57) (lo S) (ot S) c).2 ((1000000 + ((t 56) (lo S ||| (bsm (g 18) (t 56) (t 57) (lo S) (ot S) c).1))) + ((t 57) (ot S &&& ((bsm (g 18) (t 56) (t 57) (lo S) (ot S) c).1 ^^^ ff)))))), (0, .ref (q 49)), (2, .int (nI (lo S))), (3, .int (nI (ot S))), (4, .int (nI (2 ^ pcn (ot S) 10)))] : List (Nat × Value))) (show ((nI (nxm (ot S) (bsm (g 18) (t 56) (t 57) (lo S) (ot S) c).1)) : Int32) = (nI (bsm (g 18) (t 56) (t 57) (lo S) (ot S) (c + 1)).1) from by rw [bsm])) ?_
          refine i_Leq (congrArg (fun z_9 => ([(7, .int (nI (c + 1))), (6, .int (nI (bsm (g 18) (t 56) (t 57) (lo S) (ot S) (c + 1)).1)), (5, .int z_9), (0, .ref (q 49)), (2, .int (nI (lo S))), (3, .int (nI (ot S))), (4, .int (nI (2 ^ pcn (ot S) 10)))] : List (Nat × Value))) (show ((mn (bsm (g 18) (t 56) (t 57) (lo S) (ot S) c).2 ((1000000 + ((t 56) (lo S ||| (bsm (g 18) (t 56) (t 57) (lo S) (ot S) c).1))) + ((t 57) (ot S &&& ((bsm (g 18) (t 56) (t 57) (lo S) (ot S) c).1 ^^^ ff))))) : Int32) = (bsm (g 18) (t 56) (t 57) (lo S) (ot S) (c + 1)).2 from by rw [bsm]; simp only [h2, if_true, if_false])) ?_
          exact ih_lp (c + 1) (by omega) (by omega)
  refine i_iload_n B 1 dX6_bestSplit_0 rfl ?_
  refine i_iload_n B 1 dX6_bestSplit_1 rfl ?_
  refine i_ineg B dX6_bestSplit_2 ?_
  refine i_iand B dX6_bestSplit_3 ?_
  refine i_val (v' := .int (nI (lo S))) (congrArg Value.int (lo_nI (by omega))) ?_
  refine i_istore_n B [(2, .int (nI (lo S))), (0, .ref (q 49)), (1, .int (nI S))] dX6_bestSplit_4 (by decide) rfl ?_
  refine i_iload_n B 2 dX6_bestSplit_5 rfl ?_
  refine i_iload_n B 0 dX6_bestSplit_6 rfl ?_
  refine i_iconst (v := (-1)) B dX6_bestSplit_7 (by decide) ?_
  refine i_ixor B dX6_bestSplit_8 ?_
  refine i_iand B dX6_bestSplit_9 ?_
  refine i_val (v' := .int (nI (ot S))) (congrArg Value.int (ot_nI S)) ?_
  refine i_istore_n B [(3, .int (nI (ot S))), (2, .int (nI (lo S))), (0, .ref (q 49)), (1, .int (nI S))] dX6_bestSplit_10 (by decide) rfl ?_
  refine i_iconst (v := 1) B dX6_bestSplit_11 (by decide) ?_
  refine i_iload_n B 0 dX6_bestSplit_12 rfl ?_
  refine c_roS (rest := [.int 1]) (As := [.int (nI (ot S))]) B (k_J6_bitCount_0f7a4 l E (nI (ot S))) cal_yJ6_bitCount_0f7a4 is_yJ6_bitCount_0f7a4 mlX6_107 (by decide) (by decide) rfl (Nat.le_of_ble_eq_true rfl) Has.nil _ rfl dX6_bestSplit_13 (fun r hr => ?_)
  subst hr
  refine i_val (v' := .int (bct (nI (ot S)))) rfl ?_
  refine i_val (v' := .int (nI (pcn (ot S) 10))) (congrArg Value.int (bct_pc (ot S) (by omega))) ?_
  refine i_ishl B dX6_bestSplit_16 ?_
  refine i_val (v' := .int (nI (2 ^ pcn (ot S) 10))) (congrArg Value.int (shl1 _ (by omega))) ?_
  refine i_istore B [(4, .int (nI (2 ^ pcn (ot S) 10))), (3, .int (nI (ot S))), (2, .int (nI (lo S))), (0, .ref (q 49)), (1, .int (nI S))] dX6_bestSplit_17 (by decide) rfl ?_
  refine i_ldc B ckX6_118 dX6_bestSplit_19 ?_
  refine i_istore B [(5, .int 100000000), (4, .int (nI (2 ^ pcn (ot S) 10))), (3, .int (nI (ot S))), (2, .int (nI (lo S))), (0, .ref (q 49)), (1, .int (nI S))] dX6_bestSplit_21 (by decide) rfl ?_
  refine i_iconst (v := 0) B dX6_bestSplit_23 (by decide) ?_
  refine i_istore B [(6, .int 0), (5, .int 100000000), (4, .int (nI (2 ^ pcn (ot S) 10))), (3, .int (nI (ot S))), (2, .int (nI (lo S))), (0, .ref (q 49)), (1, .int (nI S))] dX6_bestSplit_24 (by decide) rfl ?_
  refine i_iconst (v := 0) B dX6_bestSplit_26 (by decide) ?_
  refine i_istore B [(7, .int 0), (6, .int 0), (5, .int 100000000), (4, .int (nI (2 ^ pcn (ot S) 10))), (3, .int (nI (ot S))), (2, .int (nI (lo S))), (0, .ref (q 49)), (1, .int (nI S))] dX6_bestSplit_27 (by decide) rfl ?_
  refine i_locals [0, 1, 2, 6, 5, 4, 3] (L' := [(7, .int 0), (6, .int 0), (5, .int 100000000), (0, .ref (q 49)), (2, .int (nI (lo S))), (3, .int (nI (ot S))), (4, .int (nI (2 ^ pcn (ot S) 10)))]) rfl ?_
  refine i_Leq (congrArg (fun z_9 => ([(7, .int z_9), (6, .int 0), (5, .int 100000000), (0, .ref (q 49)), (2, .int (nI (lo S))), (3, .int (nI (ot S))), (4, .int (nI (2 ^ pcn (ot S) 10)))] : List (Nat × Value))) (show (0 : Int32) = (nI 0) from rfl)) ?_
  refine i_Leq (congrArg (fun z_9 => ([(7, .int (nI 0)), (6, .int z_9), (5, .int 100000000), (0, .ref (q 49)), (2, .int (nI (lo S))), (3, .int (nI (ot S))), (4, .int (nI (2 ^ pcn (ot S) 10)))] : List (Nat × Value))) (show (0 : Int32) = (nI (bsm (g 18) (t 56) (t 57) (lo S) (ot S) 0).1) from rfl)) ?_
  refine i_Leq (congrArg (fun z_9 => ([(7, .int (nI 0)), (6, .int (nI (bsm (g 18) (t 56) (t 57) (lo S) (ot S) 0).1)), (5, .int z_9), (0, .ref (q 49)), (2, .int (nI (lo S))), (3, .int (nI (ot S))), (4, .int (nI (2 ^ pcn (ot S) 10)))] : List (Nat × Value))) (show (100000000 : Int32) = (bsm (g 18) (t 56) (t 57) (lo S) (ot S) 0).2 from rfl)) ?_
  exact lp (2 ^ pcn (ot S) 10 + 1) 0 (Nat.lt_succ_of_le (Nat.sub_le _ _)) (Nat.zero_le _)

def SV (bat : Int32) (rn sp : Nat → Int32) (SS : Nat) : Prop := ∀ T : Nat, T &&& SS = T → sp T = SPL bat rn T
theorem rd_rnd {lg : Nat → Nat → Int32} {hov : Int32} {nv RS : Nat} {lc tl rd : Nat → Int32} (h : RV lg hov nv lc tl rd RS) {T : Nat} (hT : T &&& RS = T) (h0 : T ≠ 0) : rd T = rnd lg hov nv T := by rw [h.2.2 T hT h0, rnd, if_neg (by simp [h0])]

set_option maxHeartbeats 4000000 in
set_option maxRecDepth 100000 in
theorem k_X6_splitUp (l : Launch) (E : ED) (q : Nat → Nat) (g : Nat → Int32) (a : Nat → Nat → Int32) (s : Nat → Int32) (t : Nat → Nat → Int32) (nc nv : Nat) (RS S : Nat) (hrv : RV (lgm g a nc nv) (g 19) nv (t 54) (t 55) (t 56) RS) (hRS : RS < 2 ^ nv) (hSR : S &&& RS = S) (hnv : nv ≤ 10) (SS : Nat) (hSS : SS < 2 ^ nv) (hs64 : s 64 = nI SS) (hsv : SV (g 18) (rnd (lgm g a nc nv) (g 19) nv) (t 57) SS) : WV l E yX6_splitUp cX6_splitUp 3 2 49 0 0 [.ref (q 49), .int (nI S)] (cW E q g a s t (.ref (q 49)) (sR E q s t)) (fun u : (Nat → Int32) × Nat => SV (g 18) (rnd (lgm g a nc nv) (g 19) nv) u.1 u.2 ∧ S &&& u.2 = S ∧ u.2 < 2 ^ nv) (fun u => (cW E q g a (upd s 64 (nI u.2)) (va_up t 57 u.1) (.ref (q 49)) (sR E q (upd s 64 (nI u.2)) (va_up t 57 u.1)))) := by
  refine WV.mk (by decide) (Nat.le_of_ble_eq_true rfl) [(0, .ref (q 49)), (1, .int (nI S))] rfl (fun Z B hI ret => ?_)
  have hpw := pow_le nv hnv
  have hSl := sub_le hSR
  have lp : ∀ (n_lp : Nat) (P : Nat) (sp : Nat → Int32), (S + 1 - P < n_lp) → (1 ≤ P) → (P ≤ S + 1) → (∀ T : Nat, T < P → T &&& S = T → sp T = SPL (g 18) (rnd (lgm g a nc nv) (g 19) nv) T) → J Z 0 0 (cW E q g a s (va_up t 57 sp) (.ref (q 49)) (sR E q s (va_up t 57 sp))) 14 [(2, .int (nI P)), (0, .ref (q 49)), (1, .int (nI S))] [] := by
    intro n_lp
    induction n_lp with
    | zero => intro P sp hf_lp hP1 hP2 hSp; omega
    | succ n_lp ih_lp =>
      intro P sp hf_lp hP1 hP2 hSp
      refine i_iload_n B 0 dX6_splitUp_14 rfl ?_
      refine i_iload_n B 2 dX6_splitUp_15 rfl ?_
      refine i_icmp_gt B 44 dX6_splitUp_16 (by decide) (fun h1 => ?_) (fun h1 => ?_)
      · rw [nI_ltI (by omega) (by omega)] at h1
        refine i_aload_n B 1 dX6_splitUp_44 rfl ?_
        refine i_iload_n B 2 dX6_splitUp_45 rfl ?_
        refine i_put B flX6_40 31 (cW E q g a (upd s 64 (nI S)) (va_up t 57 sp) (.ref (q 49)) (sR E q (upd s 64 (nI S)) (va_up t 57 sp))) rfl rfl rfl rfl (Nat.le_of_ble_eq_true rfl) rfl dX6_splitUp_46 ?_
        exact ret _ _ (sp, S) dX6_splitUp_49 (⟨fun T k => hSp T (by have := sub_le (S := S) (t := T) k; omega) k, Nat.and_self S, by omega⟩)
      · rw [nI_ltI (by omega) (by omega)] at h1
        refine i_iload_n B 0 dX6_splitUp_19 rfl ?_
        refine i_iload_n B 2 dX6_splitUp_20 rfl ?_
        refine i_iconst (v := (-1)) B dX6_splitUp_21 (by decide) ?_
        refine i_ixor B dX6_splitUp_22 ?_
        refine i_iand B dX6_splitUp_23 ?_
        refine i_if_ne B 38 dX6_splitUp_24 (by decide) (fun h2 => ?_) (fun h2 => ?_)
        · rw [andn_iff (by omega) (by omega)] at h2
          have h2d := decide_eq_false h2
          refine i_iinc (v := (nI (P + 1))) B 0 [(2, .int (nI (P + 1))), (0, .ref (q 49)), (1, .int (nI S))] dX6_splitUp_38 rfl ((nI_1 _)) (by decide) rfl ?_
          refine i_goto B 14 dX6_splitUp_41 (by decide) ?_
          exact ih_lp (P + 1) sp (by omega) (by omega) (by omega) (fun T k1 k2 => by (by_cases e : T = P; (subst e; exact absurd k2 h2); (exact hSp T (by omega) k2)))
        · rw [andn_iff (by omega) (by omega)] at h2
          have h2d := decide_eq_true h2
          refine i_aload_n B 1 dX6_splitUp_27 rfl ?_
          refine i_get (v := .ref (q 57)) B flX6_21 31 rfl rfl dX6_splitUp_28 ?_
          refine i_iload_n B 0 dX6_splitUp_31 rfl ?_
          refine i_aload_n B 1 dX6_splitUp_32 rfl ?_
          refine i_iload_n B 0 dX6_splitUp_33 rfl ?_
          refine c_roV (rest := [.int (nI P), .ref (q 57)]) (As := [.int (nI P)]) B (k_X6_bestSplit l E q g a s (va_up t 57 sp) P (by omega)) cal_yX6_bestSplit iv_yX6_bestSplit mlX6_119 rfl 31 rfl (by decide) (by decide) rfl (Nat.le_of_ble_eq_true rfl) Has.rf _ rfl dX6_splitUp_34 (fun r hr => ?_)
          subst hr
          refine i_val (v' := .int (bsf (g 18) (t 56) sp P)) rfl ?_
          refine j_nameI (fun w1 ew1 => ?_)
          refine i_iastN (f := sp) B 35 P (cW E q g a s (va_up t 57 (upd sp P w1)) (.ref (q 49)) (sR E q s (va_up t 57 (upd sp P w1)))) rfl rfl (by omega) (by decide) rfl dX6_splitUp_37 ?_
          refine i_iinc (v := (nI (P + 1))) B 0 [(2, .int (nI (P + 1))), (0, .ref (q 49)), (1, .int (nI S))] dX6_splitUp_38 rfl ((nI_1 _)) (by decide) rfl ?_
          refine i_goto B 14 dX6_splitUp_41 (by decide) ?_
          exact ih_lp (P + 1) (upd sp P w1) (by omega) (by omega) (by omega) (fun T k1 k2 => by (by_cases e : T = P; (subst e; rw [pk_us, ew1, SPL_eq (by omega) (by omega)]; exact bsf_cg (by omega) (by omega) (fun T9 q1 q2 => rd_rnd hrv (part_tr q1 (part_tr k2 hSR)) q2) (fun T9 q1 q2 => hSp T9 q2 (part_tr q1 k2))); (rw [pk_un e]; exact hSp T (by omega) k2)))
  refine i_iload_n B 1 dX6_splitUp_0 rfl ?_
  refine i_aload_n B 0 dX6_splitUp_1 rfl ?_
  refine i_get (v := .int (s 64)) B flX6_40 31 rfl rfl dX6_splitUp_2 ?_
  refine i_iconst (v := (-1)) B dX6_splitUp_5 (by decide) ?_
  refine i_ixor B dX6_splitUp_6 ?_
  refine i_iand B dX6_splitUp_7 ?_
  refine i_if_ne B 12 dX6_splitUp_8 (by decide) (fun h3 => ?_) (fun h3 => ?_)
  · rw [hs64, andn_iff (by omega) (by omega)] at h3
    have h3d := decide_eq_false h3
    refine i_iconst (v := 1) B dX6_splitUp_12 (by decide) ?_
    refine i_istore_n B [(2, .int 1), (0, .ref (q 49)), (1, .int (nI S))] dX6_splitUp_13 (by decide) rfl ?_
    refine i_Leq (congrArg (fun z_9 => ([(2, .int z_9), (0, .ref (q 49)), (1, .int (nI S))] : List (Nat × Value))) (show (1 : Int32) = (nI 1) from rfl)) ?_
    refine i_world (ws' := (cW E q g a s (va_up t 57 (t 57)) (.ref (q 49)) (sR E q s (va_up t 57 (t 57))))) (rfl) ?_
    exact lp (S + 2) 1 (t 57) (by omega) (Nat.le_refl _) (by omega) (fun T k1 k2 => by (have : T = 0 := (by omega); subst this; exact hsv 0 (Nat.zero_and _)))
  · rw [hs64, andn_iff (by omega) (by omega)] at h3
    have h3d := decide_eq_true h3
    refine i_world (ws' := (cW E q g a (upd s 64 (nI SS)) (va_up t 57 (t 57)) (.ref (q 49)) (sR E q (upd s 64 (nI SS)) (va_up t 57 (t 57))))) (by rw [← hs64]; rfl) ?_
    exact ret _ _ (t 57, SS) dX6_splitUp_11 (⟨hsv, h3, hSS⟩)

set_option maxHeartbeats 4000000 in
set_option maxRecDepth 100000 in
theorem k_X6_fewestTrips (l : Launch) (E : ED) (q : Nat → Nat) (g : Nat → Int32) (a : Nat → Nat → Int32) (s : Nat → Int32) (t : Nat → Nat → Int32) (nc nv : Nat) (RS S : Nat) (hrv : RV (lgm g a nc nv) (g 19) nv (t 54) (t 55) (t 56) RS) (hRS : RS < 2 ^ nv) (hSR : S &&& RS = S) (hnv : nv ≤ 10) (SS : Nat) (hSS : SS < 2 ^ nv) (hs64 : s 64 = nI SS) (hsv : SV (g 18) (rnd (lgm g a nc nv) (g 19) nv) (t 57) SS) : WR l E yX6_fewestTrips cX6_fewestTrips 2 .int 3 71 0 0 [.ref (q 49), .int (nI S)] (cW E q g a s t (.ref (q 49)) (sR E q s t)) (fun r (u : (Nat → Int32) × Nat) => r = (if SPL (g 18) (rnd (lgm g a nc nv) (g 19) nv) S < 100000000 then (SPL (g 18) (rnd (lgm g a nc nv) (g 19) nv) S / 1000000) else -9) ∧ SV (g 18) (rnd (lgm g a nc nv) (g 19) nv) u.1 u.2 ∧ u.2 < 2 ^ nv) (fun u => (cW E q g a (upd s 64 (nI u.2)) (va_up t 57 u.1) (.ref (q 49)) (sR E q (upd s 64 (nI u.2)) (va_up t 57 u.1)))) := by
  refine WR.mk (by decide) (Nat.le_of_ble_eq_true rfl) [(0, .ref (q 49)), (1, .int (nI S))] rfl (fun Z B ret => ?_)
  have hpw := pow_le nv hnv
  have hSl := sub_le hSR
  refine i_aload_n B 0 dX6_fewestTrips_0 rfl ?_
  refine i_iload_n B 1 dX6_fewestTrips_1 rfl ?_
  refine c_wvV (cells := 0) (slots := 0) (rest := []) (As := [.int (nI S)]) B (k_X6_splitUp l E q g a s t nc nv RS S hrv hRS hSR hnv SS hSS hs64 hsv) cal_yX6_splitUp iv_yX6_splitUp mlX6_115 rfl 31 rfl (by decide) (by decide) rfl (Nat.le_of_ble_eq_true rfl) ([]) ([]) rfl _ rfl dX6_fewestTrips_2 (fun ⟨sp, S2⟩ hr => ?_)
  dsimp only at hr
  obtain ⟨hv9, hs9, hl9⟩ := hr
  refine i_world (ws' := (cW E q g a (upd s 64 (nI S2)) (va_up t 57 sp) (.ref (q 49)) (sR E q (upd s 64 (nI S2)) (va_up t 57 sp)))) rfl ?_
  refine i_aload_n B 0 dX6_fewestTrips_5 rfl ?_
  refine i_get (v := .ref (q 57)) B flX6_21 31 rfl rfl dX6_fewestTrips_6 ?_
  refine i_iload_n B 1 dX6_fewestTrips_9 rfl ?_
  refine i_ialdN B 35 S rfl rfl (by omega) (by decide) dX6_fewestTrips_10 ?_
  refine i_val (v' := .int (sp S)) rfl ?_
  refine i_val (v' := .int (SPL (g 18) (rnd (lgm g a nc nv) (g 19) nv) S)) (congrArg Value.int (hv9 S hs9)) ?_
  refine i_ldc B ckX6_118 dX6_fewestTrips_11 ?_
  refine i_icmp_ge B 28 dX6_fewestTrips_13 (by decide) (fun h1 => ?_) (fun h1 => ?_)
  · replace h1 := q_n32.mpr h1
    refine i_bipush (v := (-9)) B dX6_fewestTrips_28 (by decide) ?_
    exact ret _ _ _ (sp, S2) rfl dX6_fewestTrips_30 (⟨by simp only [h1, if_true, if_false], hv9, hl9⟩)
  · replace h1 := q_m32.mp h1
    refine i_aload_n B 0 dX6_fewestTrips_16 rfl ?_
    refine i_get (v := .ref (q 57)) B flX6_21 31 rfl rfl dX6_fewestTrips_17 ?_
    refine i_iload_n B 1 dX6_fewestTrips_20 rfl ?_
    refine i_ialdN B 35 S rfl rfl (by omega) (by decide) dX6_fewestTrips_21 ?_
    refine i_val (v' := .int (sp S)) rfl ?_
    refine i_val (v' := .int (SPL (g 18) (rnd (lgm g a nc nv) (g 19) nv) S)) (congrArg Value.int (hv9 S hs9)) ?_
    refine i_ldc B ckX6_71 dX6_fewestTrips_22 ?_
    refine i_idiv B dX6_fewestTrips_24 (by decide) ?_
    refine i_goto B 30 dX6_fewestTrips_25 (by decide) ?_
    exact ret _ _ _ (sp, S2) rfl dX6_fewestTrips_30 (⟨by simp only [h1, if_true, if_false], hv9, hl9⟩)

set_option maxHeartbeats 4000000 in
set_option maxRecDepth 100000 in
theorem k_X6_cheapestTrips (l : Launch) (E : ED) (q : Nat → Nat) (g : Nat → Int32) (a : Nat → Nat → Int32) (s : Nat → Int32) (t : Nat → Nat → Int32) (nc nv : Nat) (RS S : Nat) (hrv : RV (lgm g a nc nv) (g 19) nv (t 54) (t 55) (t 56) RS) (hRS : RS < 2 ^ nv) (hSR : S &&& RS = S) (hnv : nv ≤ 10) (SS : Nat) (hSS : SS < 2 ^ nv) (hs64 : s 64 = nI SS) (hsv : SV (g 18) (rnd (lgm g a nc nv) (g 19) nv) (t 57) SS) : WR l E yX6_cheapestTrips cX6_cheapestTrips 2 .int 3 71 0 0 [.ref (q 49), .int (nI S)] (cW E q g a s t (.ref (q 49)) (sR E q s t)) (fun r (u : (Nat → Int32) × Nat) => r = (if SPL (g 18) (rnd (lgm g a nc nv) (g 19) nv) S < 100000000 then (SPL (g 18) (rnd (lgm g a nc nv) (g 19) nv) S - SPL (g 18) (rnd (lgm g a nc nv) (g 19) nv) S / 1000000 * 1000000) else -9) ∧ SV (g 18) (rnd (lgm g a nc nv) (g 19) nv) u.1 u.2 ∧ u.2 < 2 ^ nv) (fun u => (cW E q g a (upd s 64 (nI u.2)) (va_up t 57 u.1) (.ref (q 49)) (sR E q (upd s 64 (nI u.2)) (va_up t 57 u.1)))) := by
  refine WR.mk (by decide) (Nat.le_of_ble_eq_true rfl) [(0, .ref (q 49)), (1, .int (nI S))] rfl (fun Z B ret => ?_)
  have hpw := pow_le nv hnv
  have hSl := sub_le hSR
  refine i_aload_n B 0 dX6_cheapestTrips_0 rfl ?_
  refine i_iload_n B 1 dX6_cheapestTrips_1 rfl ?_
  refine c_wvV (cells := 0) (slots := 0) (rest := []) (As := [.int (nI S)]) B (k_X6_splitUp l E q g a s t nc nv RS S hrv hRS hSR hnv SS hSS hs64 hsv) cal_yX6_splitUp iv_yX6_splitUp mlX6_115 rfl 31 rfl (by decide) (by decide) rfl (Nat.le_of_ble_eq_true rfl) ([]) ([]) rfl _ rfl dX6_cheapestTrips_2 (fun ⟨sp, S2⟩ hr => ?_)
  dsimp only at hr
  obtain ⟨hv9, hs9, hl9⟩ := hr
  refine i_world (ws' := (cW E q g a (upd s 64 (nI S2)) (va_up t 57 sp) (.ref (q 49)) (sR E q (upd s 64 (nI S2)) (va_up t 57 sp)))) rfl ?_
  refine i_aload_n B 0 dX6_cheapestTrips_5 rfl ?_
  refine i_get (v := .ref (q 57)) B flX6_21 31 rfl rfl dX6_cheapestTrips_6 ?_
  refine i_iload_n B 1 dX6_cheapestTrips_9 rfl ?_
  refine i_ialdN B 35 S rfl rfl (by omega) (by decide) dX6_cheapestTrips_10 ?_
  refine i_val (v' := .int (sp S)) rfl ?_
  refine i_val (v' := .int (SPL (g 18) (rnd (lgm g a nc nv) (g 19) nv) S)) (congrArg Value.int (hv9 S hs9)) ?_
  refine i_ldc B ckX6_118 dX6_cheapestTrips_11 ?_
  refine i_icmp_ge B 28 dX6_cheapestTrips_13 (by decide) (fun h1 => ?_) (fun h1 => ?_)
  · replace h1 := q_n32.mpr h1
    refine i_bipush (v := (-9)) B dX6_cheapestTrips_28 (by decide) ?_
    exact ret _ _ _ (sp, S2) rfl dX6_cheapestTrips_30 (⟨by simp only [h1, if_true, if_false], hv9, hl9⟩)
  · replace h1 := q_m32.mp h1
    refine i_aload_n B 0 dX6_cheapestTrips_16 rfl ?_
    refine i_get (v := .ref (q 57)) B flX6_21 31 rfl rfl dX6_cheapestTrips_17 ?_
    refine i_iload_n B 1 dX6_cheapestTrips_20 rfl ?_
    refine i_ialdN B 35 S rfl rfl (by omega) (by decide) dX6_cheapestTrips_21 ?_
    refine i_val (v' := .int (sp S)) rfl ?_
    refine i_val (v' := .int (SPL (g 18) (rnd (lgm g a nc nv) (g 19) nv) S)) (congrArg Value.int (hv9 S hs9)) ?_
    refine i_ldc B ckX6_71 dX6_cheapestTrips_22 ?_
    refine i_irem B dX6_cheapestTrips_24 (by decide) ?_
    refine i_goto B 30 dX6_cheapestTrips_25 (by decide) ?_
    exact ret _ _ _ (sp, S2) rfl dX6_cheapestTrips_30 (⟨by simp only [h1, if_true, if_false], hv9, hl9⟩)
