theorem shl1 : ∀ n, n ≤ 10 → (1 : Int32) <<< (nI n &&& 31) = nI (2 ^ n) := by decide
theorem pow_le : ∀ n, n ≤ 10 → 2 ^ n ≤ 1024 := by decide
/-- a number within 0 .. n - 1 -/
theorem wit_ix {x : Int32} {n : Nat} (hn : n ≤ 100) (h : wit x 0 (nI n - 1) = true) : ∃ j : Nat, j < n ∧ x = nI j := by
  unfold wit at h
  simp only [Bool.and_eq_true, Bool.not_eq_true', decide_eq_false_iff_not] at h
  obtain ⟨h1, h2⟩ := h
  obtain ⟨j, hj, rfl⟩ := nI_of h1
  refine ⟨j, ?_, rfl⟩
  rw [Int32.lt_iff_toInt_lt, nI_toInt hj] at h2
  have e : (nI n - 1).toInt = (n : Int) - 1 := by
    have := pk_sub_toInt (a := n) (b := 1) (by omega) (by omega)
    exact this
  rw [e] at h2
  omega
theorem ix_wit {j n : Nat} (hn : n ≤ 100) (h : j < n) : wit (nI j) 0 (nI n - 1) = true := by
  unfold wit
  have e : (nI n - 1).toInt = (n : Int) - 1 := pk_sub_toInt (a := n) (b := 1) (by omega) (by omega)
  have h1 : ¬ nI j < 0 := nI_pos (by omega)
  have h2 : ¬ nI n - 1 < nI j := by
    rw [Int32.lt_iff_toInt_lt, nI_toInt (by omega), e]
    omega
  simp only [h1, h2, decide_false, Bool.not_false, Bool.and_self]
def ix (x : Int32) : Nat := x.toNatClampNeg
theorem ix_nI {j : Nat} (h : j < 2 ^ 31) : ix (nI j) = j := nI_clamp h
theorem clr_cg {a b : Nat → Nat → Int32} (h2 : b 2 = a 2) (h3 : b 3 = a 3) (h4 : b 4 = a 4) (h5 : b 5 = a 5) (x y : Int32) (p k : Nat) : clr b x y p k = clr a x y p k := by
  induction k with
  | zero => rfl
  | succ k ih => simp only [clr, ih, sno, smx, smy, h2, h3, h4, h5]
theorem sn_cg {g : Nat → Int32} {a b : Nat → Nat → Int32} (h2 : b 2 = a 2) (h3 : b 3 = a 3) (h4 : b 4 = a 4) (h5 : b 5 = a 5) (np : Nat) (x y : Int32) (p : Nat) : sn g b np x y p = sn g a np x y p := by
  have e1 : sdx b p = sdx a p := by rw [sdx, sdx, h4, h2]
  have e2 : sdy b p = sdy a p := by rw [sdy, sdy, h5, h3]
  have e3 : swx b x p = swx a x p := by rw [swx, swx, smx, smx, h4, h2]
  have e4 : swy b y p = swy a y p := by rw [swy, swy, smy, smy, h5, h3]
  have e5 : sway b x y p = sway a x y p := by rw [sway, sway, e3, e4]
  have e6 : slong b p = slong a p := by rw [slong, slong, e1, e2]
  have e7 : sacr b x y p = sacr a x y p := by rw [sacr, sacr, e1, e2, e3, e4]
  rw [sn, sn, clr_cg h2 h3 h4 h5, sn1, sn1, e1, e2, e5, e6, e7, h2, h3]
theorem seb_cg {g : Nat → Int32} {a b : Nat → Nat → Int32} (h2 : b 2 = a 2) (h3 : b 3 = a 3) (h4 : b 4 = a 4) (h5 : b 5 = a 5) (h9 : b 9 = a 9) (h10 : b 10 = a 10) (np v k : Nat) : seb g b np v k = seb g a np v k := by
  induction k with
  | zero => rfl
  | succ k ih => simp only [seb, ih, sn_cg h2 h3 h4 h5, h9, h10]
theorem seb_34 (g : Nat → Int32) (a : Nat → Nat → Int32) (f : Nat → Int32) (np v k : Nat) : seb g (va_up a 34 f) np v k = seb g a np v k := seb_cg (b := va_up a 34 f) (a := a) rfl rfl rfl rfl rfl rfl np v k
/-- the row 'one' behind a look -/
def lkf (g : Nat → Int32) (a : Nat → Nat → Int32) (np : Nat) : Nat → Nat → Int32
  | 0 => a 34
  | k + 1 => upd (lkf g a np k) k (seb g a np k np)
def bits10 (x : Int32) : Nat → Int32
  | 0 => 0
  | k + 1 => bits10 x k + (x >>> (nI k &&& 31) &&& 1)
def tmn (s : Int32) (one : Nat → Int32) (p : Nat) : Nat → Int32
  | 0 => 0
  | k + 1 => tmn s one p k + (if s >>> (nI k &&& 31) &&& 1 = 1 then one k >>> (nI p &&& 31) &&& 1 else 0)
def tms (s : Int32) (one : Nat → Int32) (nv : Nat) : Nat → Int32
  | 0 => 1000000
  | k + 1 => if tmn s one k nv < tms s one nv k then tmn s one k nv else tms s one nv k
def cvr (one : Nat → Int32) (nv np : Nat) (k : Int32) : Nat → Int32
  | 0 => -9
  | s + 1 => if (cvr one nv np k s = -9 ∨ bits10 (nI s) 10 < bits10 (cvr one nv np k s) 10) ∧ ¬ tms (nI s) one nv np < k then nI s else cvr one nv np k s


set_option maxHeartbeats 4000000 in
set_option maxRecDepth 100000 in
theorem k_X9_look (l : Launch) (E : ED) (h : Nat) (q : Nat → Nat) (g : Nat → Int32) (a : Nat → Nat → Int32) (np : Nat) (hn : g 1 = nI np) (hnp : np ≤ 12) (nv : Nat) (hv : g 8 = nI nv) (hnv : nv ≤ 10) : WV l E yX9_look cX9_look 2 5 143 0 0 [.ref h] (mW E h q g a) (fun _ : Unit => True) (fun _ => mW E h q g (va_up a 34 (lkf g a np nv))) := by
  refine WV.mk (by decide) (Nat.le_of_ble_eq_true rfl) [(0, .ref h)] rfl (fun Z B hI ret => ?_)
  have lp : ∀ (n_lp : Nat) (i : Nat), (nv - i < n_lp) → (i ≤ nv) → J Z 0 0 (mW E h q g (va_up a 34 (lkf g a np i))) 2 [(1, .int (nI i)), (0, .ref h)] [] := by
    intro n_lp
    induction n_lp with
    | zero => intro i hf_lp hi; omega
    | succ n_lp ih_lp =>
      intro i hf_lp hi
      refine i_iload_n B 0 dX9_look_2 rfl ?_
      refine i_aload_n B 1 dX9_look_3 rfl ?_
      refine i_get (v := .int (g 8)) B flX9_111 0 rfl rfl dX9_look_4 ?_
      refine i_icmp_ge B 27 dX9_look_7 (by decide) (fun h1 => ?_) (fun h1 => ?_)
      · replace h1 := q_n32.mpr h1
        rw [hv, nI_ltI (by omega) (by omega)] at h1
        refine i_world (ws' := mW E h q g (va_up a 34 (lkf g a np nv))) (by rw [show nv = i by omega]) ?_
        exact ret _ _ () dX9_look_27 (trivial)
      · replace h1 := q_m32.mp h1
        rw [hv, nI_ltI (by omega) (by omega)] at h1
        refine i_aload_n B 1 dX9_look_10 rfl ?_
        refine i_get (v := .ref (q 34)) B flX9_87 0 rfl rfl dX9_look_11 ?_
        refine i_iload_n B 0 dX9_look_14 rfl ?_
        refine i_aload_n B 1 dX9_look_15 rfl ?_
        refine i_iload_n B 0 dX9_look_16 rfl ?_
        refine c_roV (rest := [.int (nI i), .ref (q 34)]) (As := [.int (nI i)]) B (k_X9_seesOf l E h q g (va_up a 34 (lkf g a np i)) np i hn hnp (by omega)) cal_yX9_seesOf iv_yX9_seesOf mlX9_148 rfl 0 rfl (by decide) (by decide) rfl (Nat.le_of_ble_eq_true rfl) Has.rf _ rfl dX9_look_17 (fun r hr => ?_)
        subst hr
        refine i_iastN B 23 i (mW E h q g (va_up a 34 (upd (lkf g a np i) i (seb g (va_up a 34 (lkf g a np i)) np i np)))) rfl rfl (by omega) (by decide) rfl dX9_look_20 ?_
        refine i_iinc (v := (nI (i + 1))) B 0 [(1, .int (nI (i + 1))), (0, .ref h)] dX9_look_21 rfl ((nI_1 _)) (by decide) rfl ?_
        refine i_goto B 2 dX9_look_24 (by decide) ?_
        refine i_world (ws' := (mW E h q g (va_up a 34 (lkf g a np (i + 1))))) (by rw [lkf, seb_34]) ?_
        exact ih_lp (i + 1) (by omega) (by omega)
  refine i_iconst (v := 0) B dX9_look_0 (by decide) ?_
  refine i_istore_n B [(1, .int 0), (0, .ref h)] dX9_look_1 (by decide) rfl ?_
  refine i_Leq (congrArg (fun z => ([(1, .int z), (0, .ref h)] : List (Nat × Value))) (show (0 : Int32) = (nI 0) from rfl)) ?_
  refine i_world (ws' := (mW E h q g (va_up a 34 (lkf g a np 0)))) (by rw [lkf]; rfl) ?_
  exact lp (nv + 1) 0 (by omega) (Nat.zero_le _)

set_option maxHeartbeats 4000000 in
set_option maxRecDepth 100000 in
theorem k_X9_bits (l : Launch) (E : ED) (x : Int32) : RO l E yX9_bits cX9_bits 3 .int 0 0 [.int x] [] (fun r => r = bits10 x 10) := by
  refine RO.mk (by decide) (Nat.le_of_ble_eq_true rfl) [(0, .int x)] rfl (fun Z B ret => ?_)
  have lp : ∀ (n_lp : Nat) (i : Nat), (10 - i < n_lp) → (i ≤ 10) → J Z 0 0 [] 4 [(2, .int (nI i)), (1, .int (bits10 x i)), (0, .int x)] [] := by
    intro n_lp
    induction n_lp with
    | zero => intro i hf_lp hi; omega
    | succ n_lp ih_lp =>
      intro i hf_lp hi
      refine i_iload_n B 0 dX9_bits_4 rfl ?_
      refine i_bipush (v := 10) B dX9_bits_5 (by decide) ?_
      refine i_icmp_ge B 24 dX9_bits_7 (by decide) (fun h1 => ?_) (fun h1 => ?_)
      · replace h1 := q_n32.mpr h1
        rw [show (10 : Int32) = nI 10 from rfl, nI_ltI (by omega) (by omega)] at h1
        refine i_iload_n B 1 dX9_bits_24 rfl ?_
        exact ret _ _ _ rfl dX9_bits_25 (by rw [show i = 10 by omega])
      · replace h1 := q_m32.mp h1
        rw [show (10 : Int32) = nI 10 from rfl, nI_ltI (by omega) (by omega)] at h1
        refine i_iload_n B 1 dX9_bits_10 rfl ?_
        refine i_iload_n B 2 dX9_bits_11 rfl ?_
        refine i_iload_n B 0 dX9_bits_12 rfl ?_
        refine i_ishr B dX9_bits_13 ?_
        refine i_iconst (v := 1) B dX9_bits_14 (by decide) ?_
        refine i_iand B dX9_bits_15 ?_
        refine i_iadd B dX9_bits_16 ?_
        refine i_istore_n B [(1, .int ((bits10 x i) + ((x >>> ((nI i) &&& 31)) &&& 1))), (2, .int (nI i)), (0, .int x)] dX9_bits_17 (by decide) rfl ?_
        refine i_iinc (v := (nI (i + 1))) B 1 [(2, .int (nI (i + 1))), (1, .int ((bits10 x i) + ((x >>> ((nI i) &&& 31)) &&& 1))), (0, .int x)] dX9_bits_18 rfl ((nI_1 _)) (by decide) rfl ?_
        refine i_goto B 4 dX9_bits_21 (by decide) ?_
        refine i_Leq (congrArg (fun z => ([(2, .int (nI (i + 1))), (1, .int z), (0, .int x)] : List (Nat × Value))) (show (((bits10 x i) + ((x >>> ((nI i) &&& 31)) &&& 1)) : Int32) = (bits10 x (i + 1)) from rfl)) ?_
        exact ih_lp (i + 1) (by omega) (by omega)
  refine i_iconst (v := 0) B dX9_bits_0 (by decide) ?_
  refine i_istore_n B [(1, .int 0), (0, .int x)] dX9_bits_1 (by decide) rfl ?_
  refine i_iconst (v := 0) B dX9_bits_2 (by decide) ?_
  refine i_istore_n B [(2, .int 0), (1, .int 0), (0, .int x)] dX9_bits_3 (by decide) rfl ?_
  refine i_Leq (congrArg (fun z => ([(2, .int z), (1, .int 0), (0, .int x)] : List (Nat × Value))) (show (0 : Int32) = (nI 0) from rfl)) ?_
  refine i_Leq (congrArg (fun z => ([(2, .int (nI 0)), (1, .int z), (0, .int x)] : List (Nat × Value))) (show (0 : Int32) = (bits10 x 0) from rfl)) ?_
  exact lp (11) 0 (by omega) (by omega)

set_option maxHeartbeats 4000000 in
set_option maxRecDepth 100000 in
theorem k_X9_timesOf (l : Launch) (E : ED) (h : Nat) (q : Nat → Nat) (g : Nat → Int32) (a : Nat → Nat → Int32) (np : Nat) (hn : g 1 = nI np) (hnp : np ≤ 12) (nv : Nat) (hv : g 8 = nI nv) (hnv : nv ≤ 10) (x : Int32) : RO l E yX9_timesOf cX9_timesOf 6 .int 0 0 [.ref h, .int x] (mW E h q g a) (fun r => r = tms x (a 34) nv np) := by
  refine RO.mk (by decide) (Nat.le_of_ble_eq_true rfl) [(0, .ref h), (1, .int x)] rfl (fun Z B ret => ?_)
  have lp : ∀ (n_lp : Nat) (i : Nat), (np - i < n_lp) → (i ≤ np) → J Z 0 0 (mW E h q g a) 5 [(3, .int (nI i)), (2, .int (tms x (a 34) nv i)), (0, .ref h), (1, .int x)] [] := by
    intro n_lp
    induction n_lp with
    | zero => intro i hf_lp hi; omega
    | succ n_lp ih_lp =>
      intro i hf_lp hi
      refine i_iload_n B 0 dX9_timesOf_5 rfl ?_
      refine i_aload_n B 2 dX9_timesOf_6 rfl ?_
      refine i_get (v := .int (g 1)) B flX9_108 0 rfl rfl dX9_timesOf_7 ?_
      refine i_icmp_ge B 83 dX9_timesOf_10 (by decide) (fun h1 => ?_) (fun h1 => ?_)
      · replace h1 := q_n32.mpr h1
        rw [hn, nI_ltI (by omega) (by omega)] at h1
        refine i_iload_n B 1 dX9_timesOf_83 rfl ?_
        exact ret _ _ _ rfl dX9_timesOf_84 (by rw [show np = i by omega])
      · replace h1 := q_m32.mp h1
        rw [hn, nI_ltI (by omega) (by omega)] at h1
        refine i_iconst (v := 0) B dX9_timesOf_13 (by decide) ?_
        refine i_istore B [(4, .int 0), (3, .int (nI i)), (2, .int (tms x (a 34) nv i)), (0, .ref h), (1, .int x)] dX9_timesOf_14 (by decide) rfl ?_
        refine i_iconst (v := 0) B dX9_timesOf_16 (by decide) ?_
        refine i_istore B [(5, .int 0), (4, .int 0), (3, .int (nI i)), (2, .int (tms x (a 34) nv i)), (0, .ref h), (1, .int x)] dX9_timesOf_17 (by decide) rfl ?_
        have lpi : ∀ (n_lpi : Nat) (j : Nat), (nv - j < n_lpi) → (j ≤ nv) → J Z 0 0 (mW E h q g a) 19 [(5, .int (nI j)), (4, .int (tmn x (a 34) i j)), (3, .int (nI i)), (2, .int (tms x (a 34) nv i)), (0, .ref h), (1, .int x)] [] := by
          intro n_lpi
          induction n_lpi with
          | zero => intro j hf_lpi hj; omega
          | succ n_lpi ih_lpi =>
            intro j hf_lpi hj
            refine i_iload B 0 dX9_timesOf_19 rfl ?_
            refine i_aload_n B 4 dX9_timesOf_21 rfl ?_
            refine i_get (v := .int (g 8)) B flX9_111 0 rfl rfl dX9_timesOf_22 ?_
            refine i_icmp_ge B 64 dX9_timesOf_25 (by decide) (fun h2 => ?_) (fun h2 => ?_)
            · replace h2 := q_n32.mpr h2
              rw [hv, nI_ltI (by omega) (by omega)] at h2
              refine i_iload B 1 dX9_timesOf_64 rfl ?_
              refine i_iload_n B 3 dX9_timesOf_66 rfl ?_
              refine i_icmp_ge B 75 dX9_timesOf_67 (by decide) (fun h3 => ?_) (fun h3 => ?_)
              · replace h3 := q_n32.mpr h3
                have ej : j = nv := by omega
                refine i_iload_n B 3 dX9_timesOf_75 rfl ?_
                refine i_istore_n B [(2, .int (tms x (a 34) nv i)), (5, .int (nI j)), (4, .int (tmn x (a 34) i j)), (3, .int (nI i)), (0, .ref h), (1, .int x)] dX9_timesOf_76 (by decide) rfl ?_
                refine i_iinc (v := (nI (i + 1))) B 3 [(3, .int (nI (i + 1))), (2, .int (tms x (a 34) nv i)), (5, .int (nI j)), (4, .int (tmn x (a 34) i j)), (0, .ref h), (1, .int x)] dX9_timesOf_77 rfl ((nI_1 _)) (by decide) rfl ?_
                refine i_goto B 5 dX9_timesOf_80 (by decide) ?_
                refine i_locals [0, 1, 4, 5] (L' := [(3, .int (nI (i + 1))), (2, .int (tms x (a 34) nv i)), (0, .ref h), (1, .int x)]) rfl ?_
                refine i_Leq (congrArg (fun z => ([(3, .int (nI (i + 1))), (2, .int z), (0, .ref h), (1, .int x)] : List (Nat × Value))) (show ((tms x (a 34) nv i) : Int32) = (tms x (a 34) nv (i + 1)) from by rw [tms]; simp only [show nv = j by omega] at *; simp only [h3, if_true, if_false])) ?_
                exact ih_lp (i + 1) (by omega) (by omega)
              · replace h3 := q_m32.mp h3
                have ej : j = nv := by omega
                refine i_iload B 1 dX9_timesOf_70 rfl ?_
                refine i_goto B 76 dX9_timesOf_72 (by decide) ?_
                refine i_istore_n B [(2, .int (tmn x (a 34) i j)), (5, .int (nI j)), (4, .int (tmn x (a 34) i j)), (3, .int (nI i)), (0, .ref h), (1, .int x)] dX9_timesOf_76 (by decide) rfl ?_
                refine i_iinc (v := (nI (i + 1))) B 3 [(3, .int (nI (i + 1))), (2, .int (tmn x (a 34) i j)), (5, .int (nI j)), (4, .int (tmn x (a 34) i j)), (0, .ref h), (1, .int x)] dX9_timesOf_77 rfl ((nI_1 _)) (by decide) rfl ?_
                refine i_goto B 5 dX9_timesOf_80 (by decide) ?_
                refine i_locals [0, 1, 4, 5] (L' := [(3, .int (nI (i + 1))), (2, .int (tmn x (a 34) i j)), (0, .ref h), (1, .int x)]) rfl ?_
                refine i_Leq (congrArg (fun z => ([(3, .int (nI (i + 1))), (2, .int z), (0, .ref h), (1, .int x)] : List (Nat × Value))) (show ((tmn x (a 34) i j) : Int32) = (tms x (a 34) nv (i + 1)) from by rw [tms]; simp only [show nv = j by omega] at *; simp only [h3, if_true, if_false])) ?_
                exact ih_lp (i + 1) (by omega) (by omega)
            · replace h2 := q_m32.mp h2
              rw [hv, nI_ltI (by omega) (by omega)] at h2
              refine i_iload B 1 dX9_timesOf_28 rfl ?_
              refine i_iload_n B 5 dX9_timesOf_30 rfl ?_
              refine i_iload B 0 dX9_timesOf_31 rfl ?_
              refine i_ishr B dX9_timesOf_33 ?_
              refine i_iconst (v := 1) B dX9_timesOf_34 (by decide) ?_
              refine i_iand B dX9_timesOf_35 ?_
              refine i_iconst (v := 1) B dX9_timesOf_36 (by decide) ?_
              refine i_icmp_ne B 54 dX9_timesOf_37 (by decide) (fun h4 => ?_) (fun h4 => ?_)
              · have h4d := decide_eq_false h4
                refine i_iconst (v := 0) B dX9_timesOf_54 (by decide) ?_
                refine i_iadd B dX9_timesOf_55 ?_
                refine i_istore B [(4, .int ((tmn x (a 34) i j) + 0)), (5, .int (nI j)), (3, .int (nI i)), (2, .int (tms x (a 34) nv i)), (0, .ref h), (1, .int x)] dX9_timesOf_56 (by decide) rfl ?_
                refine i_iinc (v := (nI (j + 1))) B 1 [(5, .int (nI (j + 1))), (4, .int ((tmn x (a 34) i j) + 0)), (3, .int (nI i)), (2, .int (tms x (a 34) nv i)), (0, .ref h), (1, .int x)] dX9_timesOf_58 rfl ((nI_1 _)) (by decide) rfl ?_
                refine i_goto B 19 dX9_timesOf_61 (by decide) ?_
                refine i_Leq (congrArg (fun z => ([(5, .int (nI (j + 1))), (4, .int z), (3, .int (nI i)), (2, .int (tms x (a 34) nv i)), (0, .ref h), (1, .int x)] : List (Nat × Value))) (show (((tmn x (a 34) i j) + 0) : Int32) = (tmn x (a 34) i (j + 1)) from by rw [tmn]; simp only [h4, if_true, if_false])) ?_
                exact ih_lpi (j + 1) (by omega) (by omega)
              · have h4d := decide_eq_true h4
                refine i_aload_n B 4 dX9_timesOf_40 rfl ?_
                refine i_get (v := .ref (q 34)) B flX9_87 0 rfl rfl dX9_timesOf_41 ?_
                refine i_iload B 0 dX9_timesOf_44 rfl ?_
                refine i_ialdN B 23 j rfl rfl (by omega) (by decide) dX9_timesOf_46 ?_
                refine i_iload_n B 2 dX9_timesOf_47 rfl ?_
                refine i_ishr B dX9_timesOf_48 ?_
                refine i_iconst (v := 1) B dX9_timesOf_49 (by decide) ?_
                refine i_iand B dX9_timesOf_50 ?_
                refine i_goto B 55 dX9_timesOf_51 (by decide) ?_
                refine i_iadd B dX9_timesOf_55 ?_
                refine i_istore B [(4, .int ((tmn x (a 34) i j) + ((((a 34) j) >>> ((nI i) &&& 31)) &&& 1))), (5, .int (nI j)), (3, .int (nI i)), (2, .int (tms x (a 34) nv i)), (0, .ref h), (1, .int x)] dX9_timesOf_56 (by decide) rfl ?_
                refine i_iinc (v := (nI (j + 1))) B 1 [(5, .int (nI (j + 1))), (4, .int ((tmn x (a 34) i j) + ((((a 34) j) >>> ((nI i) &&& 31)) &&& 1))), (3, .int (nI i)), (2, .int (tms x (a 34) nv i)), (0, .ref h), (1, .int x)] dX9_timesOf_58 rfl ((nI_1 _)) (by decide) rfl ?_
                refine i_goto B 19 dX9_timesOf_61 (by decide) ?_
                refine i_Leq (congrArg (fun z => ([(5, .int (nI (j + 1))), (4, .int z), (3, .int (nI i)), (2, .int (tms x (a 34) nv i)), (0, .ref h), (1, .int x)] : List (Nat × Value))) (show (((tmn x (a 34) i j) + ((((a 34) j) >>> ((nI i) &&& 31)) &&& 1)) : Int32) = (tmn x (a 34) i (j + 1)) from by rw [tmn]; simp only [h4, if_true, if_false])) ?_
                exact ih_lpi (j + 1) (by omega) (by omega)
        refine i_Leq (congrArg (fun z => ([(5, .int z), (4, .int 0), (3, .int (nI i)), (2, .int (tms x (a 34) nv i)), (0, .ref h), (1, .int x)] : List (Nat × Value))) (show (0 : Int32) = (nI 0) from rfl)) ?_
        refine i_Leq (congrArg (fun z => ([(5, .int (nI 0)), (4, .int z), (3, .int (nI i)), (2, .int (tms x (a 34) nv i)), (0, .ref h), (1, .int x)] : List (Nat × Value))) (show (0 : Int32) = (tmn x (a 34) i 0) from rfl)) ?_
        exact lpi (nv + 1) 0 (by omega) (Nat.zero_le _)
  refine i_ldc B ckX9_151 dX9_timesOf_0 ?_
  refine i_istore_n B [(2, .int 1000000), (0, .ref h), (1, .int x)] dX9_timesOf_2 (by decide) rfl ?_
  refine i_iconst (v := 0) B dX9_timesOf_3 (by decide) ?_
  refine i_istore_n B [(3, .int 0), (2, .int 1000000), (0, .ref h), (1, .int x)] dX9_timesOf_4 (by decide) rfl ?_
  refine i_Leq (congrArg (fun z => ([(3, .int z), (2, .int 1000000), (0, .ref h), (1, .int x)] : List (Nat × Value))) (show (0 : Int32) = (nI 0) from rfl)) ?_
  refine i_Leq (congrArg (fun z => ([(3, .int (nI 0)), (2, .int z), (0, .ref h), (1, .int x)] : List (Nat × Value))) (show (1000000 : Int32) = (tms x (a 34) nv 0) from rfl)) ?_
  exact lp (np + 1) 0 (by omega) (Nat.zero_le _)

abbrev GA : Type := (Nat → Int32) × (Nat → Nat → Int32)
theorem lkf_at {g : Nat → Int32} {a : Nat → Nat → Int32} {np k j : Nat} (h : j < k) : lkf g a np k j = seb g a np j np := by
  induction k with
  | zero => omega
  | succ k ih =>
    rw [lkf]
    by_cases e : j = k
    · subst e; exact pk_us
    · rw [pk_un e]; exact ih (by omega)
theorem tmn_cg {s : Int32} {f f' : Nat → Int32} {p k : Nat} (h : ∀ j, j < k → f j = f' j) : tmn s f p k = tmn s f' p k := by
  induction k with
  | zero => rfl
  | succ k ih => rw [tmn, tmn, ih (fun j hj => h j (by omega)), h k (by omega)]
theorem tms_cg {s : Int32} {f f' : Nat → Int32} {nv k : Nat} (h : ∀ j, j < nv → f j = f' j) : tms s f nv k = tms s f' nv k := by
  induction k with
  | zero => rfl
  | succ k ih => rw [tms, tms, ih, tmn_cg h]
/-- what is SEEN from each VIEW -/
def sbr (g : Nat → Int32) (a : Nat → Nat → Int32) (np : Nat) : Nat → Int32 := fun v => seb g a np v np
theorem tms_lk (g : Nat → Int32) (a : Nat → Nat → Int32) (np nv : Nat) (s : Int32) (k : Nat) : tms s (lkf g a np nv) nv k = tms s (sbr g a np) nv k := tms_cg (fun _ h => lkf_at h)
def covF (g : Nat → Int32) (a : Nat → Nat → Int32) (np nv : Nat) (k : Int32) : Int32 := if (!wit k 1 3) = true then -2 else cvr (sbr g a np) nv np k (2 ^ nv)
def covsF (g : Nat → Int32) (a : Nat → Nat → Int32) (np nv : Nat) (s k : Int32) : Int32 := if nset (g 8) s = true then -1 else if (!wit k 1 3) = true then -2 else bI (!decide (tms s (sbr g a np) nv np < k))
def timF (g : Nat → Int32) (a : Nat → Nat → Int32) (np nv : Nat) (s : Int32) : Int32 := if nset (g 8) s = true then -1 else if decide (np = 0) = true then -9 else tms s (sbr g a np) nv np
def senF (g : Nat → Int32) (a : Nat → Nat → Int32) (np : Nat) (x y p : Int32) : Int32 := if (!pt x y) = true then -2 else if (!wit p 0 (g 1 - 1)) = true then -1 else bI (sn g a np x y (ix p))
def sesF (g : Nat → Int32) (a : Nat → Nat → Int32) (np : Nat) (v : Int32) : Int32 := if (!wit v 0 (g 8 - 1)) = true then -1 else seb g a np (ix v) np
def panelF (g : Nat → Int32) (a : Nat → Nat → Int32) (np : Nat) (x1 y1 x2 y2 : Int32) : Int32 × GA := if (!(pt x1 y1 && pt x2 y2)) = true then (-2, g, a) else if (decide (x1 = x2) && decide (y1 = y2)) = true then (-3, g, a) else if decide (np = 12) = true then (-4, g, a) else (nI np, upd g 1 (nI (np + 1)), va_up (va_up (va_up (va_up a 2 (upd (a 2) np x1)) 3 (upd (a 3) np y1)) 4 (upd (a 4) np x2)) 5 (upd (a 5) np y2))
def eyeF (g : Nat → Int32) (what v : Int32) : Int32 × (Nat → Int32) := if (decide (what = 0) && wit v 1 90) = true then (g 6, upd g 6 v) else if (decide (what = 1) && wit v 0 100) = true then (g 7, upd g 7 v) else (-2, g)
def storeF (g : Nat → Int32) (what v : Int32) : Int32 × (Nat → Int32) := if (decide (what = 0) && wit v 1 30000) = true then (g 18, upd g 18 v) else if (decide (what = 1) && wit v 0 500) = true then (g 19, upd g 19 v) else (-2, g)
def viewF (g : Nat → Int32) (a : Nat → Nat → Int32) (nv : Nat) (x y : Int32) : Int32 × GA := if (!pt x y) = true then (-2, g, a) else if decide (nv = 10) = true then (-4, g, a) else (nI nv, upd g 8 (nI (nv + 1)), va_up (va_up a 9 (upd (a 9) nv x)) 10 (upd (a 10) nv y))
def closeF (g : Nat → Int32) (a : Nat → Nat → Int32) (nc : Nat) (x1 y1 x2 y2 : Int32) : Int32 × GA := if (!(pt x1 y1 && pt x2 y2)) = true then (-2, g, a) else if (!decide (x1 < x2) || !decide (y1 < y2)) = true then (-3, g, a) else if decide (nc = 4) = true then (-4, g, a) else (nI (nc + 1), upd g 11 (nI (nc + 1)), va_up (va_up (va_up (va_up a 12 (upd (a 12) nc x1)) 13 (upd (a 13) nc y1)) 14 (upd (a 14) nc x2)) 15 (upd (a 15) nc y2))
def openF (g : Nat → Int32) (nc : Nat) : Int32 × (Nat → Int32) := if decide (nc = 0) = true then (-3, g) else (nI (nc - 1), upd g 11 (nI (nc - 1)))
def windF (g : Nat → Int32) (x y : Int32) : Int32 × (Nat → Int32) := if (!(wit x (-9) 9 && wit y (-9) 9)) = true then (-2, g) else (100 * g 16 + g 17 + 909, upd (upd g 16 x) 17 y)
def baseF (a : Nat → Nat → Int32) (x y : Int32) : Int32 × (Nat → Nat → Int32) := if (!pt x y) = true then (-2, a) else (100 * a 9 10 + a 10 10, va_up (va_up a 9 (upd (a 9) 10 x)) 10 (upd (a 10) 10 y))
def logF (g : Nat → Int32) (a : Nat → Nat → Int32) (nl : Nat) (x y e : Int32) : Int32 × GA := if (!(pt x y && wit e 0 5)) = true then (-2, g, a) else if decide (nl = 20) = true then (-4, g, a) else (nI nl, upd g 20 (nI (nl + 1)), va_up (va_up (va_up a 21 (upd (a 21) nl x)) 22 (upd (a 22) nl y)) 23 (upd (a 23) nl e))
def markF (g : Nat → Int32) (a : Nat → Nat → Int32) (nm : Nat) (p at_ len yr : Int32) : Int32 × GA := if (!wit p 0 (g 1 - 1)) = true then (-1, g, a) else if (!(wit at_ 0 1000 && (wit len 0 500 && wit yr 0 9))) = true then (-2, g, a) else if decide (nm = 40) = true then (-4, g, a) else (nI nm, upd g 24 (nI (nm + 1)), va_up (va_up (va_up (va_up a 25 (upd (a 25) nm p)) 26 (upd (a 26) nm at_)) 27 (upd (a 27) nm len)) 28 (upd (a 28) nm yr))
def wipeF (g : Nat → Int32) (a : Nat → Nat → Int32) (m : Int32) : Int32 × (Nat → Nat → Int32) := if (!wit m 0 (g 24 - 1)) = true then (-1, a) else if (!decide (a 29 (ix m) = 0)) = true then (-3, a) else (1, va_up a 29 (upd (a 29) (ix m) 1))
def onF (a : Nat → Nat → Int32) (k : Nat) (p y : Int32) : Bool := decide (a 29 k = 0) && (decide (a 25 k = p) && decide (a 28 k = y))
def mks (a : Nat → Nat → Int32) (p y z : Int32) : Nat → Int32
  | 0 => 0
  | k + 1 => mks a p y z k + (if onF a k p y = true then (if decide (z = 0) = true then 1 else a 27 k) else 0)
def marksF (g : Nat → Int32) (a : Nat → Nat → Int32) (nm : Nat) (p y z : Int32) : Int32 := if (!wit p 0 (g 1 - 1)) = true then -1 else if (!wit y 0 9) = true then -2 else mks a p y z nm
def cnw (w : Nat → Int32) : Nat → Int32
  | 0 => 0
  | k + 1 => cnw w k + (if decide (w k = 0) = true then 1 else 0)
def countF (g : Nat → Int32) (a : Nat → Nat → Int32) (nm : Nat) (what : Int32) : Int32 := if decide (what = 0) = true then g 1 else if decide (what = 1) = true then g 8 else if decide (what = 2) = true then g 11 else if decide (what = 3) = true then g 20 else if decide (what = 4) = true then cnw (a 29) nm else -2
theorem wit01 (x : Int32) : wit x 0 1 = (decide (x = 0) || decide (x = 1)) := by
  unfold wit
  by_cases h0 : x = 0
  · subst h0; decide
  · by_cases h1 : x = 1
    · subst h1; decide
    · rw [decide_eq_false h0, decide_eq_false h1]
      have e0 : x.toInt ≠ 0 := fun e => h0 (Int32.toInt_inj.mp e)
      have e1 : x.toInt ≠ 1 := fun e => h1 (Int32.toInt_inj.mp e)
      by_cases q : x < 0
      · rw [decide_eq_true q]; rfl
      · rw [decide_eq_false q]
        have q2 : (1 : Int32) < x := by
          rw [Int32.lt_iff_toInt_lt] at q ⊢
          have a0 : (0 : Int32).toInt = 0 := rfl
          have a1 : (1 : Int32).toInt = 1 := rfl
          omega
        rw [decide_eq_true q2]; rfl
