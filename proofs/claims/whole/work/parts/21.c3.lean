def ush (x n : Int32) : Int32 := (x.toUInt32 >>> (Int32.toUInt32 n &&& Int32.toUInt32 31)).toInt32
def bc1 (x : Int32) : Int32 := x - (ush x 1 &&& 1431655765)
def bc2 (x : Int32) : Int32 := (x &&& 858993459) + (ush x 2 &&& 858993459)
def bc3 (x : Int32) : Int32 := (x + ush x 4) &&& 252645135
def bc4 (x : Int32) : Int32 := x + ush x 8
def bc5 (x : Int32) : Int32 := x + ush x 16
/-- Integer.bitCount -/
def bct (x : Int32) : Int32 := bc5 (bc4 (bc3 (bc2 (bc1 x)))) &&& 63

set_option maxHeartbeats 4000000 in
set_option maxRecDepth 100000 in
theorem k_J6_bitCount_0f7a4 (l : Launch) (E : ED) (x : Int32) : RO l E yJ6_bitCount_0f7a4 cJ6_bitCount_0f7a4 1 .int 0 0 [.int x] [] (fun r => r = bct x) := by
  refine RO.mk (by decide) (Nat.le_of_ble_eq_true rfl) [(0, .int x)] rfl (fun Z B ret => ?_)
  refine i_iload_n B 0 dJ6_bitCount_0f7a4_0 rfl ?_
  refine i_iload_n B 0 dJ6_bitCount_0f7a4_1 rfl ?_
  refine i_iconst (v := 1) B dJ6_bitCount_0f7a4_2 (by decide) ?_
  refine i_iushr B dJ6_bitCount_0f7a4_3 rfl ?_
  refine i_ldcw B ckJ6_265 dJ6_bitCount_0f7a4_4 ?_
  refine i_iand B dJ6_bitCount_0f7a4_7 ?_
  refine i_isub B dJ6_bitCount_0f7a4_8 ?_
  refine j_nameI (fun b1 eb1 => ?_)
  refine i_istore_n B [(0, .int b1)] dJ6_bitCount_0f7a4_9 (by decide) rfl ?_
  refine i_iload_n B 0 dJ6_bitCount_0f7a4_10 rfl ?_
  refine i_ldcw B ckJ6_266 dJ6_bitCount_0f7a4_11 ?_
  refine i_iand B dJ6_bitCount_0f7a4_14 ?_
  refine i_iload_n B 0 dJ6_bitCount_0f7a4_15 rfl ?_
  refine i_iconst (v := 2) B dJ6_bitCount_0f7a4_16 (by decide) ?_
  refine i_iushr B dJ6_bitCount_0f7a4_17 rfl ?_
  refine i_ldcw B ckJ6_266 dJ6_bitCount_0f7a4_18 ?_
  refine i_iand B dJ6_bitCount_0f7a4_21 ?_
  refine i_iadd B dJ6_bitCount_0f7a4_22 ?_
  refine j_nameI (fun b2 eb2 => ?_)
  refine i_istore_n B [(0, .int b2)] dJ6_bitCount_0f7a4_23 (by decide) rfl ?_
  refine i_iload_n B 0 dJ6_bitCount_0f7a4_24 rfl ?_
  refine i_iload_n B 0 dJ6_bitCount_0f7a4_25 rfl ?_
  refine i_iconst (v := 4) B dJ6_bitCount_0f7a4_26 (by decide) ?_
  refine i_iushr B dJ6_bitCount_0f7a4_27 rfl ?_
  refine i_iadd B dJ6_bitCount_0f7a4_28 ?_
  refine i_ldcw B ckJ6_267 dJ6_bitCount_0f7a4_29 ?_
  refine i_iand B dJ6_bitCount_0f7a4_32 ?_
  refine j_nameI (fun b3 eb3 => ?_)
  refine i_istore_n B [(0, .int b3)] dJ6_bitCount_0f7a4_33 (by decide) rfl ?_
  refine i_iload_n B 0 dJ6_bitCount_0f7a4_34 rfl ?_
  refine i_iload_n B 0 dJ6_bitCount_0f7a4_35 rfl ?_
  refine i_bipush (v := 8) B dJ6_bitCount_0f7a4_36 (by decide) ?_
  refine i_iushr B dJ6_bitCount_0f7a4_38 rfl ?_
  refine i_iadd B dJ6_bitCount_0f7a4_39 ?_
  refine j_nameI (fun b4 eb4 => ?_)
  refine i_istore_n B [(0, .int b4)] dJ6_bitCount_0f7a4_40 (by decide) rfl ?_
  refine i_iload_n B 0 dJ6_bitCount_0f7a4_41 rfl ?_
  refine i_iload_n B 0 dJ6_bitCount_0f7a4_42 rfl ?_
  refine i_bipush (v := 16) B dJ6_bitCount_0f7a4_43 (by decide) ?_
  refine i_iushr B dJ6_bitCount_0f7a4_45 rfl ?_
  refine i_iadd B dJ6_bitCount_0f7a4_46 ?_
  refine j_nameI (fun b5 eb5 => ?_)
  refine i_istore_n B [(0, .int b5)] dJ6_bitCount_0f7a4_47 (by decide) rfl ?_
  refine i_iload_n B 0 dJ6_bitCount_0f7a4_48 rfl ?_
  refine i_bipush (v := 63) B dJ6_bitCount_0f7a4_49 (by decide) ?_
  refine i_iand B dJ6_bitCount_0f7a4_51 ?_
  exact ret _ _ _ rfl dJ6_bitCount_0f7a4_52 (by rw [bct, eb5, eb4, eb3, eb2, eb1]; rfl)

/-- the VIEWS below k that PANEL p is SEEN from -/
def wtf (g : Nat → Int32) (a : Nat → Nat → Int32) (np p : Nat) : Nat → Int32
  | 0 => 0
  | k + 1 => if sn g a np (a 9 k) (a 10 k) p = true then wtf g a np p k ||| 1 <<< (nI k &&& 31) else wtf g a np p k
def wtr (g : Nat → Int32) (a : Nat → Nat → Int32) (np nv : Nat) (w : Nat → Int32) : Nat → Nat → Int32
  | 0 => w
  | k + 1 => upd (wtr g a np nv w k) k (wtf g a np k nv)
def lts (w : Nat → Int32) (x : Int32) : Nat → Int32
  | 0 => 10
  | k + 1 => mn (lts w x k) (bct (w k &&& x))
def scv (w : Nat → Int32) (np : Nat) (k : Int32) : Nat → Int32 × Int32
  | 0 => (-9, 11)
  | i + 1 => if (decide (bct (nI i) < (scv w np k i).2) && !decide (lts w (nI i) np < k)) = true then (nI i, bct (nI i)) else scv w np k i

set_option maxHeartbeats 4000000 in
set_option maxRecDepth 100000 in
theorem k_X3_watch (l : Launch) (E : ED) (q : Nat → Nat) (g : Nat → Int32) (a : Nat → Nat → Int32) (s : Nat → Int32) (t : Nat → Nat → Int32) (np : Nat) (hn : g 1 = nI np) (hnp : np ≤ 12) (nv : Nat) (hv : g 8 = nI nv) (hnv : nv ≤ 10) (hve : VEq g a np) (hpv : ∀ v, v < nv → pt (a 9 v) (a 10 v) = true) : WV l E yX3_watch cX3_watch 6 4 107 0 0 [.ref (q 43), .ref (q 41), .ref (q 42)] (sW E q g a ++ (sV E q g a ++ sL E q s t)) (fun _ : Unit => True) (fun _ => (sW E q g a ++ (sV E q g a ++ sL E q (upd s 60 (g 1)) (va_up t 50 (wtr g a np nv (t 50) np))))) := by
  refine WV.mk (by decide) (Nat.le_of_ble_eq_true rfl) [(0, .ref (q 43)), (1, .ref (q 41)), (2, .ref (q 42))] rfl (fun Z B hI ret => ?_)
  have la : ∀ (n_la : Nat) (i : Nat), (np - i < n_la) → (i ≤ np) → J Z 0 0 (sW E q g a ++ (sV E q g a ++ sL E q (upd s 60 (g 1)) (va_up t 50 (wtr g a np nv (t 50) i)))) 10 [(3, .int (nI i)), (0, .ref (q 43)), (1, .ref (q 41)), (2, .ref (q 42))] [] := by
    intro n_la
    induction n_la with
    | zero => intro i hf_la hi; omega
    | succ n_la ih_la =>
      intro i hf_la hi
      refine i_iload_n B 0 dX3_watch_10 rfl ?_
      refine i_aload_n B 1 dX3_watch_11 rfl ?_
      refine i_get (v := .int (g 1)) B flX3_21 8 rfl rfl dX3_watch_12 ?_
      refine i_icmp_ge B 84 dX3_watch_15 (by decide) (fun h1 => ?_) (fun h1 => ?_)
      · replace h1 := q_n32.mpr h1
        rw [hn, nI_ltI (by omega) (by omega)] at h1
        refine i_world (ws' := (sW E q g a ++ (sV E q g a ++ sL E q (upd s 60 (g 1)) (va_up t 50 (wtr g a np nv (t 50) np))))) (by rw [show np = i by omega]) ?_
        exact ret _ _ () dX3_watch_84 (trivial)
      · replace h1 := q_m32.mp h1
        rw [hn, nI_ltI (by omega) (by omega)] at h1
        refine i_iconst (v := 0) B dX3_watch_18 (by decide) ?_
        refine i_istore B [(4, .int 0), (3, .int (nI i)), (0, .ref (q 43)), (1, .ref (q 41)), (2, .ref (q 42))] dX3_watch_19 (by decide) rfl ?_
        refine i_iconst (v := 0) B dX3_watch_21 (by decide) ?_
        refine i_istore B [(5, .int 0), (4, .int 0), (3, .int (nI i)), (0, .ref (q 43)), (1, .ref (q 41)), (2, .ref (q 42))] dX3_watch_22 (by decide) rfl ?_
        have lb : ∀ (n_lb : Nat) (j : Nat), (nv - j < n_lb) → (j ≤ nv) → J Z 0 0 (sW E q g a ++ (sV E q g a ++ sL E q (upd s 60 (g 1)) (va_up t 50 (wtr g a np nv (t 50) i)))) 24 [(5, .int (nI j)), (4, .int (wtf g a np i j)), (3, .int (nI i)), (0, .ref (q 43)), (1, .ref (q 41)), (2, .ref (q 42))] [] := by
          intro n_lb
          induction n_lb with
          | zero => intro j hf_lb hj; omega
          | succ n_lb ih_lb =>
            intro j hf_lb hj
            refine i_iload B 0 dX3_watch_24 rfl ?_
            refine i_aload_n B 5 dX3_watch_26 rfl ?_
            refine i_get (v := .int (g 8)) B flX3_24 5 rfl rfl dX3_watch_27 ?_
            refine i_icmp_ge B 70 dX3_watch_30 (by decide) (fun h2 => ?_) (fun h2 => ?_)
            · replace h2 := q_n32.mpr h2
              rw [hv, nI_ltI (by omega) (by omega)] at h2
              refine i_aload_n B 3 dX3_watch_70 rfl ?_
              refine i_get (v := .ref (q 50)) B flX3_9 8 rfl rfl dX3_watch_71 ?_
              refine i_iload_n B 2 dX3_watch_74 rfl ?_
              refine i_iload B 1 dX3_watch_75 rfl ?_
              refine i_iastN (f := (wtr g a np nv (t 50) i)) B 9 i (sW E q g a ++ (sV E q g a ++ sL E q (upd s 60 (g 1)) (va_up t 50 (upd (wtr g a np nv (t 50) i) i (wtf g a np i j))))) rfl rfl (by omega) (by decide) rfl dX3_watch_77 ?_
              refine i_iinc (v := (nI (i + 1))) B 2 [(3, .int (nI (i + 1))), (5, .int (nI j)), (4, .int (wtf g a np i j)), (0, .ref (q 43)), (1, .ref (q 41)), (2, .ref (q 42))] dX3_watch_78 rfl ((nI_1 _)) (by decide) rfl ?_
              refine i_goto B 10 dX3_watch_81 (by decide) ?_
              refine i_locals [0, 3, 4, 5] (L' := [(3, .int (nI (i + 1))), (0, .ref (q 43)), (1, .ref (q 41)), (2, .ref (q 42))]) rfl ?_
              refine i_world (ws' := (sW E q g a ++ (sV E q g a ++ sL E q (upd s 60 (g 1)) (va_up t 50 (wtr g a np nv (t 50) (i + 1)))))) (by rw [wtr, show nv = j by omega]) ?_
              exact ih_la (i + 1) (by omega) (by omega)
            · replace h2 := q_m32.mp h2
              rw [hv, nI_ltI (by omega) (by omega)] at h2
              refine i_aload_n B 4 dX3_watch_33 rfl ?_
              refine i_aload_n B 5 dX3_watch_34 rfl ?_
              refine i_get (v := .ref (q 9)) B flX3_27 5 rfl rfl dX3_watch_35 ?_
              refine i_iload B 0 dX3_watch_38 rfl ?_
              refine i_ialdN B 6 j rfl rfl (by omega) (by decide) dX3_watch_40 ?_
              refine i_aload_n B 5 dX3_watch_41 rfl ?_
              refine i_get (v := .ref (q 10)) B flX3_30 5 rfl rfl dX3_watch_42 ?_
              refine i_iload B 0 dX3_watch_45 rfl ?_
              refine i_ialdN B 7 j rfl rfl (by omega) (by decide) dX3_watch_47 ?_
              refine i_iload_n B 2 dX3_watch_48 rfl ?_
              refine c_roV (rest := []) (As := [.int ((a 9) j), .int ((a 10) j), .int (nI i)]) B (k_vis l E q g a np hn hnp hve i (by omega) ((a 9) j) ((a 10) j) (pt_in (hpv j (by omega))).1 (pt_in (hpv j (by omega))).2) cal_yX7_isVisible iv_yX7_isVisible mlX3_33 rfl 0 rfl (by decide) (by decide) rfl (Nat.le_of_ble_eq_true rfl) (Has.of [0, 1, 2, 3, 4] rfl rfl) _ rfl dX3_watch_49 (fun r hr => ?_)
              subst hr
              refine i_val (v' := .int (bI (sn g a np ((a 9) j) ((a 10) j) i))) rfl ?_
              refine i_if_eq B 64 dX3_watch_52 (by decide) (fun h3 => ?_) (fun h3 => ?_)
              · replace h3 := bI_0.mp h3
                refine i_iinc (v := (nI (j + 1))) B 0 [(5, .int (nI (j + 1))), (4, .int (wtf g a np i j)), (3, .int (nI i)), (0, .ref (q 43)), (1, .ref (q 41)), (2, .ref (q 42))] dX3_watch_64 rfl ((nI_1 _)) (by decide) rfl ?_
                refine i_goto B 24 dX3_watch_67 (by decide) ?_
                refine i_Leq (congrArg (fun z_9 => ([(5, .int (nI (j + 1))), (4, .int z_9), (3, .int (nI i)), (0, .ref (q 43)), (1, .ref (q 41)), (2, .ref (q 42))] : List (Nat × Value))) (show ((wtf g a np i j) : Int32) = (wtf g a np i (j + 1)) from by rw [wtf, h3]; rfl)) ?_
                exact ih_lb (j + 1) (by omega) (by omega)
              · replace h3 := bI_n.mp h3
                refine i_iload B 1 dX3_watch_55 rfl ?_
                refine i_iconst (v := 1) B dX3_watch_57 (by decide) ?_
                refine i_iload B 0 dX3_watch_58 rfl ?_
                refine i_ishl B dX3_watch_60 ?_
                refine i_ior B dX3_watch_61 ?_
                refine i_istore B [(4, .int ((wtf g a np i j) ||| (1 <<< ((nI j) &&& 31)))), (5, .int (nI j)), (3, .int (nI i)), (0, .ref (q 43)), (1, .ref (q 41)), (2, .ref (q 42))] dX3_watch_62 (by decide) rfl ?_
                refine i_iinc (v := (nI (j + 1))) B 1 [(5, .int (nI (j + 1))), (4, .int ((wtf g a np i j) ||| (1 <<< ((nI j) &&& 31)))), (3, .int (nI i)), (0, .ref (q 43)), (1, .ref (q 41)), (2, .ref (q 42))] dX3_watch_64 rfl ((nI_1 _)) (by decide) rfl ?_
                refine i_goto B 24 dX3_watch_67 (by decide) ?_
                refine i_Leq (congrArg (fun z_9 => ([(5, .int (nI (j + 1))), (4, .int z_9), (3, .int (nI i)), (0, .ref (q 43)), (1, .ref (q 41)), (2, .ref (q 42))] : List (Nat × Value))) (show (((wtf g a np i j) ||| (1 <<< ((nI j) &&& 31))) : Int32) = (wtf g a np i (j + 1)) from by rw [wtf, h3]; rfl)) ?_
                exact ih_lb (j + 1) (by omega) (by omega)
        refine i_Leq (congrArg (fun z_9 => ([(5, .int z_9), (4, .int 0), (3, .int (nI i)), (0, .ref (q 43)), (1, .ref (q 41)), (2, .ref (q 42))] : List (Nat × Value))) (show (0 : Int32) = (nI 0) from rfl)) ?_
        refine i_Leq (congrArg (fun z_9 => ([(5, .int (nI 0)), (4, .int z_9), (3, .int (nI i)), (0, .ref (q 43)), (1, .ref (q 41)), (2, .ref (q 42))] : List (Nat × Value))) (show (0 : Int32) = (wtf g a np i 0) from rfl)) ?_
        exact lb (nv + 1) 0 (by omega) (Nat.zero_le _)
  refine i_aload_n B 0 dX3_watch_0 rfl ?_
  refine i_aload_n B 1 dX3_watch_1 rfl ?_
  refine i_get (v := .int (g 1)) B flX3_15 0 rfl rfl dX3_watch_2 ?_
  refine i_put B flX3_21 8 (sW E q g a ++ (sV E q g a ++ sL E q (upd s 60 (g 1)) t)) rfl rfl rfl rfl (Nat.le_of_ble_eq_true rfl) rfl dX3_watch_5 ?_
  refine i_iconst (v := 0) B dX3_watch_8 (by decide) ?_
  refine i_istore_n B [(3, .int 0), (0, .ref (q 43)), (1, .ref (q 41)), (2, .ref (q 42))] dX3_watch_9 (by decide) rfl ?_
  refine i_Leq (congrArg (fun z_9 => ([(3, .int z_9), (0, .ref (q 43)), (1, .ref (q 41)), (2, .ref (q 42))] : List (Nat × Value))) (show (0 : Int32) = (nI 0) from rfl)) ?_
  refine i_world (ws' := (sW E q g a ++ (sV E q g a ++ sL E q (upd s 60 (g 1)) (va_up t 50 (wtr g a np nv (t 50) 0))))) (rfl) ?_
  exact la (np + 1) 0 (by omega) (Nat.zero_le _)

set_option maxHeartbeats 4000000 in
set_option maxRecDepth 100000 in
theorem k_X3_leastTimes (l : Launch) (E : ED) (q : Nat → Nat) (s : Nat → Int32) (t : Nat → Nat → Int32) (np : Nat) (hs60 : s 60 = nI np) (hnp : np ≤ 12) (x : Int32) : RO l E yX3_leastTimes cX3_leastTimes 4 .int 1 21 [.ref (q 43), .int x] (sL E q s t) (fun r => r = lts (t 50) x np) := by
  refine RO.mk (by decide) (Nat.le_of_ble_eq_true rfl) [(0, .ref (q 43)), (1, .int x)] rfl (fun Z B ret => ?_)
  have lp : ∀ (n_lp : Nat) (i : Nat), (np - i < n_lp) → (i ≤ np) → J Z 0 0 (sL E q s t) 5 [(3, .int (nI i)), (2, .int (lts (t 50) x i)), (0, .ref (q 43)), (1, .int x)] [] := by
    intro n_lp
    induction n_lp with
    | zero => intro i hf_lp hi; omega
    | succ n_lp ih_lp =>
      intro i hf_lp hi
      refine i_iload_n B 0 dX3_leastTimes_5 rfl ?_
      refine i_aload_n B 2 dX3_leastTimes_6 rfl ?_
      refine i_get (v := .int (s 60)) B flX3_21 0 rfl rfl dX3_leastTimes_7 ?_
      refine i_icmp_ge B 35 dX3_leastTimes_10 (by decide) (fun h1 => ?_) (fun h1 => ?_)
      · replace h1 := q_n32.mpr h1
        rw [hs60, nI_ltI (by omega) (by omega)] at h1
        refine i_iload_n B 1 dX3_leastTimes_35 rfl ?_
        exact ret _ _ _ rfl dX3_leastTimes_36 (by rw [show np = i by omega])
      · replace h1 := q_m32.mp h1
        rw [hs60, nI_ltI (by omega) (by omega)] at h1
        refine i_iload_n B 1 dX3_leastTimes_13 rfl ?_
        refine i_aload_n B 2 dX3_leastTimes_14 rfl ?_
        refine i_get (v := .ref (q 50)) B flX3_9 0 rfl rfl dX3_leastTimes_15 ?_
        refine i_iload_n B 0 dX3_leastTimes_18 rfl ?_
        refine i_ialdN B 1 i rfl rfl (by omega) (by decide) dX3_leastTimes_19 ?_
        refine i_val (v' := .int ((t 50) i)) rfl ?_
        refine i_iload_n B 3 dX3_leastTimes_20 rfl ?_
        refine i_iand B dX3_leastTimes_21 ?_
        refine c_roS (rest := [.int (lts (t 50) x i)]) (As := [.int (((t 50) i) &&& x)]) B (k_J6_bitCount_0f7a4 l E (((t 50) i) &&& x)) cal_yJ6_bitCount_0f7a4 is_yJ6_bitCount_0f7a4 mlX3_37 (by decide) (by decide) rfl (Nat.le_of_ble_eq_true rfl) Has.nil _ rfl dX3_leastTimes_22 (fun r hr => ?_)
        subst hr
        refine i_val (v' := .int (bct (((t 50) i) &&& x))) rfl ?_
        refine i_min B mlX3_43 is_Mmin ini_java_lang_Math cd_Mmin (by decide) (Nat.le_of_ble_eq_true rfl) (by decide) dX3_leastTimes_25 ?_
        refine i_val (v' := .int (mn (lts (t 50) x i) (bct (((t 50) i) &&& x)))) rfl ?_
        refine i_istore_n B [(2, .int (mn (lts (t 50) x i) (bct (((t 50) i) &&& x)))), (3, .int (nI i)), (0, .ref (q 43)), (1, .int x)] dX3_leastTimes_28 (by decide) rfl ?_
        refine i_iinc (v := (nI (i + 1))) B 1 [(3, .int (nI (i + 1))), (2, .int (mn (lts (t 50) x i) (bct (((t 50) i) &&& x)))), (0, .ref (q 43)), (1, .int x)] dX3_leastTimes_29 rfl ((nI_1 _)) (by decide) rfl ?_
        refine i_goto B 5 dX3_leastTimes_32 (by decide) ?_
        refine i_Leq (congrArg (fun z_9 => ([(3, .int (nI (i + 1))), (2, .int z_9), (0, .ref (q 43)), (1, .int x)] : List (Nat × Value))) (show ((mn (lts (t 50) x i) (bct (((t 50) i) &&& x))) : Int32) = (lts (t 50) x (i + 1)) from rfl)) ?_
        exact ih_lp (i + 1) (by omega) (by omega)
  refine i_bipush (v := 10) B dX3_leastTimes_0 (by decide) ?_
  refine i_istore_n B [(2, .int 10), (0, .ref (q 43)), (1, .int x)] dX3_leastTimes_2 (by decide) rfl ?_
  refine i_iconst (v := 0) B dX3_leastTimes_3 (by decide) ?_
  refine i_istore_n B [(3, .int 0), (2, .int 10), (0, .ref (q 43)), (1, .int x)] dX3_leastTimes_4 (by decide) rfl ?_
  refine i_Leq (congrArg (fun z_9 => ([(3, .int z_9), (2, .int 10), (0, .ref (q 43)), (1, .int x)] : List (Nat × Value))) (show (0 : Int32) = (nI 0) from rfl)) ?_
  refine i_Leq (congrArg (fun z_9 => ([(3, .int (nI 0)), (2, .int z_9), (0, .ref (q 43)), (1, .int x)] : List (Nat × Value))) (show (10 : Int32) = (lts (t 50) x 0) from rfl)) ?_
  exact lp (np + 1) 0 (by omega) (Nat.zero_le _)

set_option maxHeartbeats 4000000 in
set_option maxRecDepth 100000 in
theorem k_X3_smallestCover (l : Launch) (E : ED) (q : Nat → Nat) (s : Nat → Int32) (t : Nat → Nat → Int32) (np : Nat) (hs60 : s 60 = nI np) (hnp : np ≤ 12) (k : Int32) (N : Nat) (hN : N ≤ 1024) : RO l E yX3_smallestCover cX3_smallestCover 7 .int 2 44 [.ref (q 43), .int k, .int (nI N)] (sL E q s t) (fun r => r = (scv (t 50) np k N).1) := by
  refine RO.mk (by decide) (Nat.le_of_ble_eq_true rfl) [(0, .ref (q 43)), (1, .int k), (2, .int (nI N))] rfl (fun Z B ret => ?_)
  have lp : ∀ (n_lp : Nat) (i : Nat), (N - i < n_lp) → (i ≤ N) → J Z 0 0 (sL E q s t) 10 [(5, .int (nI i)), (4, .int (scv (t 50) np k i).2), (3, .int (scv (t 50) np k i).1), (0, .ref (q 43)), (1, .int k), (2, .int (nI N))] [] := by
    intro n_lp
    induction n_lp with
    | zero => intro i hf_lp hi; omega
    | succ n_lp ih_lp =>
      intro i hf_lp hi
      refine i_iload B 0 dX3_smallestCover_10 rfl ?_
      refine i_iload_n B 5 dX3_smallestCover_12 rfl ?_
      refine i_icmp_ge B 53 dX3_smallestCover_13 (by decide) (fun h1 => ?_) (fun h1 => ?_)
      · replace h1 := q_n32.mpr h1
        rw [nI_ltI (by omega) (by omega)] at h1
        refine i_iload_n B 2 dX3_smallestCover_53 rfl ?_
        exact ret _ _ _ rfl dX3_smallestCover_54 (by rw [show N = i by omega])
      · replace h1 := q_m32.mp h1
        rw [nI_ltI (by omega) (by omega)] at h1
        refine i_iload B 0 dX3_smallestCover_16 rfl ?_
        refine c_roS (rest := []) (As := [.int (nI i)]) B (k_J6_bitCount_0f7a4 l E (nI i)) cal_yJ6_bitCount_0f7a4 is_yJ6_bitCount_0f7a4 mlX3_37 (by decide) (by decide) rfl (Nat.le_of_ble_eq_true rfl) Has.nil _ rfl dX3_smallestCover_18 (fun r hr => ?_)
        subst hr
        refine i_val (v' := .int (bct (nI i))) rfl ?_
        refine i_istore B [(6, .int (bct (nI i))), (5, .int (nI i)), (4, .int (scv (t 50) np k i).2), (3, .int (scv (t 50) np k i).1), (0, .ref (q 43)), (1, .int k), (2, .int (nI N))] dX3_smallestCover_21 (by decide) rfl ?_
        refine i_iload B 0 dX3_smallestCover_23 rfl ?_
        refine i_iload B 2 dX3_smallestCover_25 rfl ?_
        refine i_icmp_ge B 47 dX3_smallestCover_27 (by decide) (fun h2 => ?_) (fun h2 => ?_)
        · replace h2 := q_n32.mpr h2
          refine i_iinc (v := (nI (i + 1))) B 1 [(5, .int (nI (i + 1))), (6, .int (bct (nI i))), (4, .int (scv (t 50) np k i).2), (3, .int (scv (t 50) np k i).1), (0, .ref (q 43)), (1, .int k), (2, .int (nI N))] dX3_smallestCover_47 rfl ((nI_1 _)) (by decide) rfl ?_
          refine i_goto B 10 dX3_smallestCover_50 (by decide) ?_
          refine i_locals [0, 2, 3, 4, 5, 6] (L' := [(5, .int (nI (i + 1))), (4, .int (scv (t 50) np k i).2), (3, .int (scv (t 50) np k i).1), (0, .ref (q 43)), (1, .int k), (2, .int (nI N))]) rfl ?_
          refine i_Leq (congrArg (fun z_9 => ([(5, .int (nI (i + 1))), (4, .int z_9), (3, .int (scv (t 50) np k i).1), (0, .ref (q 43)), (1, .int k), (2, .int (nI N))] : List (Nat × Value))) (show ((scv (t 50) np k i).2 : Int32) = (scv (t 50) np k (i + 1)).2 from by rw [scv]; simp only [h2, decide_true, decide_false, Bool.not_true, Bool.not_false, Bool.true_and, Bool.false_and, Bool.and_true, Bool.and_false, Bool.true_or, Bool.or_true, Bool.false_or, Bool.or_false, Bool.and_self, Bool.or_self, bI_t, bI_f, if_true, if_false, ite_true, ite_false, Bool.false_eq_true, Bool.true_eq_false, eq_self, reduceIte, true_or, or_true, false_or, or_false, and_true, true_and, and_false, false_and, not_true_eq_false, not_false_eq_true, decide_eq_true_eq, decide_eq_false_iff_not])) ?_
          refine i_Leq (congrArg (fun z_9 => ([(5, .int (nI (i + 1))), (4, .int (scv (t 50) np k (i + 1)).2), (3, .int z_9), (0, .ref (q 43)), (1, .int k), (2, .int (nI N))] : List (Nat × Value))) (show ((scv (t 50) np k i).1 : Int32) = (scv (t 50) np k (i + 1)).1 from by rw [scv]; simp only [h2, decide_true, decide_false, Bool.not_true, Bool.not_false, Bool.true_and, Bool.false_and, Bool.and_true, Bool.and_false, Bool.true_or, Bool.or_true, Bool.false_or, Bool.or_false, Bool.and_self, Bool.or_self, bI_t, bI_f, if_true, if_false, ite_true, ite_false, Bool.false_eq_true, Bool.true_eq_false, eq_self, reduceIte, true_or, or_true, false_or, or_false, and_true, true_and, and_false, false_and, not_true_eq_false, not_false_eq_true, decide_eq_true_eq, decide_eq_false_iff_not])) ?_
          exact ih_lp (i + 1) (by omega) (by omega)
        · replace h2 := q_m32.mp h2
          refine i_aload_n B 4 dX3_smallestCover_30 rfl ?_
          refine i_iload B 1 dX3_smallestCover_31 rfl ?_
          refine c_roV (rest := []) (As := [.int (nI i)]) B (k_X3_leastTimes l E q s t np hs60 hnp (nI i)) cal_yX3_leastTimes iv_yX3_leastTimes mlX3_49 rfl 0 rfl (by decide) (by decide) rfl (Nat.le_of_ble_eq_true rfl) Has.rf _ rfl dX3_smallestCover_33 (fun r hr => ?_)
          subst hr
          refine i_val (v' := .int (lts (t 50) (nI i) np)) rfl ?_
          refine i_iload_n B 5 dX3_smallestCover_36 rfl ?_
          refine i_icmp_lt B 47 dX3_smallestCover_37 (by decide) (fun h3 => ?_) (fun h3 => ?_)
          · refine i_iinc (v := (nI (i + 1))) B 1 [(5, .int (nI (i + 1))), (6, .int (bct (nI i))), (4, .int (scv (t 50) np k i).2), (3, .int (scv (t 50) np k i).1), (0, .ref (q 43)), (1, .int k), (2, .int (nI N))] dX3_smallestCover_47 rfl ((nI_1 _)) (by decide) rfl ?_
            refine i_goto B 10 dX3_smallestCover_50 (by decide) ?_
            refine i_locals [0, 2, 3, 4, 5, 6] (L' := [(5, .int (nI (i + 1))), (4, .int (scv (t 50) np k i).2), (3, .int (scv (t 50) np k i).1), (0, .ref (q 43)), (1, .int k), (2, .int (nI N))]) rfl ?_
            refine i_Leq (congrArg (fun z_9 => ([(5, .int (nI (i + 1))), (4, .int z_9), (3, .int (scv (t 50) np k i).1), (0, .ref (q 43)), (1, .int k), (2, .int (nI N))] : List (Nat × Value))) (show ((scv (t 50) np k i).2 : Int32) = (scv (t 50) np k (i + 1)).2 from by rw [scv]; simp only [h2, h3, decide_true, decide_false, Bool.not_true, Bool.not_false, Bool.true_and, Bool.false_and, Bool.and_true, Bool.and_false, Bool.true_or, Bool.or_true, Bool.false_or, Bool.or_false, Bool.and_self, Bool.or_self, bI_t, bI_f, if_true, if_false, ite_true, ite_false, Bool.false_eq_true, Bool.true_eq_false, eq_self, reduceIte, true_or, or_true, false_or, or_false, and_true, true_and, and_false, false_and, not_true_eq_false, not_false_eq_true, decide_eq_true_eq, decide_eq_false_iff_not])) ?_
            refine i_Leq (congrArg (fun z_9 => ([(5, .int (nI (i + 1))), (4, .int (scv (t 50) np k (i + 1)).2), (3, .int z_9), (0, .ref (q 43)), (1, .int k), (2, .int (nI N))] : List (Nat × Value))) (show ((scv (t 50) np k i).1 : Int32) = (scv (t 50) np k (i + 1)).1 from by rw [scv]; simp only [h2, h3, decide_true, decide_false, Bool.not_true, Bool.not_false, Bool.true_and, Bool.false_and, Bool.and_true, Bool.and_false, Bool.true_or, Bool.or_true, Bool.false_or, Bool.or_false, Bool.and_self, Bool.or_self, bI_t, bI_f, if_true, if_false, ite_true, ite_false, Bool.false_eq_true, Bool.true_eq_false, eq_self, reduceIte, true_or, or_true, false_or, or_false, and_true, true_and, and_false, false_and, not_true_eq_false, not_false_eq_true, decide_eq_true_eq, decide_eq_false_iff_not])) ?_
            exact ih_lp (i + 1) (by omega) (by omega)
          · refine i_iload B 1 dX3_smallestCover_40 rfl ?_
            refine i_istore_n B [(3, .int (nI i)), (6, .int (bct (nI i))), (5, .int (nI i)), (4, .int (scv (t 50) np k i).2), (0, .ref (q 43)), (1, .int k), (2, .int (nI N))] dX3_smallestCover_42 (by decide) rfl ?_
            refine i_iload B 1 dX3_smallestCover_43 rfl ?_
            refine i_istore B [(4, .int (bct (nI i))), (3, .int (nI i)), (6, .int (bct (nI i))), (5, .int (nI i)), (0, .ref (q 43)), (1, .int k), (2, .int (nI N))] dX3_smallestCover_45 (by decide) rfl ?_
            refine i_iinc (v := (nI (i + 1))) B 3 [(5, .int (nI (i + 1))), (4, .int (bct (nI i))), (3, .int (nI i)), (6, .int (bct (nI i))), (0, .ref (q 43)), (1, .int k), (2, .int (nI N))] dX3_smallestCover_47 rfl ((nI_1 _)) (by decide) rfl ?_
            refine i_goto B 10 dX3_smallestCover_50 (by decide) ?_
            refine i_locals [0, 1, 2, 4, 5, 6] (L' := [(5, .int (nI (i + 1))), (4, .int (bct (nI i))), (3, .int (nI i)), (0, .ref (q 43)), (1, .int k), (2, .int (nI N))]) rfl ?_
            refine i_Leq (congrArg (fun z_9 => ([(5, .int (nI (i + 1))), (4, .int z_9), (3, .int (nI i)), (0, .ref (q 43)), (1, .int k), (2, .int (nI N))] : List (Nat × Value))) (show ((bct (nI i)) : Int32) = (scv (t 50) np k (i + 1)).2 from by rw [scv]; simp only [h2, h3, decide_true, decide_false, Bool.not_true, Bool.not_false, Bool.true_and, Bool.false_and, Bool.and_true, Bool.and_false, Bool.true_or, Bool.or_true, Bool.false_or, Bool.or_false, Bool.and_self, Bool.or_self, bI_t, bI_f, if_true, if_false, ite_true, ite_false, Bool.false_eq_true, Bool.true_eq_false, eq_self, reduceIte, true_or, or_true, false_or, or_false, and_true, true_and, and_false, false_and, not_true_eq_false, not_false_eq_true, decide_eq_true_eq, decide_eq_false_iff_not])) ?_
            refine i_Leq (congrArg (fun z_9 => ([(5, .int (nI (i + 1))), (4, .int (scv (t 50) np k (i + 1)).2), (3, .int z_9), (0, .ref (q 43)), (1, .int k), (2, .int (nI N))] : List (Nat × Value))) (show ((nI i) : Int32) = (scv (t 50) np k (i + 1)).1 from by rw [scv]; simp only [h2, h3, decide_true, decide_false, Bool.not_true, Bool.not_false, Bool.true_and, Bool.false_and, Bool.and_true, Bool.and_false, Bool.true_or, Bool.or_true, Bool.false_or, Bool.or_false, Bool.and_self, Bool.or_self, bI_t, bI_f, if_true, if_false, ite_true, ite_false, Bool.false_eq_true, Bool.true_eq_false, eq_self, reduceIte, true_or, or_true, false_or, or_false, and_true, true_and, and_false, false_and, not_true_eq_false, not_false_eq_true, decide_eq_true_eq, decide_eq_false_iff_not])) ?_
            exact ih_lp (i + 1) (by omega) (by omega)
  refine i_bipush (v := (-9)) B dX3_smallestCover_0 (by decide) ?_
  refine i_istore_n B [(3, .int (-9)), (0, .ref (q 43)), (1, .int k), (2, .int (nI N))] dX3_smallestCover_2 (by decide) rfl ?_
  refine i_bipush (v := 11) B dX3_smallestCover_3 (by decide) ?_
  refine i_istore B [(4, .int 11), (3, .int (-9)), (0, .ref (q 43)), (1, .int k), (2, .int (nI N))] dX3_smallestCover_5 (by decide) rfl ?_
  refine i_iconst (v := 0) B dX3_smallestCover_7 (by decide) ?_
  refine i_istore B [(5, .int 0), (4, .int 11), (3, .int (-9)), (0, .ref (q 43)), (1, .int k), (2, .int (nI N))] dX3_smallestCover_8 (by decide) rfl ?_
  refine i_Leq (congrArg (fun z_9 => ([(5, .int z_9), (4, .int 11), (3, .int (-9)), (0, .ref (q 43)), (1, .int k), (2, .int (nI N))] : List (Nat × Value))) (show (0 : Int32) = (nI 0) from rfl)) ?_
  refine i_Leq (congrArg (fun z_9 => ([(5, .int (nI 0)), (4, .int z_9), (3, .int (-9)), (0, .ref (q 43)), (1, .int k), (2, .int (nI N))] : List (Nat × Value))) (show (11 : Int32) = (scv (t 50) np k 0).2 from rfl)) ?_
  refine i_Leq (congrArg (fun z_9 => ([(5, .int (nI 0)), (4, .int (scv (t 50) np k 0).2), (3, .int z_9), (0, .ref (q 43)), (1, .int k), (2, .int (nI N))] : List (Nat × Value))) (show ((-9) : Int32) = (scv (t 50) np k 0).1 from rfl)) ?_
  exact lp (N + 1) 0 (by omega) (Nat.zero_le _)

set_option maxHeartbeats 4000000 in
set_option maxRecDepth 100000 in
theorem k_X2_add (l : Launch) (E : ED) (q : Nat → Nat) (g : Nat → Int32) (a : Nat → Nat → Int32) (nl : Nat) (hl : g 20 = nI nl) (hnl : nl < 20) (x y e : Int32) : WR l E yX2_add cX2_add 4 .int 1 22 0 0 [.ref (q 46), .int x, .int y, .int e] (sB E q g a) (fun r (_ : Unit) => r = nI nl) (fun _ => sB E q (upd g 20 (nI (nl + 1))) (va_up (va_up (va_up a 21 (upd (a 21) nl x)) 22 (upd (a 22) nl y)) 23 (upd (a 23) nl e))) := by
  refine WR.mk (by decide) (Nat.le_of_ble_eq_true rfl) [(0, .ref (q 46)), (1, .int x), (2, .int y), (3, .int e)] rfl (fun Z B ret => ?_)
  refine i_aload_n B 0 dX2_add_0 rfl ?_
  refine i_get (v := .ref (q 23)) B flX2_20 0 rfl rfl dX2_add_1 ?_
  refine i_aload_n B 0 dX2_add_4 rfl ?_
  refine i_get (v := .ref (q 47)) B flX2_14 0 rfl rfl dX2_add_5 ?_
  refine i_get (v := .int (g 20)) B flX2_24 1 rfl rfl dX2_add_8 ?_
  refine i_iload_n B 3 dX2_add_11 rfl ?_
  refine i_iastN (f := (a 23)) B 4 nl (sB E q g (va_up a 23 (upd (a 23) nl e))) rfl hl (by omega) (by decide) rfl dX2_add_12 ?_
  refine i_aload_n B 0 dX2_add_13 rfl ?_
  refine i_get (v := .ref (q 47)) B flX2_14 0 rfl rfl dX2_add_14 ?_
  refine i_iload_n B 1 dX2_add_17 rfl ?_
  refine i_iload_n B 2 dX2_add_18 rfl ?_
  refine c_wiV (cells := 0) (slots := 0) (rest := []) (As := [.int x, .int y]) B (k_X5_add l E (q 47) (q 21) (q 22) 20 nl (g 20) hl (a 21) (a 22) (by omega) (by decide) x y) cal_yX5_add iv_yX5_add mlX2_28 rfl 1 rfl (by decide) (by decide) rfl (Nat.le_of_ble_eq_true rfl) ([((q 46), .inr (2, [.ref (q 47), .ref (q 23)]))]) ([((q 23), .inl (E.2.1, 20, .inl (upd (a 23) nl e)))]) rfl _ rfl dX2_add_19 (fun r _ hr => ?_)
  subst hr
  refine i_world (ws' := (sB E q (upd g 20 (nI (nl + 1))) (va_up (va_up (va_up a 23 (upd (a 23) nl e)) 21 (upd (a 21) nl x)) 22 (upd (a 22) nl y)))) rfl ?_
  exact ret _ _ _ () rfl dX2_add_22 (rfl)

set_option maxHeartbeats 4000000 in
set_option maxRecDepth 100000 in
theorem k_X2_init (l : Launch) (E : ED) (h : Nat) : WV l E yX2_init cX2_init 1 2 41 4 63 [.ref h] [(h, .inr (2, [.null, .null]))] (fun _ : Nat × Nat × Nat × Nat => True) (fun u => [(h, .inr (2, [.ref u.1, .ref u.2.2.2])), (u.1, .inr (5, [.ref u.2.1, .ref u.2.2.1, .int 0])), (u.2.1, .inl (E.2.1, 20, .inl (fun _ => 0))), (u.2.2.1, .inl (E.2.1, 20, .inl (fun _ => 0))), (u.2.2.2, .inl (E.2.1, 20, .inl (fun _ => 0)))]) := by
  refine WV.mk (by decide) (Nat.le_of_ble_eq_true rfl) [(0, .ref h)] rfl (fun Z B hI ret => ?_)
  have hI := hI rfl
  refine i_aload_n B 0 dX2_init_0 rfl ?_
  refine i_objInit B mlX2_3 ii_objectInit cd_objectInit dX2_init_1 (by decide) (Nat.le_of_ble_eq_true rfl) ?_
  refine i_aload_n B 0 dX2_init_4 rfl ?_
  refine i_new B cls5 [.null, .null, .int 0] wd_classLink_RX2_9_RX5 wd_instantiable_RX5_3 ini_RX5 (fun j hj => by rcases (show j = 0 ∨ j = 1 ∨ j = 2 by omega) with rfl | rfl | rfl <;> rfl) (by decide) (by decide) dX2_init_5 (fun o5 => ?_)
  refine i_world (ws' := [(h, .inr (2, [.null, .null])), (o5, .inr (5, [.null, .null, .int 0]))]) rfl ?_
  refine i_dup B dX2_init_8 rfl ?_
  refine i_bipush (v := 20) B dX2_init_9 (by decide) ?_
  refine c_wvI (cells := 1) (slots := 3) (rest := [.ref o5, .ref h]) (As := [.int 20]) B (k_X5_init20 l E o5) cal_yX5_init ⟨rfl, ii_yX5_init⟩ mlX2_11 (by decide) (by decide) rfl (Nat.le_of_ble_eq_true rfl) ([(h, .inr (2, [.null, .null]))]) ([]) rfl _ rfl dX2_init_11 (fun ⟨u1, u2⟩ hr => ?_)
  refine i_world (ws' := [(h, .inr (2, [.null, .null])), (o5, .inr (5, [.ref u1, .ref u2, .int 0])), (u1, .inl (E.2.1, 20, .inl (fun _ => 0))), (u2, .inl (E.2.1, 20, .inl (fun _ => 0)))]) rfl ?_
  refine i_putF B hI flX2_14 0 [(h, .inr (2, [.ref o5, .null])), (o5, .inr (5, [.ref u1, .ref u2, .int 0])), (u1, .inl (E.2.1, 20, .inl (fun _ => 0))), (u2, .inl (E.2.1, 20, .inl (fun _ => 0)))] rfl rfl rfl rfl rfl (Nat.le_of_ble_eq_true rfl) rfl dX2_init_14 ?_
  refine i_aload_n B 0 dX2_init_17 rfl ?_
  refine i_bipush (v := 20) B dX2_init_18 (by decide) ?_
  refine i_newI B 20 wd_arrayClass_int rfl (by decide) (by decide) (by decide) dX2_init_20 (fun n20 => ?_)
  refine i_world (ws' := [(h, .inr (2, [.ref o5, .null])), (o5, .inr (5, [.ref u1, .ref u2, .int 0])), (u1, .inl (E.2.1, 20, .inl (fun _ => 0))), (u2, .inl (E.2.1, 20, .inl (fun _ => 0))), (n20, .inl (E.2.1, 20, .inl (fun _ => 0)))]) rfl ?_
  refine i_putF B hI flX2_20 0 [(h, .inr (2, [.ref o5, .ref n20])), (o5, .inr (5, [.ref u1, .ref u2, .int 0])), (u1, .inl (E.2.1, 20, .inl (fun _ => 0))), (u2, .inl (E.2.1, 20, .inl (fun _ => 0))), (n20, .inl (E.2.1, 20, .inl (fun _ => 0)))] rfl rfl rfl rfl rfl (Nat.le_of_ble_eq_true rfl) rfl dX2_init_22 ?_
  exact ret _ _ (o5, u1, u2, n20) dX2_init_25 (trivial)

theorem prv_c (g : Nat → Int32) (a : Nat → Nat → Int32) (np i p : Nat) : (sn g a np (a 21 i - a 23 i) (a 22 i - a 23 i) p && (sn g a np (a 21 i + a 23 i) (a 22 i - a 23 i) p && (sn g a np (a 21 i - a 23 i) (a 22 i + a 23 i) p && sn g a np (a 21 i + a 23 i) (a 22 i + a 23 i) p))) = prv g a np i p := by
  rw [prv, Int32.sub_eq_add_neg, Int32.sub_eq_add_neg]
  cases sn g a np (a 21 i + -a 23 i) (a 22 i + -a 23 i) p <;> cases sn g a np (a 21 i + a 23 i) (a 22 i + -a 23 i) p <;> cases sn g a np (a 21 i + -a 23 i) (a 22 i + a 23 i) p <;> cases sn g a np (a 21 i + a 23 i) (a 22 i + a 23 i) p <;> rfl
def pvc (g : Nat → Int32) (a : Nat → Nat → Int32) (np p : Nat) (en : Int32) : Nat → Int32
  | 0 => 0
  | k + 1 => if (decide (pvc g a np p en k < en) && prv g a np k p) = true then pvc g a np p en k + 1 else pvc g a np p en k
theorem pvc_le {g : Nat → Int32} {a : Nat → Nat → Int32} {np p : Nat} {en : Int32} {i n : Nat} (h : ¬ pvc g a np p en i < en) (hi : i ≤ n) : pvc g a np p en n = pvc g a np p en i := by
  induction n with
  | zero => rw [show i = 0 by omega]
  | succ n ih =>
    by_cases e : i = n + 1
    · rw [e]
    · rw [pvc, ih (by omega), decide_eq_false h, Bool.false_and, if_neg (by decide)]

set_option maxHeartbeats 4000000 in
set_option maxRecDepth 100000 in
theorem k_X2_isProof (l : Launch) (E : ED) (q : Nat → Nat) (g : Nat → Int32) (a : Nat → Nat → Int32) (np : Nat) (hn : g 1 = nI np) (hnp : np ≤ 12) (nl : Nat) (hl : g 20 = nI nl) (hnl : nl ≤ 20) (hve : VEq g a np) (hlr : ∀ i, i < nl → inr (a 21 i - a 23 i) = true ∧ inr (a 21 i + a 23 i) = true ∧ inr (a 22 i - a 23 i) = true ∧ inr (a 22 i + a 23 i) = true) (lg p : Nat) (hlg : lg < nl) (hp : p < np) : RO l E yX2_isProof cX2_isProof 7 .boolean 4 107 [.ref (q 46), .int (nI lg), .ref (q 41), .int (nI p)] (sB E q g a ++ sW E q g a) (fun r => r = bI (prv g a np lg p)) := by
  refine RO.mk (by decide) (Nat.le_of_ble_eq_true rfl) [(0, .ref (q 46)), (1, .int (nI lg)), (2, .ref (q 41)), (3, .int (nI p))] rfl (fun Z B ret => ?_)
  refine i_aload_n B 0 dX2_isProof_0 rfl ?_
  refine i_get (v := .ref (q 47)) B flX2_14 0 rfl rfl dX2_isProof_1 ?_
  refine i_get (v := .ref (q 21)) B flX2_32 1 rfl rfl dX2_isProof_4 ?_
  refine i_iload_n B 1 dX2_isProof_7 rfl ?_
  refine i_ialdN B 2 lg rfl rfl (by omega) (by decide) dX2_isProof_8 ?_
  refine i_istore B [(4, .int ((a 21) lg)), (0, .ref (q 46)), (1, .int (nI lg)), (2, .ref (q 41)), (3, .int (nI p))] dX2_isProof_9 (by decide) rfl ?_
  refine i_aload_n B 1 dX2_isProof_11 rfl ?_
  refine i_get (v := .ref (q 47)) B flX2_14 0 rfl rfl dX2_isProof_12 ?_
  refine i_get (v := .ref (q 22)) B flX2_35 1 rfl rfl dX2_isProof_15 ?_
  refine i_iload_n B 2 dX2_isProof_18 rfl ?_
  refine i_ialdN B 3 lg rfl rfl (by omega) (by decide) dX2_isProof_19 ?_
  refine i_istore B [(5, .int ((a 22) lg)), (4, .int ((a 21) lg)), (0, .ref (q 46)), (1, .int (nI lg)), (2, .ref (q 41)), (3, .int (nI p))] dX2_isProof_20 (by decide) rfl ?_
  refine i_aload_n B 2 dX2_isProof_22 rfl ?_
  refine i_get (v := .ref (q 23)) B flX2_20 0 rfl rfl dX2_isProof_23 ?_
  refine i_iload_n B 3 dX2_isProof_26 rfl ?_
  refine i_ialdN B 4 lg rfl rfl (by omega) (by decide) dX2_isProof_27 ?_
  refine i_istore B [(6, .int ((a 23) lg)), (5, .int ((a 22) lg)), (4, .int ((a 21) lg)), (0, .ref (q 46)), (1, .int (nI lg)), (2, .ref (q 41)), (3, .int (nI p))] dX2_isProof_28 (by decide) rfl ?_
  refine i_aload_n B 5 dX2_isProof_30 rfl ?_
  refine i_iload B 2 dX2_isProof_31 rfl ?_
  refine i_iload B 0 dX2_isProof_33 rfl ?_
  refine i_isub B dX2_isProof_35 ?_
  refine i_iload B 1 dX2_isProof_36 rfl ?_
  refine i_iload B 0 dX2_isProof_38 rfl ?_
  refine i_isub B dX2_isProof_40 ?_
  refine i_iload_n B 6 dX2_isProof_41 rfl ?_
  refine c_roV (rest := []) (As := [.int (((a 21) lg) - ((a 23) lg)), .int (((a 22) lg) - ((a 23) lg)), .int (nI p)]) B (k_vis l E q g a np hn hnp hve p (by omega) (((a 21) lg) - ((a 23) lg)) (((a 22) lg) - ((a 23) lg)) (hlr lg hlg).1 (hlr lg hlg).2.2.1) cal_yX7_isVisible iv_yX7_isVisible mlX2_38 rfl 5 rfl (by decide) (by decide) rfl (Nat.le_of_ble_eq_true rfl) (Has.of [5, 6, 7, 8, 9] rfl rfl) _ rfl dX2_isProof_42 (fun r hr => ?_)
  subst hr
  refine i_val (v' := .int (bI (sn g a np (((a 21) lg) - ((a 23) lg)) (((a 22) lg) - ((a 23) lg)) p))) rfl ?_
  refine i_if_eq B 106 dX2_isProof_45 (by decide) (fun h1 => ?_) (fun h1 => ?_)
  · replace h1 := bI_0.mp h1
    refine i_iconst (v := 0) B dX2_isProof_106 (by decide) ?_
    exact ret _ _ _ (by decide) dX2_isProof_107 (by rw [← prv_c]; simp only [h1, decide_true, decide_false, Bool.not_true, Bool.not_false, Bool.true_and, Bool.false_and, Bool.and_true, Bool.and_false, Bool.true_or, Bool.or_true, Bool.false_or, Bool.or_false, Bool.and_self, Bool.or_self, bI_t, bI_f])
  · replace h1 := bI_n.mp h1
    refine i_aload_n B 5 dX2_isProof_48 rfl ?_
    refine i_iload B 2 dX2_isProof_49 rfl ?_
    refine i_iload B 0 dX2_isProof_51 rfl ?_
    refine i_iadd B dX2_isProof_53 ?_
    refine i_iload B 1 dX2_isProof_54 rfl ?_
    refine i_iload B 0 dX2_isProof_56 rfl ?_
    refine i_isub B dX2_isProof_58 ?_
    refine i_iload_n B 6 dX2_isProof_59 rfl ?_
    refine c_roV (rest := []) (As := [.int (((a 21) lg) + ((a 23) lg)), .int (((a 22) lg) - ((a 23) lg)), .int (nI p)]) B (k_vis l E q g a np hn hnp hve p (by omega) (((a 21) lg) + ((a 23) lg)) (((a 22) lg) - ((a 23) lg)) (hlr lg hlg).2.1 (hlr lg hlg).2.2.1) cal_yX7_isVisible iv_yX7_isVisible mlX2_38 rfl 5 rfl (by decide) (by decide) rfl (Nat.le_of_ble_eq_true rfl) (Has.of [5, 6, 7, 8, 9] rfl rfl) _ rfl dX2_isProof_60 (fun r hr => ?_)
    subst hr
    refine i_val (v' := .int (bI (sn g a np (((a 21) lg) + ((a 23) lg)) (((a 22) lg) - ((a 23) lg)) p))) rfl ?_
    refine i_if_eq B 106 dX2_isProof_63 (by decide) (fun h2 => ?_) (fun h2 => ?_)
    · replace h2 := bI_0.mp h2
      refine i_iconst (v := 0) B dX2_isProof_106 (by decide) ?_
      exact ret _ _ _ (by decide) dX2_isProof_107 (by rw [← prv_c]; simp only [h1, h2, decide_true, decide_false, Bool.not_true, Bool.not_false, Bool.true_and, Bool.false_and, Bool.and_true, Bool.and_false, Bool.true_or, Bool.or_true, Bool.false_or, Bool.or_false, Bool.and_self, Bool.or_self, bI_t, bI_f])
    · replace h2 := bI_n.mp h2
      refine i_aload_n B 5 dX2_isProof_66 rfl ?_
      refine i_iload B 2 dX2_isProof_67 rfl ?_
      refine i_iload B 0 dX2_isProof_69 rfl ?_
      refine i_isub B dX2_isProof_71 ?_
      refine i_iload B 1 dX2_isProof_72 rfl ?_
      refine i_iload B 0 dX2_isProof_74 rfl ?_
      refine i_iadd B dX2_isProof_76 ?_
      refine i_iload_n B 6 dX2_isProof_77 rfl ?_
      refine c_roV (rest := []) (As := [.int (((a 21) lg) - ((a 23) lg)), .int (((a 22) lg) + ((a 23) lg)), .int (nI p)]) B (k_vis l E q g a np hn hnp hve p (by omega) (((a 21) lg) - ((a 23) lg)) (((a 22) lg) + ((a 23) lg)) (hlr lg hlg).1 (hlr lg hlg).2.2.2) cal_yX7_isVisible iv_yX7_isVisible mlX2_38 rfl 5 rfl (by decide) (by decide) rfl (Nat.le_of_ble_eq_true rfl) (Has.of [5, 6, 7, 8, 9] rfl rfl) _ rfl dX2_isProof_78 (fun r hr => ?_)
      subst hr
      refine i_val (v' := .int (bI (sn g a np (((a 21) lg) - ((a 23) lg)) (((a 22) lg) + ((a 23) lg)) p))) rfl ?_
      refine i_if_eq B 106 dX2_isProof_81 (by decide) (fun h3 => ?_) (fun h3 => ?_)
      · replace h3 := bI_0.mp h3
        refine i_iconst (v := 0) B dX2_isProof_106 (by decide) ?_
        exact ret _ _ _ (by decide) dX2_isProof_107 (by rw [← prv_c]; simp only [h1, h2, h3, decide_true, decide_false, Bool.not_true, Bool.not_false, Bool.true_and, Bool.false_and, Bool.and_true, Bool.and_false, Bool.true_or, Bool.or_true, Bool.false_or, Bool.or_false, Bool.and_self, Bool.or_self, bI_t, bI_f])
      · replace h3 := bI_n.mp h3
        refine i_aload_n B 5 dX2_isProof_84 rfl ?_
        refine i_iload B 2 dX2_isProof_85 rfl ?_
        refine i_iload B 0 dX2_isProof_87 rfl ?_
        refine i_iadd B dX2_isProof_89 ?_
        refine i_iload B 1 dX2_isProof_90 rfl ?_
        refine i_iload B 0 dX2_isProof_92 rfl ?_
        refine i_iadd B dX2_isProof_94 ?_
        refine i_iload_n B 6 dX2_isProof_95 rfl ?_
        refine c_roV (rest := []) (As := [.int (((a 21) lg) + ((a 23) lg)), .int (((a 22) lg) + ((a 23) lg)), .int (nI p)]) B (k_vis l E q g a np hn hnp hve p (by omega) (((a 21) lg) + ((a 23) lg)) (((a 22) lg) + ((a 23) lg)) (hlr lg hlg).2.1 (hlr lg hlg).2.2.2) cal_yX7_isVisible iv_yX7_isVisible mlX2_38 rfl 5 rfl (by decide) (by decide) rfl (Nat.le_of_ble_eq_true rfl) (Has.of [5, 6, 7, 8, 9] rfl rfl) _ rfl dX2_isProof_96 (fun r hr => ?_)
        subst hr
        refine i_val (v' := .int (bI (sn g a np (((a 21) lg) + ((a 23) lg)) (((a 22) lg) + ((a 23) lg)) p))) rfl ?_
        refine i_if_eq B 106 dX2_isProof_99 (by decide) (fun h4 => ?_) (fun h4 => ?_)
        · replace h4 := bI_0.mp h4
          refine i_iconst (v := 0) B dX2_isProof_106 (by decide) ?_
          exact ret _ _ _ (by decide) dX2_isProof_107 (by rw [← prv_c]; simp only [h1, h2, h3, h4, decide_true, decide_false, Bool.not_true, Bool.not_false, Bool.true_and, Bool.false_and, Bool.and_true, Bool.and_false, Bool.true_or, Bool.or_true, Bool.false_or, Bool.or_false, Bool.and_self, Bool.or_self, bI_t, bI_f])
        · replace h4 := bI_n.mp h4
          refine i_iconst (v := 1) B dX2_isProof_102 (by decide) ?_
          refine i_goto B 107 dX2_isProof_103 (by decide) ?_
          exact ret _ _ _ (by decide) dX2_isProof_107 (by rw [← prv_c]; simp only [h1, h2, h3, h4, decide_true, decide_false, Bool.not_true, Bool.not_false, Bool.true_and, Bool.false_and, Bool.and_true, Bool.and_false, Bool.true_or, Bool.or_true, Bool.false_or, Bool.or_false, Bool.and_self, Bool.or_self, bI_t, bI_f])

set_option maxHeartbeats 4000000 in
set_option maxRecDepth 100000 in
theorem k_X2_proofs (l : Launch) (E : ED) (q : Nat → Nat) (g : Nat → Int32) (a : Nat → Nat → Int32) (np : Nat) (hn : g 1 = nI np) (hnp : np ≤ 12) (nl : Nat) (hl : g 20 = nI nl) (hnl : nl ≤ 20) (hve : VEq g a np) (hlr : ∀ i, i < nl → inr (a 21 i - a 23 i) = true ∧ inr (a 21 i + a 23 i) = true ∧ inr (a 22 i - a 23 i) = true ∧ inr (a 22 i + a 23 i) = true) (p : Nat) (hp : p < np) (en : Int32) : RO l E yX2_proofs cX2_proofs 6 .int 5 133 [.ref (q 46), .ref (q 41), .int (nI p), .int en] (sB E q g a ++ sW E q g a) (fun r => r = pvc g a np p en nl) := by
  refine RO.mk (by decide) (Nat.le_of_ble_eq_true rfl) [(0, .ref (q 46)), (1, .ref (q 41)), (2, .int (nI p)), (3, .int en)] rfl (fun Z B ret => ?_)
  have lp : ∀ (n_lp : Nat) (i : Nat), (nl - i < n_lp) → (i ≤ nl) → J Z 0 0 (sB E q g a ++ sW E q g a) 6 [(5, .int (nI i)), (4, .int (pvc g a np p en i)), (0, .ref (q 46)), (1, .ref (q 41)), (2, .int (nI p)), (3, .int en)] [] := by
    intro n_lp
    induction n_lp with
    | zero => intro i hf_lp hi; omega
    | succ n_lp ih_lp =>
      intro i hf_lp hi
      refine i_iload B 0 dX2_proofs_6 rfl ?_
      refine i_aload_n B 2 dX2_proofs_8 rfl ?_
      refine i_get (v := .ref (q 47)) B flX2_14 0 rfl rfl dX2_proofs_9 ?_
      refine i_get (v := .int (g 20)) B flX2_24 1 rfl rfl dX2_proofs_12 ?_
      refine i_icmp_ge B 44 dX2_proofs_15 (by decide) (fun h1 => ?_) (fun h1 => ?_)
      · replace h1 := q_n32.mpr h1
        rw [hl, nI_ltI (by omega) (by omega)] at h1
        refine i_iload B 1 dX2_proofs_44 rfl ?_
        exact ret _ _ _ rfl dX2_proofs_46 (by rw [show nl = i by omega])
      · replace h1 := q_m32.mp h1
        rw [hl, nI_ltI (by omega) (by omega)] at h1
        refine i_iload B 1 dX2_proofs_18 rfl ?_
        refine i_iload_n B 5 dX2_proofs_20 rfl ?_
        refine i_icmp_ge B 44 dX2_proofs_21 (by decide) (fun h2 => ?_) (fun h2 => ?_)
        · replace h2 := q_n32.mpr h2
          refine i_iload B 1 dX2_proofs_44 rfl ?_
          exact ret _ _ _ rfl dX2_proofs_46 ((pvc_le h2 (by omega)).symm)
        · replace h2 := q_m32.mp h2
          refine i_aload_n B 2 dX2_proofs_24 rfl ?_
          refine i_iload B 0 dX2_proofs_25 rfl ?_
          refine i_aload_n B 3 dX2_proofs_27 rfl ?_
          refine i_iload_n B 4 dX2_proofs_28 rfl ?_
          refine c_roV (rest := []) (As := [.int (nI i), .ref (q 41), .int (nI p)]) B (k_X2_isProof l E q g a np hn hnp nl hl hnl hve hlr i p (by omega) (by omega)) cal_yX2_isProof iv_yX2_isProof mlX2_44 rfl 0 rfl (by decide) (by decide) rfl (Nat.le_of_ble_eq_true rfl) Has.rf _ rfl dX2_proofs_29 (fun r hr => ?_)
          subst hr
          refine i_val (v' := .int (bI (prv g a np i p))) rfl ?_
          refine i_if_eq B 38 dX2_proofs_32 (by decide) (fun h3 => ?_) (fun h3 => ?_)
          · replace h3 := bI_0.mp h3
            refine i_iinc (v := (nI (i + 1))) B 0 [(5, .int (nI (i + 1))), (4, .int (pvc g a np p en i)), (0, .ref (q 46)), (1, .ref (q 41)), (2, .int (nI p)), (3, .int en)] dX2_proofs_38 rfl ((nI_1 _)) (by decide) rfl ?_
            refine i_goto B 6 dX2_proofs_41 (by decide) ?_
            refine i_Leq (congrArg (fun z_9 => ([(5, .int (nI (i + 1))), (4, .int z_9), (0, .ref (q 46)), (1, .ref (q 41)), (2, .int (nI p)), (3, .int en)] : List (Nat × Value))) (show ((pvc g a np p en i) : Int32) = (pvc g a np p en (i + 1)) from by rw [pvc]; simp only [h2, h3, decide_true, decide_false, Bool.not_true, Bool.not_false, Bool.true_and, Bool.false_and, Bool.and_true, Bool.and_false, Bool.true_or, Bool.or_true, Bool.false_or, Bool.or_false, Bool.and_self, Bool.or_self, bI_t, bI_f, if_true, if_false, ite_true, ite_false, Bool.false_eq_true, Bool.true_eq_false, eq_self, reduceIte, true_or, or_true, false_or, or_false, and_true, true_and, and_false, false_and, not_true_eq_false, not_false_eq_true, decide_eq_true_eq, decide_eq_false_iff_not])) ?_
            exact ih_lp (i + 1) (by omega) (by omega)
          · replace h3 := bI_n.mp h3
            refine i_iinc (v := ((pvc g a np p en i) + 1)) B 1 [(4, .int ((pvc g a np p en i) + 1)), (5, .int (nI i)), (0, .ref (q 46)), (1, .ref (q 41)), (2, .int (nI p)), (3, .int en)] dX2_proofs_35 rfl (rfl) (by decide) rfl ?_
            refine i_iinc (v := (nI (i + 1))) B 1 [(5, .int (nI (i + 1))), (4, .int ((pvc g a np p en i) + 1)), (0, .ref (q 46)), (1, .ref (q 41)), (2, .int (nI p)), (3, .int en)] dX2_proofs_38 rfl ((nI_1 _)) (by decide) rfl ?_
            refine i_goto B 6 dX2_proofs_41 (by decide) ?_
            refine i_Leq (congrArg (fun z_9 => ([(5, .int (nI (i + 1))), (4, .int z_9), (0, .ref (q 46)), (1, .ref (q 41)), (2, .int (nI p)), (3, .int en)] : List (Nat × Value))) (show (((pvc g a np p en i) + 1) : Int32) = (pvc g a np p en (i + 1)) from by rw [pvc]; simp only [h2, h3, decide_true, decide_false, Bool.not_true, Bool.not_false, Bool.true_and, Bool.false_and, Bool.and_true, Bool.and_false, Bool.true_or, Bool.or_true, Bool.false_or, Bool.or_false, Bool.and_self, Bool.or_self, bI_t, bI_f, if_true, if_false, ite_true, ite_false, Bool.false_eq_true, Bool.true_eq_false, eq_self, reduceIte, true_or, or_true, false_or, or_false, and_true, true_and, and_false, false_and, not_true_eq_false, not_false_eq_true, decide_eq_true_eq, decide_eq_false_iff_not])) ?_
            exact ih_lp (i + 1) (by omega) (by omega)
  refine i_iconst (v := 0) B dX2_proofs_0 (by decide) ?_
  refine i_istore B [(4, .int 0), (0, .ref (q 46)), (1, .ref (q 41)), (2, .int (nI p)), (3, .int en)] dX2_proofs_1 (by decide) rfl ?_
  refine i_iconst (v := 0) B dX2_proofs_3 (by decide) ?_
  refine i_istore B [(5, .int 0), (4, .int 0), (0, .ref (q 46)), (1, .ref (q 41)), (2, .int (nI p)), (3, .int en)] dX2_proofs_4 (by decide) rfl ?_
  refine i_Leq (congrArg (fun z_9 => ([(5, .int z_9), (4, .int 0), (0, .ref (q 46)), (1, .ref (q 41)), (2, .int (nI p)), (3, .int en)] : List (Nat × Value))) (show (0 : Int32) = (nI 0) from rfl)) ?_
  refine i_Leq (congrArg (fun z_9 => ([(5, .int (nI 0)), (4, .int z_9), (0, .ref (q 46)), (1, .ref (q 41)), (2, .int (nI p)), (3, .int en)] : List (Nat × Value))) (show (0 : Int32) = (pvc g a np p en 0) from rfl)) ?_
  exact lp (nl + 1) 0 (by omega) (Nat.zero_le _)

set_option maxHeartbeats 4000000 in
set_option maxRecDepth 100000 in
theorem k_X4_init (l : Launch) (E : ED) (h : Nat) : WV l E yX4_init cX4_init 1 1 20 8 321 [.ref h] [(h, .inr (4, [.null, .null, .null, .null, .null, .int 0, .null, .null, .null, .int 0, .int 0]))] (fun _ : Nat → Nat => True) (fun u : Nat → Nat => [(h, .inr (4, [.ref (u 25), .ref (u 26), .ref (u 27), .ref (u 28), .ref (u 29), .int 0, .ref (u 51), .ref (u 52), .ref (u 53), .int 0, .int 0])), (u 25, .inl (E.2.1, 40, .inl (fun _ => 0))), (u 26, .inl (E.2.1, 40, .inl (fun _ => 0))), (u 27, .inl (E.2.1, 40, .inl (fun _ => 0))), (u 28, .inl (E.2.1, 40, .inl (fun _ => 0))), (u 29, .inl (E.2.2, 40, .inl (fun _ => 0))), (u 51, .inl (E.2.1, 40, .inl (fun _ => 0))), (u 52, .inl (E.2.1, 40, .inl (fun _ => 0))), (u 53, .inl (E.2.1, 41, .inl (fun _ => 0)))]) := by
  refine WV.mk (by decide) (Nat.le_of_ble_eq_true rfl) [(0, .ref h)] rfl (fun Z B hI ret => ?_)
  have hI := hI rfl
  refine i_aload_n B 0 dX4_init_0 rfl ?_
  refine i_objInit B mlX4_3 ii_objectInit cd_objectInit dX4_init_1 (by decide) (Nat.le_of_ble_eq_true rfl) ?_
  refine i_aload_n B 0 dX4_init_4 rfl ?_
  refine i_bipush (v := 40) B dX4_init_5 (by decide) ?_
  refine i_newI B 40 wd_arrayClass_int rfl (by decide) (by decide) (by decide) dX4_init_7 (fun n7 => ?_)
  refine i_world (ws' := [(h, .inr (4, [.null, .null, .null, .null, .null, .int 0, .null, .null, .null, .int 0, .int 0])), (n7, .inl (E.2.1, 40, .inl (fun _ => 0)))]) rfl ?_
  refine i_putF B hI flX4_9 0 [(h, .inr (4, [.ref n7, .null, .null, .null, .null, .int 0, .null, .null, .null, .int 0, .int 0])), (n7, .inl (E.2.1, 40, .inl (fun _ => 0)))] rfl rfl rfl rfl rfl (Nat.le_of_ble_eq_true rfl) rfl dX4_init_9 ?_
  refine i_aload_n B 0 dX4_init_12 rfl ?_
  refine i_bipush (v := 40) B dX4_init_13 (by decide) ?_
  refine i_newI B 40 wd_arrayClass_int rfl (by decide) (by decide) (by decide) dX4_init_15 (fun n15 => ?_)
  refine i_world (ws' := [(h, .inr (4, [.ref n7, .null, .null, .null, .null, .int 0, .null, .null, .null, .int 0, .int 0])), (n7, .inl (E.2.1, 40, .inl (fun _ => 0))), (n15, .inl (E.2.1, 40, .inl (fun _ => 0)))]) rfl ?_
  refine i_putF B hI flX4_15 0 [(h, .inr (4, [.ref n7, .ref n15, .null, .null, .null, .int 0, .null, .null, .null, .int 0, .int 0])), (n7, .inl (E.2.1, 40, .inl (fun _ => 0))), (n15, .inl (E.2.1, 40, .inl (fun _ => 0)))] rfl rfl rfl rfl rfl (Nat.le_of_ble_eq_true rfl) rfl dX4_init_17 ?_
  refine i_aload_n B 0 dX4_init_20 rfl ?_
  refine i_bipush (v := 40) B dX4_init_21 (by decide) ?_
  refine i_newI B 40 wd_arrayClass_int rfl (by decide) (by decide) (by decide) dX4_init_23 (fun n23 => ?_)
  refine i_world (ws' := [(h, .inr (4, [.ref n7, .ref n15, .null, .null, .null, .int 0, .null, .null, .null, .int 0, .int 0])), (n7, .inl (E.2.1, 40, .inl (fun _ => 0))), (n15, .inl (E.2.1, 40, .inl (fun _ => 0))), (n23, .inl (E.2.1, 40, .inl (fun _ => 0)))]) rfl ?_
  refine i_putF B hI flX4_18 0 [(h, .inr (4, [.ref n7, .ref n15, .ref n23, .null, .null, .int 0, .null, .null, .null, .int 0, .int 0])), (n7, .inl (E.2.1, 40, .inl (fun _ => 0))), (n15, .inl (E.2.1, 40, .inl (fun _ => 0))), (n23, .inl (E.2.1, 40, .inl (fun _ => 0)))] rfl rfl rfl rfl rfl (Nat.le_of_ble_eq_true rfl) rfl dX4_init_25 ?_
  refine i_aload_n B 0 dX4_init_28 rfl ?_
  refine i_bipush (v := 40) B dX4_init_29 (by decide) ?_
  refine i_newI B 40 wd_arrayClass_int rfl (by decide) (by decide) (by decide) dX4_init_31 (fun n31 => ?_)
  refine i_world (ws' := [(h, .inr (4, [.ref n7, .ref n15, .ref n23, .null, .null, .int 0, .null, .null, .null, .int 0, .int 0])), (n7, .inl (E.2.1, 40, .inl (fun _ => 0))), (n15, .inl (E.2.1, 40, .inl (fun _ => 0))), (n23, .inl (E.2.1, 40, .inl (fun _ => 0))), (n31, .inl (E.2.1, 40, .inl (fun _ => 0)))]) rfl ?_
  refine i_putF B hI flX4_21 0 [(h, .inr (4, [.ref n7, .ref n15, .ref n23, .ref n31, .null, .int 0, .null, .null, .null, .int 0, .int 0])), (n7, .inl (E.2.1, 40, .inl (fun _ => 0))), (n15, .inl (E.2.1, 40, .inl (fun _ => 0))), (n23, .inl (E.2.1, 40, .inl (fun _ => 0))), (n31, .inl (E.2.1, 40, .inl (fun _ => 0)))] rfl rfl rfl rfl rfl (Nat.le_of_ble_eq_true rfl) rfl dX4_init_33 ?_
  refine i_aload_n B 0 dX4_init_36 rfl ?_
  refine i_bipush (v := 40) B dX4_init_37 (by decide) ?_
  refine i_newZ B 40 wd_arrayClass_boolean rfl (by decide) (by decide) (by decide) dX4_init_39 (fun n39 => ?_)
  refine i_world (ws' := [(h, .inr (4, [.ref n7, .ref n15, .ref n23, .ref n31, .null, .int 0, .null, .null, .null, .int 0, .int 0])), (n7, .inl (E.2.1, 40, .inl (fun _ => 0))), (n15, .inl (E.2.1, 40, .inl (fun _ => 0))), (n23, .inl (E.2.1, 40, .inl (fun _ => 0))), (n31, .inl (E.2.1, 40, .inl (fun _ => 0))), (n39, .inl (E.2.2, 40, .inl (fun _ => 0)))]) rfl ?_
  refine i_putF B hI flX4_24 0 [(h, .inr (4, [.ref n7, .ref n15, .ref n23, .ref n31, .ref n39, .int 0, .null, .null, .null, .int 0, .int 0])), (n7, .inl (E.2.1, 40, .inl (fun _ => 0))), (n15, .inl (E.2.1, 40, .inl (fun _ => 0))), (n23, .inl (E.2.1, 40, .inl (fun _ => 0))), (n31, .inl (E.2.1, 40, .inl (fun _ => 0))), (n39, .inl (E.2.2, 40, .inl (fun _ => 0)))] rfl rfl rfl rfl rfl (Nat.le_of_ble_eq_true rfl) rfl dX4_init_41 ?_
  refine i_aload_n B 0 dX4_init_44 rfl ?_
  refine i_bipush (v := 40) B dX4_init_45 (by decide) ?_
  refine i_newI B 40 wd_arrayClass_int rfl (by decide) (by decide) (by decide) dX4_init_47 (fun n47 => ?_)
  refine i_world (ws' := [(h, .inr (4, [.ref n7, .ref n15, .ref n23, .ref n31, .ref n39, .int 0, .null, .null, .null, .int 0, .int 0])), (n7, .inl (E.2.1, 40, .inl (fun _ => 0))), (n15, .inl (E.2.1, 40, .inl (fun _ => 0))), (n23, .inl (E.2.1, 40, .inl (fun _ => 0))), (n31, .inl (E.2.1, 40, .inl (fun _ => 0))), (n39, .inl (E.2.2, 40, .inl (fun _ => 0))), (n47, .inl (E.2.1, 40, .inl (fun _ => 0)))]) rfl ?_
  refine i_putF B hI flX4_28 0 [(h, .inr (4, [.ref n7, .ref n15, .ref n23, .ref n31, .ref n39, .int 0, .ref n47, .null, .null, .int 0, .int 0])), (n7, .inl (E.2.1, 40, .inl (fun _ => 0))), (n15, .inl (E.2.1, 40, .inl (fun _ => 0))), (n23, .inl (E.2.1, 40, .inl (fun _ => 0))), (n31, .inl (E.2.1, 40, .inl (fun _ => 0))), (n39, .inl (E.2.2, 40, .inl (fun _ => 0))), (n47, .inl (E.2.1, 40, .inl (fun _ => 0)))] rfl rfl rfl rfl rfl (Nat.le_of_ble_eq_true rfl) rfl dX4_init_49 ?_
  refine i_aload_n B 0 dX4_init_52 rfl ?_
  refine i_bipush (v := 40) B dX4_init_53 (by decide) ?_
  refine i_newI B 40 wd_arrayClass_int rfl (by decide) (by decide) (by decide) dX4_init_55 (fun n55 => ?_)
  refine i_world (ws' := [(h, .inr (4, [.ref n7, .ref n15, .ref n23, .ref n31, .ref n39, .int 0, .ref n47, .null, .null, .int 0, .int 0])), (n7, .inl (E.2.1, 40, .inl (fun _ => 0))), (n15, .inl (E.2.1, 40, .inl (fun _ => 0))), (n23, .inl (E.2.1, 40, .inl (fun _ => 0))), (n31, .inl (E.2.1, 40, .inl (fun _ => 0))), (n39, .inl (E.2.2, 40, .inl (fun _ => 0))), (n47, .inl (E.2.1, 40, .inl (fun _ => 0))), (n55, .inl (E.2.1, 40, .inl (fun _ => 0)))]) rfl ?_
  refine i_putF B hI flX4_31 0 [(h, .inr (4, [.ref n7, .ref n15, .ref n23, .ref n31, .ref n39, .int 0, .ref n47, .ref n55, .null, .int 0, .int 0])), (n7, .inl (E.2.1, 40, .inl (fun _ => 0))), (n15, .inl (E.2.1, 40, .inl (fun _ => 0))), (n23, .inl (E.2.1, 40, .inl (fun _ => 0))), (n31, .inl (E.2.1, 40, .inl (fun _ => 0))), (n39, .inl (E.2.2, 40, .inl (fun _ => 0))), (n47, .inl (E.2.1, 40, .inl (fun _ => 0))), (n55, .inl (E.2.1, 40, .inl (fun _ => 0)))] rfl rfl rfl rfl rfl (Nat.le_of_ble_eq_true rfl) rfl dX4_init_57 ?_
  refine i_aload_n B 0 dX4_init_60 rfl ?_
  refine i_bipush (v := 41) B dX4_init_61 (by decide) ?_
  refine i_newI B 41 wd_arrayClass_int rfl (by decide) (by decide) (by decide) dX4_init_63 (fun n63 => ?_)
  refine i_world (ws' := [(h, .inr (4, [.ref n7, .ref n15, .ref n23, .ref n31, .ref n39, .int 0, .ref n47, .ref n55, .null, .int 0, .int 0])), (n7, .inl (E.2.1, 40, .inl (fun _ => 0))), (n15, .inl (E.2.1, 40, .inl (fun _ => 0))), (n23, .inl (E.2.1, 40, .inl (fun _ => 0))), (n31, .inl (E.2.1, 40, .inl (fun _ => 0))), (n39, .inl (E.2.2, 40, .inl (fun _ => 0))), (n47, .inl (E.2.1, 40, .inl (fun _ => 0))), (n55, .inl (E.2.1, 40, .inl (fun _ => 0))), (n63, .inl (E.2.1, 41, .inl (fun _ => 0)))]) rfl ?_
  refine i_putF B hI flX4_34 0 [(h, .inr (4, [.ref n7, .ref n15, .ref n23, .ref n31, .ref n39, .int 0, .ref n47, .ref n55, .ref n63, .int 0, .int 0])), (n7, .inl (E.2.1, 40, .inl (fun _ => 0))), (n15, .inl (E.2.1, 40, .inl (fun _ => 0))), (n23, .inl (E.2.1, 40, .inl (fun _ => 0))), (n31, .inl (E.2.1, 40, .inl (fun _ => 0))), (n39, .inl (E.2.2, 40, .inl (fun _ => 0))), (n47, .inl (E.2.1, 40, .inl (fun _ => 0))), (n55, .inl (E.2.1, 40, .inl (fun _ => 0))), (n63, .inl (E.2.1, 41, .inl (fun _ => 0)))] rfl rfl rfl rfl rfl (Nat.le_of_ble_eq_true rfl) rfl dX4_init_65 ?_
  exact ret _ _ (va_up (va_up (va_up (va_up (va_up (va_up (va_up (va_up (fun _ => 0) 25 n7) 26 n15) 27 n23) 28 n31) 29 n39) 51 n47) 52 n55) 53 n63) dX4_init_68 (trivial)

set_option maxHeartbeats 4000000 in
set_option maxRecDepth 100000 in
theorem k_X4_add (l : Launch) (E : ED) (q : Nat → Nat) (g : Nat → Int32) (a : Nat → Nat → Int32) (s : Nat → Int32) (t : Nat → Nat → Int32) (nm : Nat) (hm : g 24 = nI nm) (hnm : nm < 40) (p at_ len yr : Int32) : WR l E yX4_add cX4_add 5 .int 0 0 0 0 [.ref (q 48), .int p, .int at_, .int len, .int yr] (sM E q g a s t) (fun r (_ : Unit) => r = nI nm) (fun _ => sM E q (upd g 24 (nI (nm + 1))) (va_up (va_up (va_up (va_up a 25 (upd (a 25) nm p)) 26 (upd (a 26) nm at_)) 27 (upd (a 27) nm len)) 28 (upd (a 28) nm yr)) s t) := by
  refine WR.mk (by decide) (Nat.le_of_ble_eq_true rfl) [(0, .ref (q 48)), (1, .int p), (2, .int at_), (3, .int len), (4, .int yr)] rfl (fun Z B ret => ?_)
  refine i_aload_n B 0 dX4_add_0 rfl ?_
  refine i_get (v := .ref (q 25)) B flX4_9 0 rfl rfl dX4_add_1 ?_
  refine i_aload_n B 0 dX4_add_4 rfl ?_
  refine i_get (v := .int (g 24)) B flX4_37 0 rfl rfl dX4_add_5 ?_
  refine i_iload_n B 1 dX4_add_8 rfl ?_
  refine i_iastN (f := (a 25)) B 1 nm (sM E q g (va_up a 25 (upd (a 25) nm p)) s t) rfl hm (by omega) (by decide) rfl dX4_add_9 ?_
  refine i_aload_n B 0 dX4_add_10 rfl ?_
  refine i_get (v := .ref (q 26)) B flX4_15 0 rfl rfl dX4_add_11 ?_
  refine i_aload_n B 0 dX4_add_14 rfl ?_
  refine i_get (v := .int (g 24)) B flX4_37 0 rfl rfl dX4_add_15 ?_
  refine i_iload_n B 2 dX4_add_18 rfl ?_
  refine i_iastN (f := (a 26)) B 2 nm (sM E q g (va_up (va_up a 25 (upd (a 25) nm p)) 26 (upd (a 26) nm at_)) s t) rfl hm (by omega) (by decide) rfl dX4_add_19 ?_
  refine i_aload_n B 0 dX4_add_20 rfl ?_
  refine i_get (v := .ref (q 27)) B flX4_18 0 rfl rfl dX4_add_21 ?_
  refine i_aload_n B 0 dX4_add_24 rfl ?_
  refine i_get (v := .int (g 24)) B flX4_37 0 rfl rfl dX4_add_25 ?_
  refine i_iload_n B 3 dX4_add_28 rfl ?_
  refine i_iastN (f := (a 27)) B 3 nm (sM E q g (va_up (va_up (va_up a 25 (upd (a 25) nm p)) 26 (upd (a 26) nm at_)) 27 (upd (a 27) nm len)) s t) rfl hm (by omega) (by decide) rfl dX4_add_29 ?_
  refine i_aload_n B 0 dX4_add_30 rfl ?_
  refine i_get (v := .ref (q 28)) B flX4_21 0 rfl rfl dX4_add_31 ?_
  refine i_aload_n B 0 dX4_add_34 rfl ?_
  refine i_get (v := .int (g 24)) B flX4_37 0 rfl rfl dX4_add_35 ?_
  refine i_iload B 4 dX4_add_38 rfl ?_
  refine i_iastN (f := (a 28)) B 4 nm (sM E q g (va_up (va_up (va_up (va_up a 25 (upd (a 25) nm p)) 26 (upd (a 26) nm at_)) 27 (upd (a 27) nm len)) 28 (upd (a 28) nm yr)) s t) rfl hm (by omega) (by decide) rfl dX4_add_40 ?_
  refine i_aload_n B 0 dX4_add_41 rfl ?_
  refine i_dup B dX4_add_42 rfl ?_
  refine i_get (v := .int (g 24)) B flX4_37 0 rfl rfl dX4_add_43 ?_
  refine i_iconst (v := 1) B dX4_add_46 (by decide) ?_
  refine i_iadd B dX4_add_47 ?_
  refine i_val (v' := .int (nI (nm + 1))) (congrArg Value.int (by rw [hm]; exact nI_1 _)) ?_
  refine i_put B flX4_37 0 (sM E q (upd g 24 (nI (nm + 1))) (va_up (va_up (va_up (va_up a 25 (upd (a 25) nm p)) 26 (upd (a 26) nm at_)) 27 (upd (a 27) nm len)) 28 (upd (a 28) nm yr)) s t) rfl rfl rfl rfl (Nat.le_of_ble_eq_true rfl) rfl dX4_add_48 ?_
  refine i_aload_n B 0 dX4_add_51 rfl ?_
  refine i_get (v := .int (nI (nm + 1))) B flX4_37 0 rfl rfl dX4_add_52 ?_
  refine i_iconst (v := 1) B dX4_add_55 (by decide) ?_
  refine i_isub B dX4_add_56 ?_
  exact ret _ _ _ () rfl dX4_add_57 (by rw [nI_pred])

set_option maxHeartbeats 4000000 in
set_option maxRecDepth 100000 in
theorem k_X4_present (l : Launch) (E : ED) (q : Nat → Nat) (g : Nat → Int32) (a : Nat → Nat → Int32) (s : Nat → Int32) (t : Nat → Nat → Int32) (nm : Nat) (hm : g 24 = nI nm) (hnm : nm ≤ 40) : RO l E yX4_present cX4_present 3 .int 0 0 [.ref (q 48)] (sM E q g a s t) (fun r => r = cnw (a 29) nm) := by
  refine RO.mk (by decide) (Nat.le_of_ble_eq_true rfl) [(0, .ref (q 48))] rfl (fun Z B ret => ?_)
  have lp : ∀ (n_lp : Nat) (i : Nat), (nm - i < n_lp) → (i ≤ nm) → J Z 0 0 (sM E q g a s t) 4 [(2, .int (nI i)), (1, .int (cnw (a 29) i)), (0, .ref (q 48))] [] := by
    intro n_lp
    induction n_lp with
    | zero => intro i hf_lp hi; omega
    | succ n_lp ih_lp =>
      intro i hf_lp hi
      refine i_iload_n B 0 dX4_present_4 rfl ?_
      refine i_aload_n B 2 dX4_present_5 rfl ?_
      refine i_get (v := .int (g 24)) B flX4_37 0 rfl rfl dX4_present_6 ?_
      refine i_icmp_ge B 30 dX4_present_9 (by decide) (fun h1 => ?_) (fun h1 => ?_)
      · replace h1 := q_n32.mpr h1
        rw [hm, nI_ltI (by omega) (by omega)] at h1
        refine i_iload_n B 1 dX4_present_30 rfl ?_
        exact ret _ _ _ rfl dX4_present_31 (by rw [show nm = i by omega])
      · replace h1 := q_m32.mp h1
        rw [hm, nI_ltI (by omega) (by omega)] at h1
        refine i_aload_n B 2 dX4_present_12 rfl ?_
        refine i_get (v := .ref (q 29)) B flX4_24 0 rfl rfl dX4_present_13 ?_
        refine i_iload_n B 0 dX4_present_16 rfl ?_
        refine i_zaldN B 5 i rfl rfl (by omega) (by decide) dX4_present_17 ?_
        refine i_if_ne B 24 dX4_present_18 (by decide) (fun h2 => ?_) (fun h2 => ?_)
        · have h2d := decide_eq_false h2
          refine i_iinc (v := (nI (i + 1))) B 0 [(2, .int (nI (i + 1))), (1, .int (cnw (a 29) i)), (0, .ref (q 48))] dX4_present_24 rfl ((nI_1 _)) (by decide) rfl ?_
          refine i_goto B 4 dX4_present_27 (by decide) ?_
          refine i_Leq (congrArg (fun z_9 => ([(2, .int (nI (i + 1))), (1, .int z_9), (0, .ref (q 48))] : List (Nat × Value))) (show ((cnw (a 29) i) : Int32) = (cnw (a 29) (i + 1)) from by rw [cnw]; simp only [h2d, decide_true, decide_false, Bool.not_true, Bool.not_false, Bool.true_and, Bool.false_and, Bool.and_true, Bool.and_false, Bool.true_or, Bool.or_true, Bool.false_or, Bool.or_false, Bool.and_self, Bool.or_self, bI_t, bI_f, if_true, if_false, ite_true, ite_false, Bool.false_eq_true, Bool.true_eq_false, eq_self, reduceIte, true_or, or_true, false_or, or_false, and_true, true_and, and_false, false_and, not_true_eq_false, not_false_eq_true, decide_eq_true_eq, decide_eq_false_iff_not, Int32.add_zero])) ?_
          exact ih_lp (i + 1) (by omega) (by omega)
        · have h2d := decide_eq_true h2
          refine i_iinc (v := ((cnw (a 29) i) + 1)) B 1 [(1, .int ((cnw (a 29) i) + 1)), (2, .int (nI i)), (0, .ref (q 48))] dX4_present_21 rfl (rfl) (by decide) rfl ?_
          refine i_iinc (v := (nI (i + 1))) B 1 [(2, .int (nI (i + 1))), (1, .int ((cnw (a 29) i) + 1)), (0, .ref (q 48))] dX4_present_24 rfl ((nI_1 _)) (by decide) rfl ?_
          refine i_goto B 4 dX4_present_27 (by decide) ?_
          refine i_Leq (congrArg (fun z_9 => ([(2, .int (nI (i + 1))), (1, .int z_9), (0, .ref (q 48))] : List (Nat × Value))) (show (((cnw (a 29) i) + 1) : Int32) = (cnw (a 29) (i + 1)) from by rw [cnw]; simp only [h2d, decide_true, decide_false, Bool.not_true, Bool.not_false, Bool.true_and, Bool.false_and, Bool.and_true, Bool.and_false, Bool.true_or, Bool.or_true, Bool.false_or, Bool.or_false, Bool.and_self, Bool.or_self, bI_t, bI_f, if_true, if_false, ite_true, ite_false, Bool.false_eq_true, Bool.true_eq_false, eq_self, reduceIte, true_or, or_true, false_or, or_false, and_true, true_and, and_false, false_and, not_true_eq_false, not_false_eq_true, decide_eq_true_eq, decide_eq_false_iff_not, Int32.add_zero])) ?_
          exact ih_lp (i + 1) (by omega) (by omega)
  refine i_iconst (v := 0) B dX4_present_0 (by decide) ?_
  refine i_istore_n B [(1, .int 0), (0, .ref (q 48))] dX4_present_1 (by decide) rfl ?_
  refine i_iconst (v := 0) B dX4_present_2 (by decide) ?_
  refine i_istore_n B [(2, .int 0), (1, .int 0), (0, .ref (q 48))] dX4_present_3 (by decide) rfl ?_
  refine i_Leq (congrArg (fun z_9 => ([(2, .int z_9), (1, .int 0), (0, .ref (q 48))] : List (Nat × Value))) (show (0 : Int32) = (nI 0) from rfl)) ?_
  refine i_Leq (congrArg (fun z_9 => ([(2, .int (nI 0)), (1, .int z_9), (0, .ref (q 48))] : List (Nat × Value))) (show (0 : Int32) = (cnw (a 29) 0) from rfl)) ?_
  exact lp (nm + 1) 0 (by omega) (Nat.zero_le _)

set_option maxHeartbeats 4000000 in
set_option maxRecDepth 100000 in
theorem k_X4_isOf (l : Launch) (E : ED) (q : Nat → Nat) (g : Nat → Int32) (a : Nat → Nat → Int32) (s : Nat → Int32) (t : Nat → Nat → Int32) (k : Nat) (hk : k < 40) (p y : Int32) : RO l E yX4_isOf cX4_isOf 4 .boolean 0 0 [.ref (q 48), .int (nI k), .int p, .int y] (sM E q g a s t) (fun r => r = bI (onF a k p y)) := by
  refine RO.mk (by decide) (Nat.le_of_ble_eq_true rfl) [(0, .ref (q 48)), (1, .int (nI k)), (2, .int p), (3, .int y)] rfl (fun Z B ret => ?_)
  refine i_aload_n B 0 dX4_isOf_0 rfl ?_
  refine i_get (v := .ref (q 29)) B flX4_24 0 rfl rfl dX4_isOf_1 ?_
  refine i_iload_n B 1 dX4_isOf_4 rfl ?_
  refine i_zaldN B 5 k rfl rfl (by omega) (by decide) dX4_isOf_5 ?_
  refine i_if_ne B 33 dX4_isOf_6 (by decide) (fun h1 => ?_) (fun h1 => ?_)
  · have h1d := decide_eq_false h1
    refine i_iconst (v := 0) B dX4_isOf_33 (by decide) ?_
    exact ret _ _ _ (by decide) dX4_isOf_34 (by simp only [onF, h1d, decide_true, decide_false, Bool.not_true, Bool.not_false, Bool.true_and, Bool.false_and, Bool.and_true, Bool.and_false, Bool.true_or, Bool.or_true, Bool.false_or, Bool.or_false, Bool.and_self, Bool.or_self, bI_t, bI_f, if_true, if_false, ite_true, ite_false, Bool.false_eq_true, Bool.true_eq_false, eq_self, reduceIte, true_or, or_true, false_or, or_false, and_true, true_and, and_false, false_and, not_true_eq_false, not_false_eq_true, decide_eq_true_eq, decide_eq_false_iff_not])
  · have h1d := decide_eq_true h1
    refine i_aload_n B 0 dX4_isOf_9 rfl ?_
    refine i_get (v := .ref (q 25)) B flX4_9 0 rfl rfl dX4_isOf_10 ?_
    refine i_iload_n B 1 dX4_isOf_13 rfl ?_
    refine i_ialdN B 1 k rfl rfl (by omega) (by decide) dX4_isOf_14 ?_
    refine i_iload_n B 2 dX4_isOf_15 rfl ?_
    refine i_icmp_ne B 33 dX4_isOf_16 (by decide) (fun h2 => ?_) (fun h2 => ?_)
    · have h2d := decide_eq_false h2
      refine i_iconst (v := 0) B dX4_isOf_33 (by decide) ?_
      exact ret _ _ _ (by decide) dX4_isOf_34 (by simp only [onF, h1d, h2d, decide_true, decide_false, Bool.not_true, Bool.not_false, Bool.true_and, Bool.false_and, Bool.and_true, Bool.and_false, Bool.true_or, Bool.or_true, Bool.false_or, Bool.or_false, Bool.and_self, Bool.or_self, bI_t, bI_f, if_true, if_false, ite_true, ite_false, Bool.false_eq_true, Bool.true_eq_false, eq_self, reduceIte, true_or, or_true, false_or, or_false, and_true, true_and, and_false, false_and, not_true_eq_false, not_false_eq_true, decide_eq_true_eq, decide_eq_false_iff_not])
    · have h2d := decide_eq_true h2
      refine i_aload_n B 0 dX4_isOf_19 rfl ?_
      refine i_get (v := .ref (q 28)) B flX4_21 0 rfl rfl dX4_isOf_20 ?_
      refine i_iload_n B 1 dX4_isOf_23 rfl ?_
      refine i_ialdN B 4 k rfl rfl (by omega) (by decide) dX4_isOf_24 ?_
      refine i_iload_n B 3 dX4_isOf_25 rfl ?_
      refine i_icmp_ne B 33 dX4_isOf_26 (by decide) (fun h3 => ?_) (fun h3 => ?_)
      · have h3d := decide_eq_false h3
        refine i_iconst (v := 0) B dX4_isOf_33 (by decide) ?_
        exact ret _ _ _ (by decide) dX4_isOf_34 (by simp only [onF, h1d, h2d, h3d, decide_true, decide_false, Bool.not_true, Bool.not_false, Bool.true_and, Bool.false_and, Bool.and_true, Bool.and_false, Bool.true_or, Bool.or_true, Bool.false_or, Bool.or_false, Bool.and_self, Bool.or_self, bI_t, bI_f, if_true, if_false, ite_true, ite_false, Bool.false_eq_true, Bool.true_eq_false, eq_self, reduceIte, true_or, or_true, false_or, or_false, and_true, true_and, and_false, false_and, not_true_eq_false, not_false_eq_true, decide_eq_true_eq, decide_eq_false_iff_not])
      · have h3d := decide_eq_true h3
        refine i_iconst (v := 1) B dX4_isOf_29 (by decide) ?_
        refine i_goto B 34 dX4_isOf_30 (by decide) ?_
        exact ret _ _ _ (by decide) dX4_isOf_34 (by simp only [onF, h1d, h2d, h3d, decide_true, decide_false, Bool.not_true, Bool.not_false, Bool.true_and, Bool.false_and, Bool.and_true, Bool.and_false, Bool.true_or, Bool.or_true, Bool.false_or, Bool.or_false, Bool.and_self, Bool.or_self, bI_t, bI_f, if_true, if_false, ite_true, ite_false, Bool.false_eq_true, Bool.true_eq_false, eq_self, reduceIte, true_or, or_true, false_or, or_false, and_true, true_and, and_false, false_and, not_true_eq_false, not_false_eq_true, decide_eq_true_eq, decide_eq_false_iff_not])

set_option maxHeartbeats 4000000 in
set_option maxRecDepth 100000 in
theorem k_X4_sum (l : Launch) (E : ED) (q : Nat → Nat) (g : Nat → Int32) (a : Nat → Nat → Int32) (s : Nat → Int32) (t : Nat → Nat → Int32) (nm : Nat) (hm : g 24 = nI nm) (hnm : nm ≤ 40) (p y z : Int32) : RO l E yX4_sum cX4_sum 6 .int 1 23 [.ref (q 48), .int p, .int y, .int z] (sM E q g a s t) (fun r => r = mks a p y z nm) := by
  refine RO.mk (by decide) (Nat.le_of_ble_eq_true rfl) [(0, .ref (q 48)), (1, .int p), (2, .int y), (3, .int z)] rfl (fun Z B ret => ?_)
  have lp : ∀ (n_lp : Nat) (i : Nat), (nm - i < n_lp) → (i ≤ nm) → J Z 0 0 (sM E q g a s t) 6 [(5, .int (nI i)), (4, .int (mks a p y z i)), (0, .ref (q 48)), (1, .int p), (2, .int y), (3, .int z)] [] := by
    intro n_lp
    induction n_lp with
    | zero => intro i hf_lp hi; omega
    | succ n_lp ih_lp =>
      intro i hf_lp hi
      refine i_iload B 0 dX4_sum_6 rfl ?_
      refine i_aload_n B 2 dX4_sum_8 rfl ?_
      refine i_get (v := .int (g 24)) B flX4_37 0 rfl rfl dX4_sum_9 ?_
      refine i_icmp_ge B 52 dX4_sum_12 (by decide) (fun h1 => ?_) (fun h1 => ?_)
      · replace h1 := q_n32.mpr h1
        rw [hm, nI_ltI (by omega) (by omega)] at h1
        refine i_iload B 1 dX4_sum_52 rfl ?_
        exact ret _ _ _ rfl dX4_sum_54 (by rw [show nm = i by omega])
      · replace h1 := q_m32.mp h1
        rw [hm, nI_ltI (by omega) (by omega)] at h1
        refine i_aload_n B 2 dX4_sum_15 rfl ?_
        refine i_iload B 0 dX4_sum_16 rfl ?_
        refine i_iload_n B 3 dX4_sum_18 rfl ?_
        refine i_iload_n B 4 dX4_sum_19 rfl ?_
        refine c_roV (rest := []) (As := [.int (nI i), .int p, .int y]) B (k_X4_isOf l E q g a s t i (by omega) p y) cal_yX4_isOf iv_yX4_isOf mlX4_41 rfl 0 rfl (by decide) (by decide) rfl (Nat.le_of_ble_eq_true rfl) Has.rf _ rfl dX4_sum_20 (fun r hr => ?_)
        subst hr
        refine i_val (v' := .int (bI (onF a i p y))) rfl ?_
        refine i_if_eq B 46 dX4_sum_23 (by decide) (fun h2 => ?_) (fun h2 => ?_)
        · replace h2 := bI_0.mp h2
          refine i_iinc (v := (nI (i + 1))) B 0 [(5, .int (nI (i + 1))), (4, .int (mks a p y z i)), (0, .ref (q 48)), (1, .int p), (2, .int y), (3, .int z)] dX4_sum_46 rfl ((nI_1 _)) (by decide) rfl ?_
          refine i_goto B 6 dX4_sum_49 (by decide) ?_
          refine i_Leq (congrArg (fun z_9 => ([(5, .int (nI (i + 1))), (4, .int z_9), (0, .ref (q 48)), (1, .int p), (2, .int y), (3, .int z)] : List (Nat × Value))) (show ((mks a p y z i) : Int32) = (mks a p y z (i + 1)) from by rw [mks]; simp only [h2, decide_true, decide_false, Bool.not_true, Bool.not_false, Bool.true_and, Bool.false_and, Bool.and_true, Bool.and_false, Bool.true_or, Bool.or_true, Bool.false_or, Bool.or_false, Bool.and_self, Bool.or_self, bI_t, bI_f, if_true, if_false, ite_true, ite_false, Bool.false_eq_true, Bool.true_eq_false, eq_self, reduceIte, true_or, or_true, false_or, or_false, and_true, true_and, and_false, false_and, not_true_eq_false, not_false_eq_true, decide_eq_true_eq, decide_eq_false_iff_not, Int32.add_zero])) ?_
          exact ih_lp (i + 1) (by omega) (by omega)
        · replace h2 := bI_n.mp h2
          refine i_iload B 1 dX4_sum_26 rfl ?_
          refine i_iload_n B 5 dX4_sum_28 rfl ?_
          refine i_if_eq B 42 dX4_sum_29 (by decide) (fun h3 => ?_) (fun h3 => ?_)
          · have h3d := decide_eq_true h3
            refine i_iconst (v := 1) B dX4_sum_42 (by decide) ?_
            refine i_iadd B dX4_sum_43 ?_
            refine i_istore B [(4, .int ((mks a p y z i) + 1)), (5, .int (nI i)), (0, .ref (q 48)), (1, .int p), (2, .int y), (3, .int z)] dX4_sum_44 (by decide) rfl ?_
            refine i_iinc (v := (nI (i + 1))) B 1 [(5, .int (nI (i + 1))), (4, .int ((mks a p y z i) + 1)), (0, .ref (q 48)), (1, .int p), (2, .int y), (3, .int z)] dX4_sum_46 rfl ((nI_1 _)) (by decide) rfl ?_
            refine i_goto B 6 dX4_sum_49 (by decide) ?_
            refine i_Leq (congrArg (fun z_9 => ([(5, .int (nI (i + 1))), (4, .int z_9), (0, .ref (q 48)), (1, .int p), (2, .int y), (3, .int z)] : List (Nat × Value))) (show (((mks a p y z i) + 1) : Int32) = (mks a p y z (i + 1)) from by rw [mks]; simp only [h2, h3d, decide_true, decide_false, Bool.not_true, Bool.not_false, Bool.true_and, Bool.false_and, Bool.and_true, Bool.and_false, Bool.true_or, Bool.or_true, Bool.false_or, Bool.or_false, Bool.and_self, Bool.or_self, bI_t, bI_f, if_true, if_false, ite_true, ite_false, Bool.false_eq_true, Bool.true_eq_false, eq_self, reduceIte, true_or, or_true, false_or, or_false, and_true, true_and, and_false, false_and, not_true_eq_false, not_false_eq_true, decide_eq_true_eq, decide_eq_false_iff_not, Int32.add_zero])) ?_
            exact ih_lp (i + 1) (by omega) (by omega)
          · have h3d := decide_eq_false h3
            refine i_aload_n B 2 dX4_sum_32 rfl ?_
            refine i_get (v := .ref (q 27)) B flX4_18 0 rfl rfl dX4_sum_33 ?_
            refine i_iload B 0 dX4_sum_36 rfl ?_
            refine i_ialdN B 3 i rfl rfl (by omega) (by decide) dX4_sum_38 ?_
            refine i_goto B 43 dX4_sum_39 (by decide) ?_
            refine i_iadd B dX4_sum_43 ?_
            refine i_istore B [(4, .int ((mks a p y z i) + ((a 27) i))), (5, .int (nI i)), (0, .ref (q 48)), (1, .int p), (2, .int y), (3, .int z)] dX4_sum_44 (by decide) rfl ?_
            refine i_iinc (v := (nI (i + 1))) B 1 [(5, .int (nI (i + 1))), (4, .int ((mks a p y z i) + ((a 27) i))), (0, .ref (q 48)), (1, .int p), (2, .int y), (3, .int z)] dX4_sum_46 rfl ((nI_1 _)) (by decide) rfl ?_
            refine i_goto B 6 dX4_sum_49 (by decide) ?_
            refine i_Leq (congrArg (fun z_9 => ([(5, .int (nI (i + 1))), (4, .int z_9), (0, .ref (q 48)), (1, .int p), (2, .int y), (3, .int z)] : List (Nat × Value))) (show (((mks a p y z i) + ((a 27) i)) : Int32) = (mks a p y z (i + 1)) from by rw [mks]; simp only [h2, h3d, decide_true, decide_false, Bool.not_true, Bool.not_false, Bool.true_and, Bool.false_and, Bool.and_true, Bool.and_false, Bool.true_or, Bool.or_true, Bool.false_or, Bool.or_false, Bool.and_self, Bool.or_self, bI_t, bI_f, if_true, if_false, ite_true, ite_false, Bool.false_eq_true, Bool.true_eq_false, eq_self, reduceIte, true_or, or_true, false_or, or_false, and_true, true_and, and_false, false_and, not_true_eq_false, not_false_eq_true, decide_eq_true_eq, decide_eq_false_iff_not, Int32.add_zero])) ?_
            exact ih_lp (i + 1) (by omega) (by omega)
  refine i_iconst (v := 0) B dX4_sum_0 (by decide) ?_
  refine i_istore B [(4, .int 0), (0, .ref (q 48)), (1, .int p), (2, .int y), (3, .int z)] dX4_sum_1 (by decide) rfl ?_
  refine i_iconst (v := 0) B dX4_sum_3 (by decide) ?_
  refine i_istore B [(5, .int 0), (4, .int 0), (0, .ref (q 48)), (1, .int p), (2, .int y), (3, .int z)] dX4_sum_4 (by decide) rfl ?_
  refine i_Leq (congrArg (fun z_9 => ([(5, .int z_9), (4, .int 0), (0, .ref (q 48)), (1, .int p), (2, .int y), (3, .int z)] : List (Nat × Value))) (show (0 : Int32) = (nI 0) from rfl)) ?_
  refine i_Leq (congrArg (fun z_9 => ([(5, .int (nI 0)), (4, .int z_9), (0, .ref (q 48)), (1, .int p), (2, .int y), (3, .int z)] : List (Nat × Value))) (show (0 : Int32) = (mks a p y z 0) from rfl)) ?_
  exact lp (nm + 1) 0 (by omega) (Nat.zero_le _)
