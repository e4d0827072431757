/-- both say the same of what is SEEN -/
def inr (x : Int32) : Bool := wit x (-5) 65
def VEq (g : Nat → Int32) (a : Nat → Nat → Int32) (np : Nat) : Prop := ∀ (p : Nat) (x y : Int32), p < np → inr x = true → inr y = true → vs g a np x y p = sn g a np x y p
theorem inr_of {x : Int32} (h : wit x 0 60 = true) : inr x = true := by
  unfold inr wit at *
  simp only [Bool.and_eq_true, Bool.not_eq_true', decide_eq_false_iff_not] at *
  obtain ⟨h1, h2⟩ := h
  rw [Int32.lt_iff_toInt_lt] at h1 h2 ⊢
  rw [Int32.lt_iff_toInt_lt]
  have e0 : (0 : Int32).toInt = 0 := rfl
  have e1 : (60 : Int32).toInt = 60 := rfl
  have e2 : (-5 : Int32).toInt = -5 := rfl
  have e3 : (65 : Int32).toInt = 65 := rfl
  omega
theorem pt_in {x y : Int32} (h : pt x y = true) : inr x = true ∧ inr y = true := by
  unfold pt at h
  rw [Bool.and_eq_true] at h
  exact ⟨inr_of h.1, inr_of h.2⟩
set_option maxRecDepth 100000 in
theorem k_vis (l : Launch) (E : ED) (q : Nat → Nat) (g : Nat → Int32) (a : Nat → Nat → Int32) (np : Nat) (hn : g 1 = nI np) (hnp : np ≤ 12) (hve : VEq g a np) (p : Nat) (hp : p < np) (x y : Int32) (hx : inr x = true) (hy : inr y = true) : RO l E yX7_isVisible cX7_isVisible 15 .boolean 3 73 [.ref (q 41), .int x, .int y, .int (nI p)] (sW E q g a) (fun r => r = bI (sn g a np x y p)) := by
  rw [← hve p x y hp hx hy]
  exact k_X7_isVisible l E q g a np hn hnp p (by omega) x y

def seb2 (g : Nat → Int32) (a : Nat → Nat → Int32) (np : Nat) (x y : Int32) : Nat → Int32
  | 0 => 0
  | k + 1 => if sn g a np x y k = true then seb2 g a np x y k ||| 1 <<< (nI k &&& 31) else seb2 g a np x y k
theorem seb2_eq (g : Nat → Int32) (a : Nat → Nat → Int32) (np v k : Nat) : seb2 g a np (a 9 v) (a 10 v) k = seb g a np v k := by
  induction k with
  | zero => rfl
  | succ k ih =>
    rw [seb2, seb, ih]
    split
    · rfl
    · rw [Int32.or_zero]

set_option maxHeartbeats 4000000 in
set_option maxRecDepth 100000 in
theorem k_X7_visibleFrom (l : Launch) (E : ED) (q : Nat → Nat) (g : Nat → Int32) (a : Nat → Nat → Int32) (np : Nat) (hn : g 1 = nI np) (hnp : np ≤ 12) (hve : VEq g a np) (x y : Int32) (hx : inr x = true) (hy : inr y = true) : RO l E yX7_visibleFrom cX7_visibleFrom 5 .int 4 107 [.ref (q 41), .int x, .int y] (sW E q g a) (fun r => r = seb2 g a np x y np) := by
  refine RO.mk (by decide) (Nat.le_of_ble_eq_true rfl) [(0, .ref (q 41)), (1, .int x), (2, .int y)] rfl (fun Z B ret => ?_)
  have lp : ∀ (n_lp : Nat) (i : Nat), (np - i < n_lp) → (i ≤ np) → J Z 0 0 (sW E q g a) 5 [(4, .int (nI i)), (3, .int (seb2 g a np x y i)), (0, .ref (q 41)), (1, .int x), (2, .int y)] [] := by
    intro n_lp
    induction n_lp with
    | zero => intro i hf_lp hi; omega
    | succ n_lp ih_lp =>
      intro i hf_lp hi
      refine i_iload B 0 dX7_visibleFrom_5 rfl ?_
      refine i_aload_n B 2 dX7_visibleFrom_7 rfl ?_
      refine i_get (v := .int (g 1)) B flX7_31 0 rfl rfl dX7_visibleFrom_8 ?_
      refine i_icmp_ge B 38 dX7_visibleFrom_11 (by decide) (fun h1 => ?_) (fun h1 => ?_)
      · replace h1 := q_n32.mpr h1
        rw [hn, nI_ltI (by omega) (by omega)] at h1
        refine i_iload_n B 1 dX7_visibleFrom_38 rfl ?_
        exact ret _ _ _ rfl dX7_visibleFrom_39 (by rw [show np = i by omega])
      · replace h1 := q_m32.mp h1
        rw [hn, nI_ltI (by omega) (by omega)] at h1
        refine i_aload_n B 2 dX7_visibleFrom_14 rfl ?_
        refine i_iload_n B 3 dX7_visibleFrom_15 rfl ?_
        refine i_iload_n B 4 dX7_visibleFrom_16 rfl ?_
        refine i_iload B 0 dX7_visibleFrom_17 rfl ?_
        refine c_roV (rest := []) (As := [.int x, .int y, .int (nI i)]) B (k_vis l E q g a np hn hnp hve i (by omega) x y hx hy) cal_yX7_isVisible iv_yX7_isVisible mlX7_34 rfl 0 rfl (by decide) (by decide) rfl (Nat.le_of_ble_eq_true rfl) Has.rf _ rfl dX7_visibleFrom_19 (fun r hr => ?_)
        subst hr
        refine i_val (v' := .int (bI (sn g a np x y i))) rfl ?_
        refine i_if_eq B 32 dX7_visibleFrom_22 (by decide) (fun h2 => ?_) (fun h2 => ?_)
        · replace h2 := bI_0.mp h2
          refine i_iinc (v := (nI (i + 1))) B 0 [(4, .int (nI (i + 1))), (3, .int (seb2 g a np x y i)), (0, .ref (q 41)), (1, .int x), (2, .int y)] dX7_visibleFrom_32 rfl ((nI_1 _)) (by decide) rfl ?_
          refine i_goto B 5 dX7_visibleFrom_35 (by decide) ?_
          refine i_Leq (congrArg (fun z_9 => ([(4, .int (nI (i + 1))), (3, .int z_9), (0, .ref (q 41)), (1, .int x), (2, .int y)] : List (Nat × Value))) (show ((seb2 g a np x y i) : Int32) = (seb2 g a np x y (i + 1)) from by rw [seb2, h2]; rfl)) ?_
          exact ih_lp (i + 1) (by omega) (by omega)
        · replace h2 := bI_n.mp h2
          refine i_iload_n B 1 dX7_visibleFrom_25 rfl ?_
          refine i_iconst (v := 1) B dX7_visibleFrom_26 (by decide) ?_
          refine i_iload B 0 dX7_visibleFrom_27 rfl ?_
          refine i_ishl B dX7_visibleFrom_29 ?_
          refine i_ior B dX7_visibleFrom_30 ?_
          refine i_istore_n B [(3, .int ((seb2 g a np x y i) ||| (1 <<< ((nI i) &&& 31)))), (4, .int (nI i)), (0, .ref (q 41)), (1, .int x), (2, .int y)] dX7_visibleFrom_31 (by decide) rfl ?_
          refine i_iinc (v := (nI (i + 1))) B 1 [(4, .int (nI (i + 1))), (3, .int ((seb2 g a np x y i) ||| (1 <<< ((nI i) &&& 31)))), (0, .ref (q 41)), (1, .int x), (2, .int y)] dX7_visibleFrom_32 rfl ((nI_1 _)) (by decide) rfl ?_
          refine i_goto B 5 dX7_visibleFrom_35 (by decide) ?_
          refine i_Leq (congrArg (fun z_9 => ([(4, .int (nI (i + 1))), (3, .int z_9), (0, .ref (q 41)), (1, .int x), (2, .int y)] : List (Nat × Value))) (show (((seb2 g a np x y i) ||| (1 <<< ((nI i) &&& 31))) : Int32) = (seb2 g a np x y (i + 1)) from by rw [seb2, h2]; rfl)) ?_
          exact ih_lp (i + 1) (by omega) (by omega)
  refine i_iconst (v := 0) B dX7_visibleFrom_0 (by decide) ?_
  refine i_istore_n B [(3, .int 0), (0, .ref (q 41)), (1, .int x), (2, .int y)] dX7_visibleFrom_1 (by decide) rfl ?_
  refine i_iconst (v := 0) B dX7_visibleFrom_2 (by decide) ?_
  refine i_istore B [(4, .int 0), (3, .int 0), (0, .ref (q 41)), (1, .int x), (2, .int y)] dX7_visibleFrom_3 (by decide) rfl ?_
  refine i_Leq (congrArg (fun z_9 => ([(4, .int z_9), (3, .int 0), (0, .ref (q 41)), (1, .int x), (2, .int y)] : List (Nat × Value))) (show (0 : Int32) = (nI 0) from rfl)) ?_
  refine i_Leq (congrArg (fun z_9 => ([(4, .int (nI 0)), (3, .int z_9), (0, .ref (q 41)), (1, .int x), (2, .int y)] : List (Nat × Value))) (show (0 : Int32) = (seb2 g a np x y 0) from rfl)) ?_
  exact lp (np + 1) 0 (by omega) (Nat.zero_le _)

set_option maxHeartbeats 4000000 in
set_option maxRecDepth 100000 in
theorem k_X7_add (l : Launch) (E : ED) (q : Nat → Nat) (g : Nat → Int32) (a : Nat → Nat → Int32) (np : Nat) (hn : g 1 = nI np) (hnp : np < 12) (x1 y1 x2 y2 : Int32) : WR l E yX7_add cX7_add 5 .int 0 0 0 0 [.ref (q 41), .int x1, .int y1, .int x2, .int y2] (sW E q g a) (fun r (_ : Unit) => r = nI np) (fun _ => sW E q (upd g 1 (nI (np + 1))) (va_up (va_up (va_up (va_up a 2 (upd (a 2) np x1)) 3 (upd (a 3) np y1)) 4 (upd (a 4) np x2)) 5 (upd (a 5) np y2))) := by
  refine WR.mk (by decide) (Nat.le_of_ble_eq_true rfl) [(0, .ref (q 41)), (1, .int x1), (2, .int y1), (3, .int x2), (4, .int y2)] rfl (fun Z B ret => ?_)
  refine i_aload_n B 0 dX7_add_0 rfl ?_
  refine i_get (v := .ref (q 2)) B flX7_9 0 rfl rfl dX7_add_1 ?_
  refine i_aload_n B 0 dX7_add_4 rfl ?_
  refine i_get (v := .int (g 1)) B flX7_31 0 rfl rfl dX7_add_5 ?_
  refine i_iload_n B 1 dX7_add_8 rfl ?_
  refine i_iastN (f := (a 2)) B 1 np (sW E q g (va_up a 2 (upd (a 2) np x1))) rfl hn (by omega) (by decide) rfl dX7_add_9 ?_
  refine i_aload_n B 0 dX7_add_10 rfl ?_
  refine i_get (v := .ref (q 3)) B flX7_15 0 rfl rfl dX7_add_11 ?_
  refine i_aload_n B 0 dX7_add_14 rfl ?_
  refine i_get (v := .int (g 1)) B flX7_31 0 rfl rfl dX7_add_15 ?_
  refine i_iload_n B 2 dX7_add_18 rfl ?_
  refine i_iastN (f := (a 3)) B 2 np (sW E q g (va_up (va_up a 2 (upd (a 2) np x1)) 3 (upd (a 3) np y1))) rfl hn (by omega) (by decide) rfl dX7_add_19 ?_
  refine i_aload_n B 0 dX7_add_20 rfl ?_
  refine i_get (v := .ref (q 4)) B flX7_18 0 rfl rfl dX7_add_21 ?_
  refine i_aload_n B 0 dX7_add_24 rfl ?_
  refine i_get (v := .int (g 1)) B flX7_31 0 rfl rfl dX7_add_25 ?_
  refine i_iload_n B 3 dX7_add_28 rfl ?_
  refine i_iastN (f := (a 4)) B 3 np (sW E q g (va_up (va_up (va_up a 2 (upd (a 2) np x1)) 3 (upd (a 3) np y1)) 4 (upd (a 4) np x2))) rfl hn (by omega) (by decide) rfl dX7_add_29 ?_
  refine i_aload_n B 0 dX7_add_30 rfl ?_
  refine i_get (v := .ref (q 5)) B flX7_21 0 rfl rfl dX7_add_31 ?_
  refine i_aload_n B 0 dX7_add_34 rfl ?_
  refine i_get (v := .int (g 1)) B flX7_31 0 rfl rfl dX7_add_35 ?_
  refine i_iload B 4 dX7_add_38 rfl ?_
  refine i_iastN (f := (a 5)) B 4 np (sW E q g (va_up (va_up (va_up (va_up a 2 (upd (a 2) np x1)) 3 (upd (a 3) np y1)) 4 (upd (a 4) np x2)) 5 (upd (a 5) np y2))) rfl hn (by omega) (by decide) rfl dX7_add_40 ?_
  refine i_aload_n B 0 dX7_add_41 rfl ?_
  refine i_dup B dX7_add_42 rfl ?_
  refine i_get (v := .int (g 1)) B flX7_31 0 rfl rfl dX7_add_43 ?_
  refine i_iconst (v := 1) B dX7_add_46 (by decide) ?_
  refine i_iadd B dX7_add_47 ?_
  refine i_val (v' := .int (nI (np + 1))) (congrArg Value.int (by rw [hn]; exact nI_1 _)) ?_
  refine i_put B flX7_31 0 (sW E q (upd g 1 (nI (np + 1))) (va_up (va_up (va_up (va_up a 2 (upd (a 2) np x1)) 3 (upd (a 3) np y1)) 4 (upd (a 4) np x2)) 5 (upd (a 5) np y2))) rfl rfl rfl rfl (Nat.le_of_ble_eq_true rfl) rfl dX7_add_48 ?_
  refine i_aload_n B 0 dX7_add_51 rfl ?_
  refine i_get (v := .int (nI (np + 1))) B flX7_31 0 rfl rfl dX7_add_52 ?_
  refine i_iconst (v := 1) B dX7_add_55 (by decide) ?_
  refine i_isub B dX7_add_56 ?_
  exact ret _ _ _ () rfl dX7_add_57 (by rw [nI_pred])

set_option maxHeartbeats 4000000 in
set_option maxRecDepth 100000 in
theorem k_X5_add (l : Launch) (E : ED) (h qx qy N n : Nat) (m : Int32) (hm : m = nI n) (fx fy : Nat → Int32) (hnN : n < N) (hNN : N < 2 ^ 31) (x y : Int32) : WR l E yX5_add cX5_add 3 .int 0 0 0 0 [.ref h, .int x, .int y] [(h, .inr (5, [.ref qx, .ref qy, .int m])), (qx, .inl (E.2.1, N, .inl fx)), (qy, .inl (E.2.1, N, .inl fy))] (fun r (_ : Unit) => r = nI n) (fun _ => [(h, .inr (5, [.ref qx, .ref qy, .int (nI (n + 1))])), (qx, .inl (E.2.1, N, .inl (upd fx n x))), (qy, .inl (E.2.1, N, .inl (upd fy n y)))]) := by
  refine WR.mk (by decide) (Nat.le_of_ble_eq_true rfl) [(0, .ref h), (1, .int x), (2, .int y)] rfl (fun Z B ret => ?_)
  refine i_aload_n B 0 dX5_add_0 rfl ?_
  refine i_get (v := .ref qx) B flX5_7 0 rfl rfl dX5_add_1 ?_
  refine i_aload_n B 0 dX5_add_4 rfl ?_
  refine i_get (v := .int m) B flX5_16 0 rfl rfl dX5_add_5 ?_
  refine i_iload_n B 1 dX5_add_8 rfl ?_
  refine i_iastN (f := fx) B 1 n [(h, .inr (5, [.ref qx, .ref qy, .int m])), (qx, .inl (E.2.1, N, .inl (upd fx n x))), (qy, .inl (E.2.1, N, .inl fy))] rfl hm hnN hNN rfl dX5_add_9 ?_
  refine i_aload_n B 0 dX5_add_10 rfl ?_
  refine i_get (v := .ref qy) B flX5_13 0 rfl rfl dX5_add_11 ?_
  refine i_aload_n B 0 dX5_add_14 rfl ?_
  refine i_get (v := .int m) B flX5_16 0 rfl rfl dX5_add_15 ?_
  refine i_iload_n B 2 dX5_add_18 rfl ?_
  refine i_iastN (f := fy) B 2 n [(h, .inr (5, [.ref qx, .ref qy, .int m])), (qx, .inl (E.2.1, N, .inl (upd fx n x))), (qy, .inl (E.2.1, N, .inl (upd fy n y)))] rfl hm hnN hNN rfl dX5_add_19 ?_
  refine i_aload_n B 0 dX5_add_20 rfl ?_
  refine i_dup B dX5_add_21 rfl ?_
  refine i_get (v := .int m) B flX5_16 0 rfl rfl dX5_add_22 ?_
  refine i_iconst (v := 1) B dX5_add_25 (by decide) ?_
  refine i_iadd B dX5_add_26 ?_
  refine i_val (v' := .int (nI (n + 1))) (congrArg Value.int (by rw [hm]; exact nI_1 _)) ?_
  refine i_put B flX5_16 0 [(h, .inr (5, [.ref qx, .ref qy, .int (nI (n + 1))])), (qx, .inl (E.2.1, N, .inl (upd fx n x))), (qy, .inl (E.2.1, N, .inl (upd fy n y)))] rfl rfl rfl rfl (Nat.le_of_ble_eq_true rfl) rfl dX5_add_27 ?_
  refine i_aload_n B 0 dX5_add_30 rfl ?_
  refine i_get (v := .int (nI (n + 1))) B flX5_16 0 rfl rfl dX5_add_31 ?_
  refine i_iconst (v := 1) B dX5_add_34 (by decide) ?_
  refine i_isub B dX5_add_35 ?_
  exact ret _ _ _ () rfl dX5_add_36 (by rw [nI_pred])

set_option maxHeartbeats 4000000 in
set_option maxRecDepth 100000 in
theorem k_X5_init10 (l : Launch) (E : ED) (h : Nat) : WV l E yX5_init cX5_init 2 1 20 2 20 [.ref h, .int 10] [(h, .inr (5, [.null, .null, .int 0]))] (fun _ : Nat × Nat => True) (fun u => [(h, .inr (5, [.ref u.1, .ref u.2, .int 0])), (u.1, .inl (E.2.1, 10, .inl (fun _ => 0))), (u.2, .inl (E.2.1, 10, .inl (fun _ => 0)))]) := by
  refine WV.mk (by decide) (Nat.le_of_ble_eq_true rfl) [(0, .ref h), (1, .int 10)] rfl (fun Z B hI ret => ?_)
  have hI := hI rfl
  refine i_aload_n B 0 dX5_init_0 rfl ?_
  refine i_objInit B mlX5_1 ii_objectInit cd_objectInit dX5_init_1 (by decide) (Nat.le_of_ble_eq_true rfl) ?_
  refine i_aload_n B 0 dX5_init_4 rfl ?_
  refine i_iload_n B 1 dX5_init_5 rfl ?_
  refine i_newI B 10 wd_arrayClass_int rfl (by decide) (by decide) (by decide) dX5_init_6 (fun n6 => ?_)
  refine i_world (ws' := [(h, .inr (5, [.null, .null, .int 0])), (n6, .inl (E.2.1, 10, .inl (fun _ => 0)))]) rfl ?_
  refine i_putF B hI flX5_7 0 [(h, .inr (5, [.ref n6, .null, .int 0])), (n6, .inl (E.2.1, 10, .inl (fun _ => 0)))] rfl rfl rfl rfl rfl (Nat.le_of_ble_eq_true rfl) rfl dX5_init_8 ?_
  refine i_aload_n B 0 dX5_init_11 rfl ?_
  refine i_iload_n B 1 dX5_init_12 rfl ?_
  refine i_newI B 10 wd_arrayClass_int rfl (by decide) (by decide) (by decide) dX5_init_13 (fun n13 => ?_)
  refine i_world (ws' := [(h, .inr (5, [.ref n6, .null, .int 0])), (n6, .inl (E.2.1, 10, .inl (fun _ => 0))), (n13, .inl (E.2.1, 10, .inl (fun _ => 0)))]) rfl ?_
  refine i_putF B hI flX5_13 0 [(h, .inr (5, [.ref n6, .ref n13, .int 0])), (n6, .inl (E.2.1, 10, .inl (fun _ => 0))), (n13, .inl (E.2.1, 10, .inl (fun _ => 0)))] rfl rfl rfl rfl rfl (Nat.le_of_ble_eq_true rfl) rfl dX5_init_15 ?_
  exact ret _ _ (n6, n13) dX5_init_18 (trivial)

set_option maxHeartbeats 4000000 in
set_option maxRecDepth 100000 in
theorem k_X5_init20 (l : Launch) (E : ED) (h : Nat) : WV l E yX5_init cX5_init 2 1 20 2 40 [.ref h, .int 20] [(h, .inr (5, [.null, .null, .int 0]))] (fun _ : Nat × Nat => True) (fun u => [(h, .inr (5, [.ref u.1, .ref u.2, .int 0])), (u.1, .inl (E.2.1, 20, .inl (fun _ => 0))), (u.2, .inl (E.2.1, 20, .inl (fun _ => 0)))]) := by
  refine WV.mk (by decide) (Nat.le_of_ble_eq_true rfl) [(0, .ref h), (1, .int 20)] rfl (fun Z B hI ret => ?_)
  have hI := hI rfl
  refine i_aload_n B 0 dX5_init_0 rfl ?_
  refine i_objInit B mlX5_1 ii_objectInit cd_objectInit dX5_init_1 (by decide) (Nat.le_of_ble_eq_true rfl) ?_
  refine i_aload_n B 0 dX5_init_4 rfl ?_
  refine i_iload_n B 1 dX5_init_5 rfl ?_
  refine i_newI B 20 wd_arrayClass_int rfl (by decide) (by decide) (by decide) dX5_init_6 (fun n6 => ?_)
  refine i_world (ws' := [(h, .inr (5, [.null, .null, .int 0])), (n6, .inl (E.2.1, 20, .inl (fun _ => 0)))]) rfl ?_
  refine i_putF B hI flX5_7 0 [(h, .inr (5, [.ref n6, .null, .int 0])), (n6, .inl (E.2.1, 20, .inl (fun _ => 0)))] rfl rfl rfl rfl rfl (Nat.le_of_ble_eq_true rfl) rfl dX5_init_8 ?_
  refine i_aload_n B 0 dX5_init_11 rfl ?_
  refine i_iload_n B 1 dX5_init_12 rfl ?_
  refine i_newI B 20 wd_arrayClass_int rfl (by decide) (by decide) (by decide) dX5_init_13 (fun n13 => ?_)
  refine i_world (ws' := [(h, .inr (5, [.ref n6, .null, .int 0])), (n6, .inl (E.2.1, 20, .inl (fun _ => 0))), (n13, .inl (E.2.1, 20, .inl (fun _ => 0)))]) rfl ?_
  refine i_putF B hI flX5_13 0 [(h, .inr (5, [.ref n6, .ref n13, .int 0])), (n6, .inl (E.2.1, 20, .inl (fun _ => 0))), (n13, .inl (E.2.1, 20, .inl (fun _ => 0)))] rfl rfl rfl rfl rfl (Nat.le_of_ble_eq_true rfl) rfl dX5_init_15 ?_
  exact ret _ _ (n6, n13) dX5_init_18 (trivial)

set_option maxHeartbeats 4000000 in
set_option maxRecDepth 100000 in
theorem k_X7_init (l : Launch) (E : ED) (h : Nat) : WV l E yX7_init cX7_init 1 1 20 4 48 [.ref h] [(h, .inr (7, [.null, .null, .null, .null, .int 0, .int 0, .int 0]))] (fun _ : Nat → Nat => True) (fun u : Nat → Nat => [(h, .inr (7, [.ref (u 2), .ref (u 3), .ref (u 4), .ref (u 5), .int 0, .int 30, .int 25])), (u 2, .inl (E.2.1, 12, .inl (fun _ => 0))), (u 3, .inl (E.2.1, 12, .inl (fun _ => 0))), (u 4, .inl (E.2.1, 12, .inl (fun _ => 0))), (u 5, .inl (E.2.1, 12, .inl (fun _ => 0)))]) := by
  refine WV.mk (by decide) (Nat.le_of_ble_eq_true rfl) [(0, .ref h)] rfl (fun Z B hI ret => ?_)
  have hI := hI rfl
  refine i_aload_n B 0 dX7_init_0 rfl ?_
  refine i_objInit B mlX7_3 ii_objectInit cd_objectInit dX7_init_1 (by decide) (Nat.le_of_ble_eq_true rfl) ?_
  refine i_aload_n B 0 dX7_init_4 rfl ?_
  refine i_bipush (v := 12) B dX7_init_5 (by decide) ?_
  refine i_newI B 12 wd_arrayClass_int rfl (by decide) (by decide) (by decide) dX7_init_7 (fun n7 => ?_)
  refine i_world (ws' := [(h, .inr (7, [.null, .null, .null, .null, .int 0, .int 0, .int 0])), (n7, .inl (E.2.1, 12, .inl (fun _ => 0)))]) rfl ?_
  refine i_putF B hI flX7_9 0 [(h, .inr (7, [.ref n7, .null, .null, .null, .int 0, .int 0, .int 0])), (n7, .inl (E.2.1, 12, .inl (fun _ => 0)))] rfl rfl rfl rfl rfl (Nat.le_of_ble_eq_true rfl) rfl dX7_init_9 ?_
  refine i_aload_n B 0 dX7_init_12 rfl ?_
  refine i_bipush (v := 12) B dX7_init_13 (by decide) ?_
  refine i_newI B 12 wd_arrayClass_int rfl (by decide) (by decide) (by decide) dX7_init_15 (fun n15 => ?_)
  refine i_world (ws' := [(h, .inr (7, [.ref n7, .null, .null, .null, .int 0, .int 0, .int 0])), (n7, .inl (E.2.1, 12, .inl (fun _ => 0))), (n15, .inl (E.2.1, 12, .inl (fun _ => 0)))]) rfl ?_
  refine i_putF B hI flX7_15 0 [(h, .inr (7, [.ref n7, .ref n15, .null, .null, .int 0, .int 0, .int 0])), (n7, .inl (E.2.1, 12, .inl (fun _ => 0))), (n15, .inl (E.2.1, 12, .inl (fun _ => 0)))] rfl rfl rfl rfl rfl (Nat.le_of_ble_eq_true rfl) rfl dX7_init_17 ?_
  refine i_aload_n B 0 dX7_init_20 rfl ?_
  refine i_bipush (v := 12) B dX7_init_21 (by decide) ?_
  refine i_newI B 12 wd_arrayClass_int rfl (by decide) (by decide) (by decide) dX7_init_23 (fun n23 => ?_)
  refine i_world (ws' := [(h, .inr (7, [.ref n7, .ref n15, .null, .null, .int 0, .int 0, .int 0])), (n7, .inl (E.2.1, 12, .inl (fun _ => 0))), (n15, .inl (E.2.1, 12, .inl (fun _ => 0))), (n23, .inl (E.2.1, 12, .inl (fun _ => 0)))]) rfl ?_
  refine i_putF B hI flX7_18 0 [(h, .inr (7, [.ref n7, .ref n15, .ref n23, .null, .int 0, .int 0, .int 0])), (n7, .inl (E.2.1, 12, .inl (fun _ => 0))), (n15, .inl (E.2.1, 12, .inl (fun _ => 0))), (n23, .inl (E.2.1, 12, .inl (fun _ => 0)))] rfl rfl rfl rfl rfl (Nat.le_of_ble_eq_true rfl) rfl dX7_init_25 ?_
  refine i_aload_n B 0 dX7_init_28 rfl ?_
  refine i_bipush (v := 12) B dX7_init_29 (by decide) ?_
  refine i_newI B 12 wd_arrayClass_int rfl (by decide) (by decide) (by decide) dX7_init_31 (fun n31 => ?_)
  refine i_world (ws' := [(h, .inr (7, [.ref n7, .ref n15, .ref n23, .null, .int 0, .int 0, .int 0])), (n7, .inl (E.2.1, 12, .inl (fun _ => 0))), (n15, .inl (E.2.1, 12, .inl (fun _ => 0))), (n23, .inl (E.2.1, 12, .inl (fun _ => 0))), (n31, .inl (E.2.1, 12, .inl (fun _ => 0)))]) rfl ?_
  refine i_putF B hI flX7_21 0 [(h, .inr (7, [.ref n7, .ref n15, .ref n23, .ref n31, .int 0, .int 0, .int 0])), (n7, .inl (E.2.1, 12, .inl (fun _ => 0))), (n15, .inl (E.2.1, 12, .inl (fun _ => 0))), (n23, .inl (E.2.1, 12, .inl (fun _ => 0))), (n31, .inl (E.2.1, 12, .inl (fun _ => 0)))] rfl rfl rfl rfl rfl (Nat.le_of_ble_eq_true rfl) rfl dX7_init_33 ?_
  refine i_aload_n B 0 dX7_init_36 rfl ?_
  refine i_bipush (v := 30) B dX7_init_37 (by decide) ?_
  refine i_put B flX7_24 0 [(h, .inr (7, [.ref n7, .ref n15, .ref n23, .ref n31, .int 0, .int 30, .int 0])), (n7, .inl (E.2.1, 12, .inl (fun _ => 0))), (n15, .inl (E.2.1, 12, .inl (fun _ => 0))), (n23, .inl (E.2.1, 12, .inl (fun _ => 0))), (n31, .inl (E.2.1, 12, .inl (fun _ => 0)))] rfl rfl rfl rfl (Nat.le_of_ble_eq_true rfl) rfl dX7_init_39 ?_
  refine i_aload_n B 0 dX7_init_42 rfl ?_
  refine i_bipush (v := 25) B dX7_init_43 (by decide) ?_
  refine i_put B flX7_28 0 [(h, .inr (7, [.ref n7, .ref n15, .ref n23, .ref n31, .int 0, .int 30, .int 25])), (n7, .inl (E.2.1, 12, .inl (fun _ => 0))), (n15, .inl (E.2.1, 12, .inl (fun _ => 0))), (n23, .inl (E.2.1, 12, .inl (fun _ => 0))), (n31, .inl (E.2.1, 12, .inl (fun _ => 0)))] rfl rfl rfl rfl (Nat.le_of_ble_eq_true rfl) rfl dX7_init_45 ?_
  exact ret _ _ (va_up (va_up (va_up (va_up (fun _ => 0) 2 n7) 3 n15) 4 n23) 5 n31) dX7_init_48 (trivial)

set_option maxHeartbeats 4000000 in
set_option maxRecDepth 100000 in
theorem k_X3_init (l : Launch) (E : ED) (h : Nat) : WV l E yX3_init cX3_init 1 1 20 1 12 [.ref h] [(h, .inr (3, [.null, .int 0]))] (fun _ : Nat => True) (fun u => [(h, .inr (3, [.ref u, .int 0])), (u, .inl (E.2.1, 12, .inl (fun _ => 0)))]) := by
  refine WV.mk (by decide) (Nat.le_of_ble_eq_true rfl) [(0, .ref h)] rfl (fun Z B hI ret => ?_)
  have hI := hI rfl
  refine i_aload_n B 0 dX3_init_0 rfl ?_
  refine i_objInit B mlX3_3 ii_objectInit cd_objectInit dX3_init_1 (by decide) (Nat.le_of_ble_eq_true rfl) ?_
  refine i_aload_n B 0 dX3_init_4 rfl ?_
  refine i_bipush (v := 12) B dX3_init_5 (by decide) ?_
  refine i_newI B 12 wd_arrayClass_int rfl (by decide) (by decide) (by decide) dX3_init_7 (fun n7 => ?_)
  refine i_world (ws' := [(h, .inr (3, [.null, .int 0])), (n7, .inl (E.2.1, 12, .inl (fun _ => 0)))]) rfl ?_
  refine i_putF B hI flX3_9 0 [(h, .inr (3, [.ref n7, .int 0])), (n7, .inl (E.2.1, 12, .inl (fun _ => 0)))] rfl rfl rfl rfl rfl (Nat.le_of_ble_eq_true rfl) rfl dX3_init_9 ?_
  exact ret _ _ n7 dX3_init_12 (trivial)

set_option maxHeartbeats 4000000 in
set_option maxRecDepth 100000 in
theorem k_X0_init (l : Launch) (E : ED) (h : Nat) : WV l E yX0_init cX0_init 1 1 20 4 16 [.ref h] [(h, .inr (0, [.null, .null, .null, .null, .int 0, .int 0, .int 0]))] (fun _ : Nat → Nat => True) (fun u : Nat → Nat => [(h, .inr (0, [.ref (u 12), .ref (u 13), .ref (u 14), .ref (u 15), .int 0, .int 0, .int 0])), (u 12, .inl (E.2.1, 4, .inl (fun _ => 0))), (u 13, .inl (E.2.1, 4, .inl (fun _ => 0))), (u 14, .inl (E.2.1, 4, .inl (fun _ => 0))), (u 15, .inl (E.2.1, 4, .inl (fun _ => 0)))]) := by
  refine WV.mk (by decide) (Nat.le_of_ble_eq_true rfl) [(0, .ref h)] rfl (fun Z B hI ret => ?_)
  have hI := hI rfl
  refine i_aload_n B 0 dX0_init_0 rfl ?_
  refine i_objInit B mlX0_3 ii_objectInit cd_objectInit dX0_init_1 (by decide) (Nat.le_of_ble_eq_true rfl) ?_
  refine i_aload_n B 0 dX0_init_4 rfl ?_
  refine i_iconst (v := 4) B dX0_init_5 (by decide) ?_
  refine i_newI B 4 wd_arrayClass_int rfl (by decide) (by decide) (by decide) dX0_init_6 (fun n6 => ?_)
  refine i_world (ws' := [(h, .inr (0, [.null, .null, .null, .null, .int 0, .int 0, .int 0])), (n6, .inl (E.2.1, 4, .inl (fun _ => 0)))]) rfl ?_
  refine i_putF B hI flX0_9 0 [(h, .inr (0, [.ref n6, .null, .null, .null, .int 0, .int 0, .int 0])), (n6, .inl (E.2.1, 4, .inl (fun _ => 0)))] rfl rfl rfl rfl rfl (Nat.le_of_ble_eq_true rfl) rfl dX0_init_8 ?_
  refine i_aload_n B 0 dX0_init_11 rfl ?_
  refine i_iconst (v := 4) B dX0_init_12 (by decide) ?_
  refine i_newI B 4 wd_arrayClass_int rfl (by decide) (by decide) (by decide) dX0_init_13 (fun n13 => ?_)
  refine i_world (ws' := [(h, .inr (0, [.ref n6, .null, .null, .null, .int 0, .int 0, .int 0])), (n6, .inl (E.2.1, 4, .inl (fun _ => 0))), (n13, .inl (E.2.1, 4, .inl (fun _ => 0)))]) rfl ?_
  refine i_putF B hI flX0_15 0 [(h, .inr (0, [.ref n6, .ref n13, .null, .null, .int 0, .int 0, .int 0])), (n6, .inl (E.2.1, 4, .inl (fun _ => 0))), (n13, .inl (E.2.1, 4, .inl (fun _ => 0)))] rfl rfl rfl rfl rfl (Nat.le_of_ble_eq_true rfl) rfl dX0_init_15 ?_
  refine i_aload_n B 0 dX0_init_18 rfl ?_
  refine i_iconst (v := 4) B dX0_init_19 (by decide) ?_
  refine i_newI B 4 wd_arrayClass_int rfl (by decide) (by decide) (by decide) dX0_init_20 (fun n20 => ?_)
  refine i_world (ws' := [(h, .inr (0, [.ref n6, .ref n13, .null, .null, .int 0, .int 0, .int 0])), (n6, .inl (E.2.1, 4, .inl (fun _ => 0))), (n13, .inl (E.2.1, 4, .inl (fun _ => 0))), (n20, .inl (E.2.1, 4, .inl (fun _ => 0)))]) rfl ?_
  refine i_putF B hI flX0_18 0 [(h, .inr (0, [.ref n6, .ref n13, .ref n20, .null, .int 0, .int 0, .int 0])), (n6, .inl (E.2.1, 4, .inl (fun _ => 0))), (n13, .inl (E.2.1, 4, .inl (fun _ => 0))), (n20, .inl (E.2.1, 4, .inl (fun _ => 0)))] rfl rfl rfl rfl rfl (Nat.le_of_ble_eq_true rfl) rfl dX0_init_22 ?_
  refine i_aload_n B 0 dX0_init_25 rfl ?_
  refine i_iconst (v := 4) B dX0_init_26 (by decide) ?_
  refine i_newI B 4 wd_arrayClass_int rfl (by decide) (by decide) (by decide) dX0_init_27 (fun n27 => ?_)
  refine i_world (ws' := [(h, .inr (0, [.ref n6, .ref n13, .ref n20, .null, .int 0, .int 0, .int 0])), (n6, .inl (E.2.1, 4, .inl (fun _ => 0))), (n13, .inl (E.2.1, 4, .inl (fun _ => 0))), (n20, .inl (E.2.1, 4, .inl (fun _ => 0))), (n27, .inl (E.2.1, 4, .inl (fun _ => 0)))]) rfl ?_
  refine i_putF B hI flX0_21 0 [(h, .inr (0, [.ref n6, .ref n13, .ref n20, .ref n27, .int 0, .int 0, .int 0])), (n6, .inl (E.2.1, 4, .inl (fun _ => 0))), (n13, .inl (E.2.1, 4, .inl (fun _ => 0))), (n20, .inl (E.2.1, 4, .inl (fun _ => 0))), (n27, .inl (E.2.1, 4, .inl (fun _ => 0)))] rfl rfl rfl rfl rfl (Nat.le_of_ble_eq_true rfl) rfl dX0_init_29 ?_
  exact ret _ _ (va_up (va_up (va_up (va_up (fun _ => 0) 12 n6) 13 n13) 14 n20) 15 n27) dX0_init_32 (trivial)

set_option maxHeartbeats 4000000 in
set_option maxRecDepth 100000 in
theorem k_X1_init (l : Launch) (E : ED) (h : Nat) : WV l E yX1_init cX1_init 1 1 20 0 0 [.ref h] [(h, .inr (1, [.int 0, .int 0, .int 0, .int 0]))] (fun _ : Unit => True) (fun _ => [(h, .inr (1, [.int 0, .int 0, .int 1000, .int 0]))]) := by
  refine WV.mk (by decide) (Nat.le_of_ble_eq_true rfl) [(0, .ref h)] rfl (fun Z B hI ret => ?_)
  have hI := hI rfl
  refine i_aload_n B 0 dX1_init_0 rfl ?_
  refine i_objInit B mlX1_1 ii_objectInit cd_objectInit dX1_init_1 (by decide) (Nat.le_of_ble_eq_true rfl) ?_
  refine i_aload_n B 0 dX1_init_4 rfl ?_
  refine i_sipush (v := 1000) B dX1_init_5 (by decide) ?_
  refine i_put B flX1_7 0 [(h, .inr (1, [.int 0, .int 0, .int 1000, .int 0]))] rfl rfl rfl rfl (Nat.le_of_ble_eq_true rfl) rfl dX1_init_8 ?_
  exact ret _ _ () dX1_init_11 (trivial)

set_option maxHeartbeats 4000000 in
set_option maxRecDepth 100000 in
theorem k_X0_add (l : Launch) (E : ED) (q : Nat → Nat) (g : Nat → Int32) (a : Nat → Nat → Int32) (nc : Nat) (hc : g 11 = nI nc) (hnc : nc < 4) (x1 y1 x2 y2 : Int32) : WV l E yX0_add cX0_add 5 0 0 0 0 [.ref (q 44), .int x1, .int y1, .int x2, .int y2] (sA E q g a) (fun _ : Unit => True) (fun _ => sA E q (upd g 11 (nI (nc + 1))) (va_up (va_up (va_up (va_up a 12 (upd (a 12) nc x1)) 13 (upd (a 13) nc y1)) 14 (upd (a 14) nc x2)) 15 (upd (a 15) nc y2))) := by
  refine WV.mk (by decide) (Nat.le_of_ble_eq_true rfl) [(0, .ref (q 44)), (1, .int x1), (2, .int y1), (3, .int x2), (4, .int y2)] rfl (fun Z B hI ret => ?_)
  refine i_aload_n B 0 dX0_add_0 rfl ?_
  refine i_get (v := .ref (q 12)) B flX0_9 0 rfl rfl dX0_add_1 ?_
  refine i_aload_n B 0 dX0_add_4 rfl ?_
  refine i_get (v := .int (g 11)) B flX0_24 0 rfl rfl dX0_add_5 ?_
  refine i_iload_n B 1 dX0_add_8 rfl ?_
  refine i_iastN (f := (a 12)) B 1 nc (sA E q g (va_up a 12 (upd (a 12) nc x1))) rfl hc (by omega) (by decide) rfl dX0_add_9 ?_
  refine i_aload_n B 0 dX0_add_10 rfl ?_
  refine i_get (v := .ref (q 13)) B flX0_15 0 rfl rfl dX0_add_11 ?_
  refine i_aload_n B 0 dX0_add_14 rfl ?_
  refine i_get (v := .int (g 11)) B flX0_24 0 rfl rfl dX0_add_15 ?_
  refine i_iload_n B 2 dX0_add_18 rfl ?_
  refine i_iastN (f := (a 13)) B 2 nc (sA E q g (va_up (va_up a 12 (upd (a 12) nc x1)) 13 (upd (a 13) nc y1))) rfl hc (by omega) (by decide) rfl dX0_add_19 ?_
  refine i_aload_n B 0 dX0_add_20 rfl ?_
  refine i_get (v := .ref (q 14)) B flX0_18 0 rfl rfl dX0_add_21 ?_
  refine i_aload_n B 0 dX0_add_24 rfl ?_
  refine i_get (v := .int (g 11)) B flX0_24 0 rfl rfl dX0_add_25 ?_
  refine i_iload_n B 3 dX0_add_28 rfl ?_
  refine i_iastN (f := (a 14)) B 3 nc (sA E q g (va_up (va_up (va_up a 12 (upd (a 12) nc x1)) 13 (upd (a 13) nc y1)) 14 (upd (a 14) nc x2))) rfl hc (by omega) (by decide) rfl dX0_add_29 ?_
  refine i_aload_n B 0 dX0_add_30 rfl ?_
  refine i_get (v := .ref (q 15)) B flX0_21 0 rfl rfl dX0_add_31 ?_
  refine i_aload_n B 0 dX0_add_34 rfl ?_
  refine i_get (v := .int (g 11)) B flX0_24 0 rfl rfl dX0_add_35 ?_
  refine i_iload B 4 dX0_add_38 rfl ?_
  refine i_iastN (f := (a 15)) B 4 nc (sA E q g (va_up (va_up (va_up (va_up a 12 (upd (a 12) nc x1)) 13 (upd (a 13) nc y1)) 14 (upd (a 14) nc x2)) 15 (upd (a 15) nc y2))) rfl hc (by omega) (by decide) rfl dX0_add_40 ?_
  refine i_aload_n B 0 dX0_add_41 rfl ?_
  refine i_dup B dX0_add_42 rfl ?_
  refine i_get (v := .int (g 11)) B flX0_24 0 rfl rfl dX0_add_43 ?_
  refine i_iconst (v := 1) B dX0_add_46 (by decide) ?_
  refine i_iadd B dX0_add_47 ?_
  refine i_val (v' := .int (nI (nc + 1))) (congrArg Value.int (by rw [hc]; exact nI_1 _)) ?_
  refine i_put B flX0_24 0 (sA E q (upd g 11 (nI (nc + 1))) (va_up (va_up (va_up (va_up a 12 (upd (a 12) nc x1)) 13 (upd (a 13) nc y1)) 14 (upd (a 14) nc x2)) 15 (upd (a 15) nc y2))) rfl rfl rfl rfl (Nat.le_of_ble_eq_true rfl) rfl dX0_add_48 ?_
  exact ret _ _ () dX0_add_51 (trivial)

/-- the class's test of a way against a CLOSED place -/
def gin (a : Nat → Nat → Int32) (c : Nat) (x1 y1 x2 y2 : Int32) : Bool := if (!decide (a 12 c < mx x1 x2) || (!decide (mn x1 x2 < a 14 c) || (!decide (a 13 c < mx y1 y2) || !decide (mn y1 y2 < a 15 c)))) = true then false else if (decide (x1 = x2) && decide (y1 = y2)) = true then true else
  (decide (mn (mn (trn x1 y1 x2 y2 (a 12 c) (a 13 c)) (trn x1 y1 x2 y2 (a 14 c) (a 13 c))) (mn (trn x1 y1 x2 y2 (a 14 c) (a 15 c)) (trn x1 y1 x2 y2 (a 12 c) (a 15 c))) < 0) && decide (0 < mx (mx (trn x1 y1 x2 y2 (a 12 c) (a 13 c)) (trn x1 y1 x2 y2 (a 14 c) (a 13 c))) (mx (trn x1 y1 x2 y2 (a 14 c) (a 15 c)) (trn x1 y1 x2 y2 (a 12 c) (a 15 c)))))
def gsh (a : Nat → Nat → Int32) (x1 y1 x2 y2 : Int32) : Nat → Bool
  | 0 => false
  | k + 1 => gsh a x1 y1 x2 y2 k || gin a k x1 y1 x2 y2
theorem gsh_le {a : Nat → Nat → Int32} {x1 y1 x2 y2 : Int32} {i n : Nat} (h : gsh a x1 y1 x2 y2 i = true) (hi : i ≤ n) : gsh a x1 y1 x2 y2 n = true := by
  induction n with
  | zero => rw [show i = 0 by omega] at h; exact h
  | succ n ih =>
    by_cases e : i = n + 1
    · rw [e] at h; exact h
    · rw [gsh, ih (by omega), Bool.true_or]
def bitk (k : Nat) : Int32 := if k < 10 then nI (2 ^ (9 - k)) else 0
theorem bitk_s : ∀ k, k < 10 → bitk k / 2 = bitk (k + 1) := by decide +kernel
theorem bitk_p : ∀ k, k ≤ 10 → (0 < bitk k ↔ k < 10) := by decide +kernel
def rb (sq : Int32) : Nat → Int32
  | 0 => 0
  | k + 1 => if (rb sq k + bitk k) * (rb sq k + bitk k) < sq then rb sq k + bitk k else rb sq k
def rup (sq : Int32) : Int32 := if 0 < sq then rb sq 10 + 1 else 0
def cst (g : Nat → Int32) (dx dy : Int32) : Int32 := if g 16 * dx + g 17 * dy < 0 then rup (100 * (dx * dx + dy * dy)) + -(g 16 * dx + g 17 * dy) / 10 else rup (100 * (dx * dx + dy * dy))

set_option maxHeartbeats 4000000 in
set_option maxRecDepth 100000 in
theorem k_X0_goesInto (l : Launch) (E : ED) (q : Nat → Nat) (g : Nat → Int32) (a : Nat → Nat → Int32) (c : Nat) (hcc : c < 4) (x1 y1 x2 y2 : Int32) : RO l E yX0_goesInto cX0_goesInto 10 .boolean 1 25 [.ref (q 44), .int (nI c), .int x1, .int y1, .int x2, .int y2] (sA E q g a) (fun r => r = bI (gin a c x1 y1 x2 y2)) := by
  refine RO.mk (by decide) (Nat.le_of_ble_eq_true rfl) [(0, .ref (q 44)), (1, .int (nI c)), (2, .int x1), (3, .int y1), (4, .int x2), (5, .int y2)] rfl (fun Z B ret => ?_)
  have j76 : ((!decide (a 12 c < mx x1 x2) || (!decide (mn x1 x2 < a 14 c) || (!decide (a 13 c < mx y1 y2) || !decide (mn y1 y2 < a 15 c)))) = false) → ((decide (x1 = x2) && decide (y1 = y2)) = false) → J Z 0 0 (sA E q g a) 76 [(0, .ref (q 44)), (1, .int (nI c)), (2, .int x1), (3, .int y1), (4, .int x2), (5, .int y2)] [] := by
    intro  hg hne
    refine i_iload_n B 2 dX0_goesInto_76 rfl ?_
    refine i_iload_n B 3 dX0_goesInto_77 rfl ?_
    refine i_iload B 4 dX0_goesInto_78 rfl ?_
    refine i_iload B 5 dX0_goesInto_80 rfl ?_
    refine i_aload_n B 0 dX0_goesInto_82 rfl ?_
    refine i_get (v := .ref (q 12)) B flX0_9 0 rfl rfl dX0_goesInto_83 ?_
    refine i_iload_n B 1 dX0_goesInto_86 rfl ?_
    refine i_ialdN B 1 c rfl rfl (by omega) (by decide) dX0_goesInto_87 ?_
    refine i_aload_n B 0 dX0_goesInto_88 rfl ?_
    refine i_get (v := .ref (q 13)) B flX0_15 0 rfl rfl dX0_goesInto_89 ?_
    refine i_iload_n B 1 dX0_goesInto_92 rfl ?_
    refine i_ialdN B 2 c rfl rfl (by omega) (by decide) dX0_goesInto_93 ?_
    refine c_roSN (rest := []) (As := [.int x1, .int y1, .int x2, .int y2, .int ((a 12) c), .int ((a 13) c)]) B (k_X8_turn l E x1 y1 x2 y2 ((a 12) c) ((a 13) c)) cal_yX8_turn is_yX8_turn (fun U h => h.2.2.2.2.2.2.2.1) (by decide) (by decide) rfl (Nat.le_of_ble_eq_true rfl) Has.nil _ rfl dX0_goesInto_94 (fun r hr => ?_)
    subst hr
    refine i_val (v' := .int (trn x1 y1 x2 y2 ((a 12) c) ((a 13) c))) rfl ?_
    refine i_istore B [(6, .int (trn x1 y1 x2 y2 ((a 12) c) ((a 13) c))), (0, .ref (q 44)), (1, .int (nI c)), (2, .int x1), (3, .int y1), (4, .int x2), (5, .int y2)] dX0_goesInto_97 (by decide) rfl ?_
    refine i_iload_n B 3 dX0_goesInto_99 rfl ?_
    refine i_iload_n B 4 dX0_goesInto_100 rfl ?_
    refine i_iload B 5 dX0_goesInto_101 rfl ?_
    refine i_iload B 6 dX0_goesInto_103 rfl ?_
    refine i_aload_n B 1 dX0_goesInto_105 rfl ?_
    refine i_get (v := .ref (q 14)) B flX0_18 0 rfl rfl dX0_goesInto_106 ?_
    refine i_iload_n B 2 dX0_goesInto_109 rfl ?_
    refine i_ialdN B 3 c rfl rfl (by omega) (by decide) dX0_goesInto_110 ?_
    refine i_aload_n B 1 dX0_goesInto_111 rfl ?_
    refine i_get (v := .ref (q 13)) B flX0_15 0 rfl rfl dX0_goesInto_112 ?_
    refine i_iload_n B 2 dX0_goesInto_115 rfl ?_
    refine i_ialdN B 2 c rfl rfl (by omega) (by decide) dX0_goesInto_116 ?_
    refine c_roSN (rest := []) (As := [.int x1, .int y1, .int x2, .int y2, .int ((a 14) c), .int ((a 13) c)]) B (k_X8_turn l E x1 y1 x2 y2 ((a 14) c) ((a 13) c)) cal_yX8_turn is_yX8_turn (fun U h => h.2.2.2.2.2.2.2.1) (by decide) (by decide) rfl (Nat.le_of_ble_eq_true rfl) Has.nil _ rfl dX0_goesInto_117 (fun r hr => ?_)
    subst hr
    refine i_val (v' := .int (trn x1 y1 x2 y2 ((a 14) c) ((a 13) c))) rfl ?_
    refine i_istore B [(7, .int (trn x1 y1 x2 y2 ((a 14) c) ((a 13) c))), (6, .int (trn x1 y1 x2 y2 ((a 12) c) ((a 13) c))), (0, .ref (q 44)), (1, .int (nI c)), (2, .int x1), (3, .int y1), (4, .int x2), (5, .int y2)] dX0_goesInto_120 (by decide) rfl ?_
    refine i_iload_n B 4 dX0_goesInto_122 rfl ?_
    refine i_iload_n B 5 dX0_goesInto_123 rfl ?_
    refine i_iload B 6 dX0_goesInto_124 rfl ?_
    refine i_iload B 7 dX0_goesInto_126 rfl ?_
    refine i_aload_n B 2 dX0_goesInto_128 rfl ?_
    refine i_get (v := .ref (q 14)) B flX0_18 0 rfl rfl dX0_goesInto_129 ?_
    refine i_iload_n B 3 dX0_goesInto_132 rfl ?_
    refine i_ialdN B 3 c rfl rfl (by omega) (by decide) dX0_goesInto_133 ?_
    refine i_aload_n B 2 dX0_goesInto_134 rfl ?_
    refine i_get (v := .ref (q 15)) B flX0_21 0 rfl rfl dX0_goesInto_135 ?_
    refine i_iload_n B 3 dX0_goesInto_138 rfl ?_
    refine i_ialdN B 4 c rfl rfl (by omega) (by decide) dX0_goesInto_139 ?_
    refine c_roSN (rest := []) (As := [.int x1, .int y1, .int x2, .int y2, .int ((a 14) c), .int ((a 15) c)]) B (k_X8_turn l E x1 y1 x2 y2 ((a 14) c) ((a 15) c)) cal_yX8_turn is_yX8_turn (fun U h => h.2.2.2.2.2.2.2.1) (by decide) (by decide) rfl (Nat.le_of_ble_eq_true rfl) Has.nil _ rfl dX0_goesInto_140 (fun r hr => ?_)
    subst hr
    refine i_val (v' := .int (trn x1 y1 x2 y2 ((a 14) c) ((a 15) c))) rfl ?_
    refine i_istore B [(8, .int (trn x1 y1 x2 y2 ((a 14) c) ((a 15) c))), (7, .int (trn x1 y1 x2 y2 ((a 14) c) ((a 13) c))), (6, .int (trn x1 y1 x2 y2 ((a 12) c) ((a 13) c))), (0, .ref (q 44)), (1, .int (nI c)), (2, .int x1), (3, .int y1), (4, .int x2), (5, .int y2)] dX0_goesInto_143 (by decide) rfl ?_
    refine i_iload_n B 5 dX0_goesInto_145 rfl ?_
    refine i_iload_n B 6 dX0_goesInto_146 rfl ?_
    refine i_iload B 7 dX0_goesInto_147 rfl ?_
    refine i_iload B 8 dX0_goesInto_149 rfl ?_
    refine i_aload_n B 3 dX0_goesInto_151 rfl ?_
    refine i_get (v := .ref (q 12)) B flX0_9 0 rfl rfl dX0_goesInto_152 ?_
    refine i_iload_n B 4 dX0_goesInto_155 rfl ?_
    refine i_ialdN B 1 c rfl rfl (by omega) (by decide) dX0_goesInto_156 ?_
    refine i_aload_n B 3 dX0_goesInto_157 rfl ?_
    refine i_get (v := .ref (q 15)) B flX0_21 0 rfl rfl dX0_goesInto_158 ?_
    refine i_iload_n B 4 dX0_goesInto_161 rfl ?_
    refine i_ialdN B 4 c rfl rfl (by omega) (by decide) dX0_goesInto_162 ?_
    refine c_roSN (rest := []) (As := [.int x1, .int y1, .int x2, .int y2, .int ((a 12) c), .int ((a 15) c)]) B (k_X8_turn l E x1 y1 x2 y2 ((a 12) c) ((a 15) c)) cal_yX8_turn is_yX8_turn (fun U h => h.2.2.2.2.2.2.2.1) (by decide) (by decide) rfl (Nat.le_of_ble_eq_true rfl) Has.nil _ rfl dX0_goesInto_163 (fun r hr => ?_)
    subst hr
    refine i_val (v' := .int (trn x1 y1 x2 y2 ((a 12) c) ((a 15) c))) rfl ?_
    refine i_istore B [(9, .int (trn x1 y1 x2 y2 ((a 12) c) ((a 15) c))), (8, .int (trn x1 y1 x2 y2 ((a 14) c) ((a 15) c))), (7, .int (trn x1 y1 x2 y2 ((a 14) c) ((a 13) c))), (6, .int (trn x1 y1 x2 y2 ((a 12) c) ((a 13) c))), (0, .ref (q 44)), (1, .int (nI c)), (2, .int x1), (3, .int y1), (4, .int x2), (5, .int y2)] dX0_goesInto_166 (by decide) rfl ?_
    refine i_iload B 3 dX0_goesInto_168 rfl ?_
    refine i_iload B 2 dX0_goesInto_170 rfl ?_
    refine i_min B mlX0_38 is_Mmin ini_java_lang_Math cd_Mmin (by decide) (Nat.le_of_ble_eq_true rfl) (by decide) dX0_goesInto_172 ?_
    refine i_val (v' := .int (mn (trn x1 y1 x2 y2 ((a 12) c) ((a 13) c)) (trn x1 y1 x2 y2 ((a 14) c) ((a 13) c)))) rfl ?_
    refine i_iload B 1 dX0_goesInto_175 rfl ?_
    refine i_iload B 0 dX0_goesInto_177 rfl ?_
    refine i_min B mlX0_38 is_Mmin ini_java_lang_Math cd_Mmin (by decide) (Nat.le_of_ble_eq_true rfl) (by decide) dX0_goesInto_179 ?_
    refine i_val (v' := .int (mn (trn x1 y1 x2 y2 ((a 14) c) ((a 15) c)) (trn x1 y1 x2 y2 ((a 12) c) ((a 15) c)))) rfl ?_
    refine i_min B mlX0_38 is_Mmin ini_java_lang_Math cd_Mmin (by decide) (Nat.le_of_ble_eq_true rfl) (by decide) dX0_goesInto_182 ?_
    refine i_val (v' := .int (mn (mn (trn x1 y1 x2 y2 ((a 12) c) ((a 13) c)) (trn x1 y1 x2 y2 ((a 14) c) ((a 13) c))) (mn (trn x1 y1 x2 y2 ((a 14) c) ((a 15) c)) (trn x1 y1 x2 y2 ((a 12) c) ((a 15) c))))) rfl ?_
    refine i_if_ge B 212 dX0_goesInto_185 (by decide) (fun h1 => ?_) (fun h1 => ?_)
    · replace h1 := q_n32.mpr h1
      refine i_iconst (v := 0) B dX0_goesInto_212 (by decide) ?_
      exact ret _ _ _ (by decide) dX0_goesInto_213 (by rw [gin, hg, hne]; simp only [h1, decide_true, decide_false, Bool.not_true, Bool.not_false, Bool.true_and, Bool.false_and, Bool.and_true, Bool.and_false, Bool.true_or, Bool.or_true, Bool.false_or, Bool.or_false, Bool.and_self, Bool.or_self, bI_t, bI_f, if_true, if_false, ite_true, ite_false, Bool.false_eq_true, Bool.true_eq_false, eq_self, reduceIte, true_or, or_true, false_or, or_false, and_true, true_and, and_false, false_and, not_true_eq_false, not_false_eq_true, decide_eq_true_eq, decide_eq_false_iff_not])
    · replace h1 := q_m32.mp h1
      refine i_iload B 3 dX0_goesInto_188 rfl ?_
      refine i_iload B 2 dX0_goesInto_190 rfl ?_
      refine i_max B mlX0_32 is_Mmax ini_java_lang_Math cd_Mmax (by decide) (Nat.le_of_ble_eq_true rfl) (by decide) dX0_goesInto_192 ?_
      refine i_val (v' := .int (mx (trn x1 y1 x2 y2 ((a 12) c) ((a 13) c)) (trn x1 y1 x2 y2 ((a 14) c) ((a 13) c)))) rfl ?_
      refine i_iload B 1 dX0_goesInto_195 rfl ?_
      refine i_iload B 0 dX0_goesInto_197 rfl ?_
      refine i_max B mlX0_32 is_Mmax ini_java_lang_Math cd_Mmax (by decide) (Nat.le_of_ble_eq_true rfl) (by decide) dX0_goesInto_199 ?_
      refine i_val (v' := .int (mx (trn x1 y1 x2 y2 ((a 14) c) ((a 15) c)) (trn x1 y1 x2 y2 ((a 12) c) ((a 15) c)))) rfl ?_
      refine i_max B mlX0_32 is_Mmax ini_java_lang_Math cd_Mmax (by decide) (Nat.le_of_ble_eq_true rfl) (by decide) dX0_goesInto_202 ?_
      refine i_val (v' := .int (mx (mx (trn x1 y1 x2 y2 ((a 12) c) ((a 13) c)) (trn x1 y1 x2 y2 ((a 14) c) ((a 13) c))) (mx (trn x1 y1 x2 y2 ((a 14) c) ((a 15) c)) (trn x1 y1 x2 y2 ((a 12) c) ((a 15) c))))) rfl ?_
      refine i_if_le B 212 dX0_goesInto_205 (by decide) (fun h2 => ?_) (fun h2 => ?_)
      · replace h2 := q_n32.mpr h2
        refine i_iconst (v := 0) B dX0_goesInto_212 (by decide) ?_
        exact ret _ _ _ (by decide) dX0_goesInto_213 (by rw [gin, hg, hne]; simp only [h1, h2, decide_true, decide_false, Bool.not_true, Bool.not_false, Bool.true_and, Bool.false_and, Bool.and_true, Bool.and_false, Bool.true_or, Bool.or_true, Bool.false_or, Bool.or_false, Bool.and_self, Bool.or_self, bI_t, bI_f, if_true, if_false, ite_true, ite_false, Bool.false_eq_true, Bool.true_eq_false, eq_self, reduceIte, true_or, or_true, false_or, or_false, and_true, true_and, and_false, false_and, not_true_eq_false, not_false_eq_true, decide_eq_true_eq, decide_eq_false_iff_not])
      · replace h2 := q_m32.mp h2
        refine i_iconst (v := 1) B dX0_goesInto_208 (by decide) ?_
        refine i_goto B 213 dX0_goesInto_209 (by decide) ?_
        exact ret _ _ _ (by decide) dX0_goesInto_213 (by rw [gin, hg, hne]; simp only [h1, h2, decide_true, decide_false, Bool.not_true, Bool.not_false, Bool.true_and, Bool.false_and, Bool.and_true, Bool.and_false, Bool.true_or, Bool.or_true, Bool.false_or, Bool.or_false, Bool.and_self, Bool.or_self, bI_t, bI_f, if_true, if_false, ite_true, ite_false, Bool.false_eq_true, Bool.true_eq_false, eq_self, reduceIte, true_or, or_true, false_or, or_false, and_true, true_and, and_false, false_and, not_true_eq_false, not_false_eq_true, decide_eq_true_eq, decide_eq_false_iff_not])
  refine i_iload_n B 2 dX0_goesInto_0 rfl ?_
  refine i_iload B 4 dX0_goesInto_1 rfl ?_
  refine i_max B mlX0_32 is_Mmax ini_java_lang_Math cd_Mmax (by decide) (Nat.le_of_ble_eq_true rfl) (by decide) dX0_goesInto_3 ?_
  refine i_val (v' := .int (mx x1 x2)) rfl ?_
  refine i_aload_n B 0 dX0_goesInto_6 rfl ?_
  refine i_get (v := .ref (q 12)) B flX0_9 0 rfl rfl dX0_goesInto_7 ?_
  refine i_iload_n B 1 dX0_goesInto_10 rfl ?_
  refine i_ialdN B 1 c rfl rfl (by omega) (by decide) dX0_goesInto_11 ?_
  refine i_icmp_le B 60 dX0_goesInto_12 (by decide) (fun h3 => ?_) (fun h3 => ?_)
  · replace h3 := q_n32.mpr h3
    refine i_iconst (v := 0) B dX0_goesInto_60 (by decide) ?_
    exact ret _ _ _ (by decide) dX0_goesInto_61 (by rw [gin]; simp only [h3, decide_true, decide_false, Bool.not_true, Bool.not_false, Bool.true_and, Bool.false_and, Bool.and_true, Bool.and_false, Bool.true_or, Bool.or_true, Bool.false_or, Bool.or_false, Bool.and_self, Bool.or_self, bI_t, bI_f, if_true, if_false, ite_true, ite_false, Bool.false_eq_true, Bool.true_eq_false, eq_self, reduceIte, true_or, or_true, false_or, or_false, and_true, true_and, and_false, false_and, not_true_eq_false, not_false_eq_true, decide_eq_true_eq, decide_eq_false_iff_not])
  · replace h3 := q_m32.mp h3
    refine i_iload_n B 2 dX0_goesInto_15 rfl ?_
    refine i_iload B 4 dX0_goesInto_16 rfl ?_
    refine i_min B mlX0_38 is_Mmin ini_java_lang_Math cd_Mmin (by decide) (Nat.le_of_ble_eq_true rfl) (by decide) dX0_goesInto_18 ?_
    refine i_val (v' := .int (mn x1 x2)) rfl ?_
    refine i_aload_n B 0 dX0_goesInto_21 rfl ?_
    refine i_get (v := .ref (q 14)) B flX0_18 0 rfl rfl dX0_goesInto_22 ?_
    refine i_iload_n B 1 dX0_goesInto_25 rfl ?_
    refine i_ialdN B 3 c rfl rfl (by omega) (by decide) dX0_goesInto_26 ?_
    refine i_icmp_ge B 60 dX0_goesInto_27 (by decide) (fun h4 => ?_) (fun h4 => ?_)
    · replace h4 := q_n32.mpr h4
      refine i_iconst (v := 0) B dX0_goesInto_60 (by decide) ?_
      exact ret _ _ _ (by decide) dX0_goesInto_61 (by rw [gin]; simp only [h3, h4, decide_true, decide_false, Bool.not_true, Bool.not_false, Bool.true_and, Bool.false_and, Bool.and_true, Bool.and_false, Bool.true_or, Bool.or_true, Bool.false_or, Bool.or_false, Bool.and_self, Bool.or_self, bI_t, bI_f, if_true, if_false, ite_true, ite_false, Bool.false_eq_true, Bool.true_eq_false, eq_self, reduceIte, true_or, or_true, false_or, or_false, and_true, true_and, and_false, false_and, not_true_eq_false, not_false_eq_true, decide_eq_true_eq, decide_eq_false_iff_not])
    · replace h4 := q_m32.mp h4
      refine i_iload_n B 3 dX0_goesInto_30 rfl ?_
      refine i_iload B 5 dX0_goesInto_31 rfl ?_
      refine i_max B mlX0_32 is_Mmax ini_java_lang_Math cd_Mmax (by decide) (Nat.le_of_ble_eq_true rfl) (by decide) dX0_goesInto_33 ?_
      refine i_val (v' := .int (mx y1 y2)) rfl ?_
      refine i_aload_n B 0 dX0_goesInto_36 rfl ?_
      refine i_get (v := .ref (q 13)) B flX0_15 0 rfl rfl dX0_goesInto_37 ?_
      refine i_iload_n B 1 dX0_goesInto_40 rfl ?_
      refine i_ialdN B 2 c rfl rfl (by omega) (by decide) dX0_goesInto_41 ?_
      refine i_icmp_le B 60 dX0_goesInto_42 (by decide) (fun h5 => ?_) (fun h5 => ?_)
      · replace h5 := q_n32.mpr h5
        refine i_iconst (v := 0) B dX0_goesInto_60 (by decide) ?_
        exact ret _ _ _ (by decide) dX0_goesInto_61 (by rw [gin]; simp only [h3, h4, h5, decide_true, decide_false, Bool.not_true, Bool.not_false, Bool.true_and, Bool.false_and, Bool.and_true, Bool.and_false, Bool.true_or, Bool.or_true, Bool.false_or, Bool.or_false, Bool.and_self, Bool.or_self, bI_t, bI_f, if_true, if_false, ite_true, ite_false, Bool.false_eq_true, Bool.true_eq_false, eq_self, reduceIte, true_or, or_true, false_or, or_false, and_true, true_and, and_false, false_and, not_true_eq_false, not_false_eq_true, decide_eq_true_eq, decide_eq_false_iff_not])
      · replace h5 := q_m32.mp h5
        refine i_iload_n B 3 dX0_goesInto_45 rfl ?_
        refine i_iload B 5 dX0_goesInto_46 rfl ?_
        refine i_min B mlX0_38 is_Mmin ini_java_lang_Math cd_Mmin (by decide) (Nat.le_of_ble_eq_true rfl) (by decide) dX0_goesInto_48 ?_
        refine i_val (v' := .int (mn y1 y2)) rfl ?_
        refine i_aload_n B 0 dX0_goesInto_51 rfl ?_
        refine i_get (v := .ref (q 15)) B flX0_21 0 rfl rfl dX0_goesInto_52 ?_
        refine i_iload_n B 1 dX0_goesInto_55 rfl ?_
        refine i_ialdN B 4 c rfl rfl (by omega) (by decide) dX0_goesInto_56 ?_
        refine i_icmp_lt B 62 dX0_goesInto_57 (by decide) (fun h6 => ?_) (fun h6 => ?_)
        · refine i_iload_n B 2 dX0_goesInto_62 rfl ?_
          refine i_iload B 4 dX0_goesInto_63 rfl ?_
          refine i_icmp_ne B 76 dX0_goesInto_65 (by decide) (fun h7 => ?_) (fun h7 => ?_)
          · have h7d := decide_eq_false h7
            exact j76  (by simp only [h3, h4, h5, h6, decide_true, decide_false, Bool.not_true, Bool.not_false, Bool.true_and, Bool.false_and, Bool.and_true, Bool.and_false, Bool.true_or, Bool.or_true, Bool.false_or, Bool.or_false, Bool.and_self, Bool.or_self, bI_t, bI_f]) (by simp only [h7d, decide_true, decide_false, Bool.not_true, Bool.not_false, Bool.true_and, Bool.false_and, Bool.and_true, Bool.and_false, Bool.true_or, Bool.or_true, Bool.false_or, Bool.or_false, Bool.and_self, Bool.or_self, bI_t, bI_f])
          · have h7d := decide_eq_true h7
            refine i_iload_n B 3 dX0_goesInto_68 rfl ?_
            refine i_iload B 5 dX0_goesInto_69 rfl ?_
            refine i_icmp_ne B 76 dX0_goesInto_71 (by decide) (fun h8 => ?_) (fun h8 => ?_)
            · have h8d := decide_eq_false h8
              exact j76  (by simp only [h3, h4, h5, h6, decide_true, decide_false, Bool.not_true, Bool.not_false, Bool.true_and, Bool.false_and, Bool.and_true, Bool.and_false, Bool.true_or, Bool.or_true, Bool.false_or, Bool.or_false, Bool.and_self, Bool.or_self, bI_t, bI_f]) (by simp only [h7d, h8d, decide_true, decide_false, Bool.not_true, Bool.not_false, Bool.true_and, Bool.false_and, Bool.and_true, Bool.and_false, Bool.true_or, Bool.or_true, Bool.false_or, Bool.or_false, Bool.and_self, Bool.or_self, bI_t, bI_f])
            · have h8d := decide_eq_true h8
              refine i_iconst (v := 1) B dX0_goesInto_74 (by decide) ?_
              exact ret _ _ _ (by decide) dX0_goesInto_75 (by rw [gin]; simp only [h3, h4, h5, h6, h7d, h8d, decide_true, decide_false, Bool.not_true, Bool.not_false, Bool.true_and, Bool.false_and, Bool.and_true, Bool.and_false, Bool.true_or, Bool.or_true, Bool.false_or, Bool.or_false, Bool.and_self, Bool.or_self, bI_t, bI_f, if_true, if_false, ite_true, ite_false, Bool.false_eq_true, Bool.true_eq_false, eq_self, reduceIte, true_or, or_true, false_or, or_false, and_true, true_and, and_false, false_and, not_true_eq_false, not_false_eq_true, decide_eq_true_eq, decide_eq_false_iff_not])
        · refine i_iconst (v := 0) B dX0_goesInto_60 (by decide) ?_
          exact ret _ _ _ (by decide) dX0_goesInto_61 (by rw [gin]; simp only [h3, h4, h5, h6, decide_true, decide_false, Bool.not_true, Bool.not_false, Bool.true_and, Bool.false_and, Bool.and_true, Bool.and_false, Bool.true_or, Bool.or_true, Bool.false_or, Bool.or_false, Bool.and_self, Bool.or_self, bI_t, bI_f, if_true, if_false, ite_true, ite_false, Bool.false_eq_true, Bool.true_eq_false, eq_self, reduceIte, true_or, or_true, false_or, or_false, and_true, true_and, and_false, false_and, not_true_eq_false, not_false_eq_true, decide_eq_true_eq, decide_eq_false_iff_not])

set_option maxHeartbeats 4000000 in
set_option maxRecDepth 100000 in
theorem k_X0_isShut (l : Launch) (E : ED) (q : Nat → Nat) (g : Nat → Int32) (a : Nat → Nat → Int32) (nc : Nat) (hc : g 11 = nI nc) (hnc : nc ≤ 4) (x1 y1 x2 y2 : Int32) : RO l E yX0_isShut cX0_isShut 6 .boolean 2 54 [.ref (q 44), .int x1, .int y1, .int x2, .int y2] (sA E q g a) (fun r => r = bI (gsh a x1 y1 x2 y2 nc)) := by
  refine RO.mk (by decide) (Nat.le_of_ble_eq_true rfl) [(0, .ref (q 44)), (1, .int x1), (2, .int y1), (3, .int x2), (4, .int y2)] rfl (fun Z B ret => ?_)
  have lp : ∀ (n_lp : Nat) (i : Nat), (nc - i < n_lp) → (i ≤ nc) → (gsh a x1 y1 x2 y2 i = false) → J Z 0 0 (sA E q g a) 3 [(5, .int (nI i)), (0, .ref (q 44)), (1, .int x1), (2, .int y1), (3, .int x2), (4, .int y2)] [] := by
    intro n_lp
    induction n_lp with
    | zero => intro i hf_lp hi hs; omega
    | succ n_lp ih_lp =>
      intro i hf_lp hi hs
      refine i_iload B 0 dX0_isShut_3 rfl ?_
      refine i_aload_n B 1 dX0_isShut_5 rfl ?_
      refine i_get (v := .int (g 11)) B flX0_24 0 rfl rfl dX0_isShut_6 ?_
      refine i_icmp_ge B 34 dX0_isShut_9 (by decide) (fun h1 => ?_) (fun h1 => ?_)
      · replace h1 := q_n32.mpr h1
        rw [hc, nI_ltI (by omega) (by omega)] at h1
        refine i_iconst (v := 0) B dX0_isShut_34 (by decide) ?_
        exact ret _ _ _ (by decide) dX0_isShut_35 (by rw [show nc = i by omega, hs]; rfl)
      · replace h1 := q_m32.mp h1
        rw [hc, nI_ltI (by omega) (by omega)] at h1
        refine i_aload_n B 1 dX0_isShut_12 rfl ?_
        refine i_iload B 0 dX0_isShut_13 rfl ?_
        refine i_iload_n B 2 dX0_isShut_15 rfl ?_
        refine i_iload_n B 3 dX0_isShut_16 rfl ?_
        refine i_iload_n B 4 dX0_isShut_17 rfl ?_
        refine i_iload B 5 dX0_isShut_18 rfl ?_
        refine c_roV (rest := []) (As := [.int (nI i), .int x1, .int y1, .int x2, .int y2]) B (k_X0_goesInto l E q g a i (by omega) x1 y1 x2 y2) cal_yX0_goesInto iv_yX0_goesInto mlX0_28 rfl 0 rfl (by decide) (by decide) rfl (Nat.le_of_ble_eq_true rfl) Has.rf _ rfl dX0_isShut_20 (fun r hr => ?_)
        subst hr
        refine i_val (v' := .int (bI (gin a i x1 y1 x2 y2))) rfl ?_
        refine i_if_eq B 28 dX0_isShut_23 (by decide) (fun h2 => ?_) (fun h2 => ?_)
        · replace h2 := bI_0.mp h2
          refine i_iinc (v := (nI (i + 1))) B 0 [(5, .int (nI (i + 1))), (0, .ref (q 44)), (1, .int x1), (2, .int y1), (3, .int x2), (4, .int y2)] dX0_isShut_28 rfl ((nI_1 _)) (by decide) rfl ?_
          refine i_goto B 3 dX0_isShut_31 (by decide) ?_
          exact ih_lp (i + 1) (by omega) (by omega) (by rw [gsh, hs, h2]; rfl)
        · replace h2 := bI_n.mp h2
          refine i_iconst (v := 1) B dX0_isShut_26 (by decide) ?_
          exact ret _ _ _ (by decide) dX0_isShut_27 (by rw [gsh_le (i := i + 1) (by rw [gsh, h2, Bool.or_true]) (by omega)]; rfl)
  refine i_iconst (v := 0) B dX0_isShut_0 (by decide) ?_
  refine i_istore B [(5, .int 0), (0, .ref (q 44)), (1, .int x1), (2, .int y1), (3, .int x2), (4, .int y2)] dX0_isShut_1 (by decide) rfl ?_
  refine i_Leq (congrArg (fun z_9 => ([(5, .int z_9), (0, .ref (q 44)), (1, .int x1), (2, .int y1), (3, .int x2), (4, .int y2)] : List (Nat × Value))) (show (0 : Int32) = (nI 0) from rfl)) ?_
  exact lp (nc + 1) 0 (by omega) (Nat.zero_le _) rfl

set_option maxHeartbeats 4000000 in
set_option maxRecDepth 100000 in
theorem k_X0_rootUp (l : Launch) (E : ED) (sq : Int32) : RO l E yX0_rootUp cX0_rootUp 4 .int 0 0 [.int sq] [] (fun r => r = rup sq) := by
  refine RO.mk (by decide) (Nat.le_of_ble_eq_true rfl) [(0, .int sq)] rfl (fun Z B ret => ?_)
  have lp : ∀ (n_lp : Nat) (k : Nat), (10 - k < n_lp) → (k ≤ 10) → J Z 0 0 [] 6 [(2, .int (bitk k)), (1, .int (rb sq k)), (0, .int sq)] [] := by
    intro n_lp
    induction n_lp with
    | zero => intro k hf_lp hk; omega
    | succ n_lp ih_lp =>
      intro k hf_lp hk
      refine i_iload_n B 0 dX0_rootUp_6 rfl ?_
      refine i_if_le B 30 dX0_rootUp_7 (by decide) (fun h1 => ?_) (fun h1 => ?_)
      · replace h1 := q_n32.mpr h1
        rw [bitk_p k (by omega)] at h1
        refine i_iload_n B 2 dX0_rootUp_30 rfl ?_
        refine i_if_le B 40 dX0_rootUp_31 (by decide) (fun h2 => ?_) (fun h2 => ?_)
        · replace h2 := q_n32.mpr h2
          refine i_iconst (v := 0) B dX0_rootUp_40 (by decide) ?_
          exact ret _ _ _ rfl dX0_rootUp_41 (by rw [rup]; simp only [h2, show k = 10 by omega, if_true, if_false])
        · replace h2 := q_m32.mp h2
          refine i_iload_n B 1 dX0_rootUp_34 rfl ?_
          refine i_iconst (v := 1) B dX0_rootUp_35 (by decide) ?_
          refine i_iadd B dX0_rootUp_36 ?_
          refine i_goto B 41 dX0_rootUp_37 (by decide) ?_
          exact ret _ _ _ rfl dX0_rootUp_41 (by rw [rup]; simp only [h2, show k = 10 by omega, if_true, if_false])
      · replace h1 := q_m32.mp h1
        rw [bitk_p k (by omega)] at h1
        refine i_iload_n B 1 dX0_rootUp_10 rfl ?_
        refine i_iload_n B 0 dX0_rootUp_11 rfl ?_
        refine i_iadd B dX0_rootUp_12 ?_
        refine i_istore_n B [(3, .int ((rb sq k) + (bitk k))), (2, .int (bitk k)), (1, .int (rb sq k)), (0, .int sq)] dX0_rootUp_13 (by decide) rfl ?_
        refine i_iload_n B 0 dX0_rootUp_14 rfl ?_
        refine i_iload_n B 0 dX0_rootUp_15 rfl ?_
        refine i_imul B dX0_rootUp_16 ?_
        refine i_iload_n B 3 dX0_rootUp_17 rfl ?_
        refine i_icmp_ge B 23 dX0_rootUp_18 (by decide) (fun h3 => ?_) (fun h3 => ?_)
        · replace h3 := q_n32.mpr h3
          refine i_iload_n B 1 dX0_rootUp_23 rfl ?_
          refine i_iconst (v := 2) B dX0_rootUp_24 (by decide) ?_
          refine i_idiv B dX0_rootUp_25 (by decide) ?_
          refine i_istore_n B [(2, .int ((bitk k) / 2)), (3, .int ((rb sq k) + (bitk k))), (1, .int (rb sq k)), (0, .int sq)] dX0_rootUp_26 (by decide) rfl ?_
          refine i_goto B 6 dX0_rootUp_27 (by decide) ?_
          refine i_locals [0, 2, 3] (L' := [(2, .int ((bitk k) / 2)), (1, .int (rb sq k)), (0, .int sq)]) rfl ?_
          refine i_Leq (congrArg (fun z_9 => ([(2, .int z_9), (1, .int (rb sq k)), (0, .int sq)] : List (Nat × Value))) (show (((bitk k) / 2) : Int32) = (bitk (k + 1)) from bitk_s k (by omega))) ?_
          refine i_Leq (congrArg (fun z_9 => ([(2, .int (bitk (k + 1))), (1, .int z_9), (0, .int sq)] : List (Nat × Value))) (show ((rb sq k) : Int32) = (rb sq (k + 1)) from by rw [rb]; simp only [h3, if_true, if_false])) ?_
          exact ih_lp (k + 1) (by omega) (by omega)
        · replace h3 := q_m32.mp h3
          refine i_iload_n B 0 dX0_rootUp_21 rfl ?_
          refine i_istore_n B [(1, .int ((rb sq k) + (bitk k))), (3, .int ((rb sq k) + (bitk k))), (2, .int (bitk k)), (0, .int sq)] dX0_rootUp_22 (by decide) rfl ?_
          refine i_iload_n B 2 dX0_rootUp_23 rfl ?_
          refine i_iconst (v := 2) B dX0_rootUp_24 (by decide) ?_
          refine i_idiv B dX0_rootUp_25 (by decide) ?_
          refine i_istore_n B [(2, .int ((bitk k) / 2)), (1, .int ((rb sq k) + (bitk k))), (3, .int ((rb sq k) + (bitk k))), (0, .int sq)] dX0_rootUp_26 (by decide) rfl ?_
          refine i_goto B 6 dX0_rootUp_27 (by decide) ?_
          refine i_locals [0, 1, 3] (L' := [(2, .int ((bitk k) / 2)), (1, .int ((rb sq k) + (bitk k))), (0, .int sq)]) rfl ?_
          refine i_Leq (congrArg (fun z_9 => ([(2, .int z_9), (1, .int ((rb sq k) + (bitk k))), (0, .int sq)] : List (Nat × Value))) (show (((bitk k) / 2) : Int32) = (bitk (k + 1)) from bitk_s k (by omega))) ?_
          refine i_Leq (congrArg (fun z_9 => ([(2, .int (bitk (k + 1))), (1, .int z_9), (0, .int sq)] : List (Nat × Value))) (show (((rb sq k) + (bitk k)) : Int32) = (rb sq (k + 1)) from by rw [rb]; simp only [h3, if_true, if_false])) ?_
          exact ih_lp (k + 1) (by omega) (by omega)
  refine i_iconst (v := 0) B dX0_rootUp_0 (by decide) ?_
  refine i_istore_n B [(1, .int 0), (0, .int sq)] dX0_rootUp_1 (by decide) rfl ?_
  refine i_sipush (v := 512) B dX0_rootUp_2 (by decide) ?_
  refine i_istore_n B [(2, .int 512), (1, .int 0), (0, .int sq)] dX0_rootUp_5 (by decide) rfl ?_
  refine i_Leq (congrArg (fun z_9 => ([(2, .int z_9), (1, .int 0), (0, .int sq)] : List (Nat × Value))) (show (512 : Int32) = (bitk 0) from rfl)) ?_
  refine i_Leq (congrArg (fun z_9 => ([(2, .int (bitk 0)), (1, .int z_9), (0, .int sq)] : List (Nat × Value))) (show (0 : Int32) = (rb sq 0) from rfl)) ?_
  exact lp (11) 0 (by omega) (Nat.zero_le _)

set_option maxHeartbeats 4000000 in
set_option maxRecDepth 100000 in
theorem k_X0_cost (l : Launch) (E : ED) (q : Nat → Nat) (g : Nat → Int32) (a : Nat → Nat → Int32) (dx dy : Int32) : RO l E yX0_cost cX0_cost 5 .int 1 23 [.ref (q 44), .int dx, .int dy] (sA E q g a) (fun r => r = cst g dx dy) := by
  refine RO.mk (by decide) (Nat.le_of_ble_eq_true rfl) [(0, .ref (q 44)), (1, .int dx), (2, .int dy)] rfl (fun Z B ret => ?_)
  refine i_bipush (v := 100) B dX0_cost_0 (by decide) ?_
  refine i_iload_n B 1 dX0_cost_2 rfl ?_
  refine i_iload_n B 1 dX0_cost_3 rfl ?_
  refine i_imul B dX0_cost_4 ?_
  refine i_iload_n B 2 dX0_cost_5 rfl ?_
  refine i_iload_n B 2 dX0_cost_6 rfl ?_
  refine i_imul B dX0_cost_7 ?_
  refine i_iadd B dX0_cost_8 ?_
  refine i_imul B dX0_cost_9 ?_
  refine c_roS (rest := []) (As := [.int (100 * ((dx * dx) + (dy * dy)))]) B (k_X0_rootUp l E (100 * ((dx * dx) + (dy * dy)))) cal_yX0_rootUp is_yX0_rootUp mlX0_45 (by decide) (by decide) rfl (Nat.le_of_ble_eq_true rfl) Has.nil _ rfl dX0_cost_10 (fun r hr => ?_)
  subst hr
  refine i_val (v' := .int (rup (100 * ((dx * dx) + (dy * dy))))) rfl ?_
  refine i_istore_n B [(3, .int (rup (100 * ((dx * dx) + (dy * dy))))), (0, .ref (q 44)), (1, .int dx), (2, .int dy)] dX0_cost_13 (by decide) rfl ?_
  refine i_aload_n B 1 dX0_cost_14 rfl ?_
  refine i_get (v := .int (g 16)) B flX0_49 0 rfl rfl dX0_cost_15 ?_
  refine i_iload_n B 2 dX0_cost_18 rfl ?_
  refine i_imul B dX0_cost_19 ?_
  refine i_aload_n B 1 dX0_cost_20 rfl ?_
  refine i_get (v := .int (g 17)) B flX0_52 0 rfl rfl dX0_cost_21 ?_
  refine i_iload_n B 3 dX0_cost_24 rfl ?_
  refine i_imul B dX0_cost_25 ?_
  refine i_iadd B dX0_cost_26 ?_
  refine i_istore B [(4, .int (((g 16) * dx) + ((g 17) * dy))), (3, .int (rup (100 * ((dx * dx) + (dy * dy))))), (0, .ref (q 44)), (1, .int dx), (2, .int dy)] dX0_cost_27 (by decide) rfl ?_
  refine i_iload B 0 dX0_cost_29 rfl ?_
  refine i_if_ge B 45 dX0_cost_31 (by decide) (fun h1 => ?_) (fun h1 => ?_)
  · replace h1 := q_n32.mpr h1
    refine i_iload_n B 1 dX0_cost_45 rfl ?_
    exact ret _ _ _ rfl dX0_cost_46 (by rw [cst]; simp only [h1, if_true, if_false])
  · replace h1 := q_m32.mp h1
    refine i_iload_n B 1 dX0_cost_34 rfl ?_
    refine i_iload B 0 dX0_cost_35 rfl ?_
    refine i_ineg B dX0_cost_37 ?_
    refine i_bipush (v := 10) B dX0_cost_38 (by decide) ?_
    refine i_idiv B dX0_cost_40 (by decide) ?_
    refine i_iadd B dX0_cost_41 ?_
    refine i_goto B 46 dX0_cost_42 (by decide) ?_
    exact ret _ _ _ rfl dX0_cost_46 (by rw [cst]; simp only [h1, if_true, if_false])
