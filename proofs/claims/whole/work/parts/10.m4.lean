theorem cvr_cg {f f' : Nat → Int32} {nv np : Nat} {k : Int32} {s : Nat} (h : ∀ j, j < nv → f j = f' j) : cvr f nv np k s = cvr f' nv np k s := by
  induction s with
  | zero => rfl
  | succ s ih => rw [cvr, cvr, ih, tms_cg h]

set_option maxHeartbeats 4000000 in
set_option maxRecDepth 100000 in
theorem k_X9_cover (l : Launch) (E : ED) (h : Nat) (q : Nat → Nat) (g : Nat → Int32) (a : Nat → Nat → Int32) (np : Nat) (hn : g 1 = nI np) (hnp : np ≤ 12) (nv : Nat) (hv : g 8 = nI nv) (hnv : nv ≤ 10) (k : Int32) : WR l E yX9_cover cX9_cover 4 .int 6 164 0 0 [.ref h, .int k] (mW E h q g a) (fun r (_ : Nat → Int32) => r = covF g a np nv k) (fun u => mW E h q g (va_up a 34 u)) := by
  refine WR.mk (by decide) (Nat.le_of_ble_eq_true rfl) [(0, .ref h), (1, .int k)] rfl (fun Z B ret => ?_)
  have lp : ∀ (n_lp : Nat) (i : Nat), (2 ^ nv - i < n_lp) → (i ≤ 2 ^ nv) → (wit k 1 3 = true) → J Z 0 0 (mW E h q g (va_up a 34 (lkf g a np nv))) 29 [(3, .int (nI i)), (2, .int (cvr (lkf g a np nv) nv np k i)), (0, .ref h), (1, .int k)] [] := by
    intro n_lp
    induction n_lp with
    | zero => intro i hf_lp hi hk; omega
    | succ n_lp ih_lp =>
      intro i hf_lp hi hk
      have hpw := pow_le nv hnv
      refine i_iload_n B 0 dX9_cover_29 rfl ?_
      refine i_iconst (v := 1) B dX9_cover_30 (by decide) ?_
      refine i_aload_n B 2 dX9_cover_31 rfl ?_
      refine i_get (v := .int (g 8)) B flX9_111 0 rfl rfl dX9_cover_32 ?_
      refine i_ishl B dX9_cover_35 ?_
      refine i_icmp_ge B 77 dX9_cover_36 (by decide) (fun h1 => ?_) (fun h1 => ?_)
      · replace h1 := q_n32.mpr h1
        rw [hv, shl1 nv hnv, nI_ltI (by omega) (by omega)] at h1
        refine i_iload_n B 1 dX9_cover_77 rfl ?_
        exact ret _ _ _ (lkf g a np nv) rfl dX9_cover_78 (by rw [covF, hk, show 2 ^ nv = i by omega]; exact cvr_cg (fun _ h => lkf_at h))
      · replace h1 := q_m32.mp h1
        rw [hv, shl1 nv hnv, nI_ltI (by omega) (by omega)] at h1
        refine i_iload_n B 1 dX9_cover_39 rfl ?_
        refine i_bipush (v := (-9)) B dX9_cover_40 (by decide) ?_
        refine i_icmp_eq B 56 dX9_cover_42 (by decide) (fun h2 => ?_) (fun h2 => ?_)
        · have h2d := decide_eq_true h2
          refine i_aload_n B 2 dX9_cover_56 rfl ?_
          refine i_iload_n B 0 dX9_cover_57 rfl ?_
          refine c_roV (rest := []) (As := [.int (nI i)]) B (k_X9_timesOf l E h q g (va_up a 34 (lkf g a np nv)) np hn hnp nv hv hnv (nI i)) cal_yX9_timesOf iv_yX9_timesOf mlX9_160 rfl 0 rfl (by decide) (by decide) rfl (Nat.le_of_ble_eq_true rfl) Has.rf _ rfl dX9_cover_58 (fun r hr => ?_)
          subst hr
          refine i_val (v' := .int (tms (nI i) (lkf g a np nv) nv np)) rfl ?_
          refine i_iload_n B 3 dX9_cover_61 rfl ?_
          refine i_icmp_lt B 69 dX9_cover_62 (by decide) (fun h3 => ?_) (fun h3 => ?_)
          · refine i_iload_n B 1 dX9_cover_69 rfl ?_
            refine i_istore_n B [(2, .int (cvr (lkf g a np nv) nv np k i)), (3, .int (nI i)), (0, .ref h), (1, .int k)] dX9_cover_70 (by decide) rfl ?_
            refine i_iinc (v := (nI (i + 1))) B 1 [(3, .int (nI (i + 1))), (2, .int (cvr (lkf g a np nv) nv np k i)), (0, .ref h), (1, .int k)] dX9_cover_71 rfl ((nI_1 _)) (by decide) rfl ?_
            refine i_goto B 29 dX9_cover_74 (by decide) ?_
            refine i_Leq (congrArg (fun z_9 => ([(3, .int (nI (i + 1))), (2, .int z_9), (0, .ref h), (1, .int k)] : List (Nat × Value))) (show ((cvr (lkf g a np nv) nv np k i) : Int32) = (cvr (lkf g a np nv) nv np k (i + 1)) from by rw [cvr]; simp only [h2, h3, decide_true, decide_false, Bool.not_true, Bool.not_false, Bool.true_and, Bool.false_and, Bool.and_true, Bool.and_false, Bool.true_or, Bool.or_true, Bool.false_or, Bool.or_false, bI_t, bI_f, if_true, if_false, ite_true, ite_false, Bool.false_eq_true, Bool.true_eq_false, eq_self, reduceIte, true_or, or_true, false_or, or_false, and_true, true_and, and_false, false_and, not_true_eq_false, not_false_eq_true, decide_eq_true_eq, decide_eq_false_iff_not])) ?_
            exact ih_lp (i + 1) (by omega) (by omega) hk
          · refine i_iload_n B 0 dX9_cover_65 rfl ?_
            refine i_goto B 70 dX9_cover_66 (by decide) ?_
            refine i_istore_n B [(2, .int (nI i)), (3, .int (nI i)), (0, .ref h), (1, .int k)] dX9_cover_70 (by decide) rfl ?_
            refine i_iinc (v := (nI (i + 1))) B 1 [(3, .int (nI (i + 1))), (2, .int (nI i)), (0, .ref h), (1, .int k)] dX9_cover_71 rfl ((nI_1 _)) (by decide) rfl ?_
            refine i_goto B 29 dX9_cover_74 (by decide) ?_
            refine i_Leq (congrArg (fun z_9 => ([(3, .int (nI (i + 1))), (2, .int z_9), (0, .ref h), (1, .int k)] : List (Nat × Value))) (show ((nI i) : Int32) = (cvr (lkf g a np nv) nv np k (i + 1)) from by rw [cvr]; simp only [h2, h3, decide_true, decide_false, Bool.not_true, Bool.not_false, Bool.true_and, Bool.false_and, Bool.and_true, Bool.and_false, Bool.true_or, Bool.or_true, Bool.false_or, Bool.or_false, bI_t, bI_f, if_true, if_false, ite_true, ite_false, Bool.false_eq_true, Bool.true_eq_false, eq_self, reduceIte, true_or, or_true, false_or, or_false, and_true, true_and, and_false, false_and, not_true_eq_false, not_false_eq_true, decide_eq_true_eq, decide_eq_false_iff_not])) ?_
            exact ih_lp (i + 1) (by omega) (by omega) hk
        · have h2d := decide_eq_false h2
          refine i_iload_n B 0 dX9_cover_45 rfl ?_
          refine c_roS (rest := []) (As := [.int (nI i)]) B (k_X9_bits l E (nI i)) cal_yX9_bits is_yX9_bits mlX9_157 (by decide) (by decide) rfl (Nat.le_of_ble_eq_true rfl) Has.nil _ rfl dX9_cover_46 (fun r hr => ?_)
          subst hr
          refine i_val (v' := .int (bits10 (nI i) 10)) rfl ?_
          refine i_iload_n B 1 dX9_cover_49 rfl ?_
          refine c_roS (rest := [.int (bits10 (nI i) 10)]) (As := [.int (cvr (lkf g a np nv) nv np k i)]) B (k_X9_bits l E (cvr (lkf g a np nv) nv np k i)) cal_yX9_bits is_yX9_bits mlX9_157 (by decide) (by decide) rfl (Nat.le_of_ble_eq_true rfl) Has.nil _ rfl dX9_cover_50 (fun r hr => ?_)
          subst hr
          refine i_val (v' := .int (bits10 (cvr (lkf g a np nv) nv np k i) 10)) rfl ?_
          refine i_icmp_ge B 69 dX9_cover_53 (by decide) (fun h4 => ?_) (fun h4 => ?_)
          · replace h4 := q_n32.mpr h4
            refine i_iload_n B 1 dX9_cover_69 rfl ?_
            refine i_istore_n B [(2, .int (cvr (lkf g a np nv) nv np k i)), (3, .int (nI i)), (0, .ref h), (1, .int k)] dX9_cover_70 (by decide) rfl ?_
            refine i_iinc (v := (nI (i + 1))) B 1 [(3, .int (nI (i + 1))), (2, .int (cvr (lkf g a np nv) nv np k i)), (0, .ref h), (1, .int k)] dX9_cover_71 rfl ((nI_1 _)) (by decide) rfl ?_
            refine i_goto B 29 dX9_cover_74 (by decide) ?_
            refine i_Leq (congrArg (fun z_9 => ([(3, .int (nI (i + 1))), (2, .int z_9), (0, .ref h), (1, .int k)] : List (Nat × Value))) (show ((cvr (lkf g a np nv) nv np k i) : Int32) = (cvr (lkf g a np nv) nv np k (i + 1)) from by rw [cvr]; simp only [h2, h4, decide_true, decide_false, Bool.not_true, Bool.not_false, Bool.true_and, Bool.false_and, Bool.and_true, Bool.and_false, Bool.true_or, Bool.or_true, Bool.false_or, Bool.or_false, bI_t, bI_f, if_true, if_false, ite_true, ite_false, Bool.false_eq_true, Bool.true_eq_false, eq_self, reduceIte, true_or, or_true, false_or, or_false, and_true, true_and, and_false, false_and, not_true_eq_false, not_false_eq_true, decide_eq_true_eq, decide_eq_false_iff_not])) ?_
            exact ih_lp (i + 1) (by omega) (by omega) hk
          · replace h4 := q_m32.mp h4
            refine i_aload_n B 2 dX9_cover_56 rfl ?_
            refine i_iload_n B 0 dX9_cover_57 rfl ?_
            refine c_roV (rest := []) (As := [.int (nI i)]) B (k_X9_timesOf l E h q g (va_up a 34 (lkf g a np nv)) np hn hnp nv hv hnv (nI i)) cal_yX9_timesOf iv_yX9_timesOf mlX9_160 rfl 0 rfl (by decide) (by decide) rfl (Nat.le_of_ble_eq_true rfl) Has.rf _ rfl dX9_cover_58 (fun r hr => ?_)
            subst hr
            refine i_val (v' := .int (tms (nI i) (lkf g a np nv) nv np)) rfl ?_
            refine i_iload_n B 3 dX9_cover_61 rfl ?_
            refine i_icmp_lt B 69 dX9_cover_62 (by decide) (fun h5 => ?_) (fun h5 => ?_)
            · refine i_iload_n B 1 dX9_cover_69 rfl ?_
              refine i_istore_n B [(2, .int (cvr (lkf g a np nv) nv np k i)), (3, .int (nI i)), (0, .ref h), (1, .int k)] dX9_cover_70 (by decide) rfl ?_
              refine i_iinc (v := (nI (i + 1))) B 1 [(3, .int (nI (i + 1))), (2, .int (cvr (lkf g a np nv) nv np k i)), (0, .ref h), (1, .int k)] dX9_cover_71 rfl ((nI_1 _)) (by decide) rfl ?_
              refine i_goto B 29 dX9_cover_74 (by decide) ?_
              refine i_Leq (congrArg (fun z_9 => ([(3, .int (nI (i + 1))), (2, .int z_9), (0, .ref h), (1, .int k)] : List (Nat × Value))) (show ((cvr (lkf g a np nv) nv np k i) : Int32) = (cvr (lkf g a np nv) nv np k (i + 1)) from by rw [cvr]; simp only [h2, h4, h5, decide_true, decide_false, Bool.not_true, Bool.not_false, Bool.true_and, Bool.false_and, Bool.and_true, Bool.and_false, Bool.true_or, Bool.or_true, Bool.false_or, Bool.or_false, bI_t, bI_f, if_true, if_false, ite_true, ite_false, Bool.false_eq_true, Bool.true_eq_false, eq_self, reduceIte, true_or, or_true, false_or, or_false, and_true, true_and, and_false, false_and, not_true_eq_false, not_false_eq_true, decide_eq_true_eq, decide_eq_false_iff_not])) ?_
              exact ih_lp (i + 1) (by omega) (by omega) hk
            · refine i_iload_n B 0 dX9_cover_65 rfl ?_
              refine i_goto B 70 dX9_cover_66 (by decide) ?_
              refine i_istore_n B [(2, .int (nI i)), (3, .int (nI i)), (0, .ref h), (1, .int k)] dX9_cover_70 (by decide) rfl ?_
              refine i_iinc (v := (nI (i + 1))) B 1 [(3, .int (nI (i + 1))), (2, .int (nI i)), (0, .ref h), (1, .int k)] dX9_cover_71 rfl ((nI_1 _)) (by decide) rfl ?_
              refine i_goto B 29 dX9_cover_74 (by decide) ?_
              refine i_Leq (congrArg (fun z_9 => ([(3, .int (nI (i + 1))), (2, .int z_9), (0, .ref h), (1, .int k)] : List (Nat × Value))) (show ((nI i) : Int32) = (cvr (lkf g a np nv) nv np k (i + 1)) from by rw [cvr]; simp only [h2, h4, h5, decide_true, decide_false, Bool.not_true, Bool.not_false, Bool.true_and, Bool.false_and, Bool.and_true, Bool.and_false, Bool.true_or, Bool.or_true, Bool.false_or, Bool.or_false, bI_t, bI_f, if_true, if_false, ite_true, ite_false, Bool.false_eq_true, Bool.true_eq_false, eq_self, reduceIte, true_or, or_true, false_or, or_false, and_true, true_and, and_false, false_and, not_true_eq_false, not_false_eq_true, decide_eq_true_eq, decide_eq_false_iff_not])) ?_
              exact ih_lp (i + 1) (by omega) (by omega) hk
  refine i_aload_n B 0 dX9_cover_0 rfl ?_
  refine i_iconst (v := 0) B dX9_cover_1 (by decide) ?_
  refine i_put B flX9_99 0 (mW E h q g a) rfl rfl rfl rfl (Nat.le_of_ble_eq_true rfl) rfl dX9_cover_2 ?_
  refine i_iload_n B 1 dX9_cover_5 rfl ?_
  refine i_i2l B dX9_cover_6 ?_
  refine i_lconst (v := 1) B dX9_cover_7 (by decide) ?_
  refine i_ldc2 B ckX9_152 dX9_cover_8 ?_
  refine c_roS (rest := []) (As := [.long (Int32.toInt64 k), .long 1, .long 3]) B (k_X9_in l E (Int32.toInt64 k) 1 3) cal_yX9_in is_yX9_in mlX9_104 (by decide) (by decide) rfl (Nat.le_of_ble_eq_true rfl) Has.nil _ rfl dX9_cover_11 (fun r hr => ?_)
  subst hr
  refine i_val (v' := .int (bI (wit k 1 3))) (congrArg (fun z => Value.int (bI z)) (pin_i k 1 3)) ?_
  refine i_if_ne B 20 dX9_cover_14 (by decide) (fun h6 => ?_) (fun h6 => ?_)
  · replace h6 := bI_n.mp h6
    refine i_aload_n B 0 dX9_cover_20 rfl ?_
    refine c_wvV (rest := []) (As := []) B (k_X9_look l E h q g a np hn hnp nv hv hnv) cal_yX9_look iv_yX9_look mlX9_154 rfl 0 rfl (by decide) (by decide) rfl (Nat.le_of_ble_eq_true rfl) ([]) ([]) rfl _ rfl dX9_cover_21 (fun _ hr => ?_)
    refine i_world (ws' := (mW E h q g (va_up a 34 (lkf g a np nv)))) rfl ?_
    refine i_bipush (v := (-9)) B dX9_cover_24 (by decide) ?_
    refine i_istore_n B [(2, .int (-9)), (0, .ref h), (1, .int k)] dX9_cover_26 (by decide) rfl ?_
    refine i_iconst (v := 0) B dX9_cover_27 (by decide) ?_
    refine i_istore_n B [(3, .int 0), (2, .int (-9)), (0, .ref h), (1, .int k)] dX9_cover_28 (by decide) rfl ?_
    refine i_Leq (congrArg (fun z_9 => ([(3, .int z_9), (2, .int (-9)), (0, .ref h), (1, .int k)] : List (Nat × Value))) (show (0 : Int32) = (nI 0) from rfl)) ?_
    refine i_Leq (congrArg (fun z_9 => ([(3, .int (nI 0)), (2, .int z_9), (0, .ref h), (1, .int k)] : List (Nat × Value))) (show ((-9) : Int32) = (cvr (lkf g a np nv) nv np k 0) from rfl)) ?_
    exact lp (2 ^ nv + 1) 0 (Nat.lt_succ_of_le (Nat.sub_le _ _)) (Nat.zero_le _) h6
  · replace h6 := bI_0.mp h6
    refine i_bipush (v := (-2)) B dX9_cover_17 (by decide) ?_
    exact ret _ _ _ (a 34) rfl dX9_cover_19 (by simp only [covF, h6, decide_true, decide_false, Bool.not_true, Bool.not_false, Bool.true_and, Bool.false_and, Bool.and_true, Bool.and_false, Bool.true_or, Bool.or_true, Bool.false_or, Bool.or_false, bI_t, bI_f, if_true, if_false, ite_true, ite_false, Bool.false_eq_true, Bool.true_eq_false, eq_self, reduceIte, true_or, or_true, false_or, or_false, and_true, true_and, and_false, false_and, not_true_eq_false, not_false_eq_true, decide_eq_true_eq, decide_eq_false_iff_not])

set_option maxHeartbeats 4000000 in
set_option maxRecDepth 100000 in
theorem k_X9_covers (l : Launch) (E : ED) (h : Nat) (q : Nat → Nat) (g : Nat → Int32) (a : Nat → Nat → Int32) (np : Nat) (hn : g 1 = nI np) (hnp : np ≤ 12) (nv : Nat) (hv : g 8 = nI nv) (hnv : nv ≤ 10) (s k : Int32) : WR l E yX9_covers cX9_covers 3 .int 6 164 0 0 [.ref h, .int s, .int k] (mW E h q g a) (fun r (_ : Nat → Int32) => r = covsF g a np nv s k) (fun u => mW E h q g (va_up a 34 u)) := by
  refine WR.mk (by decide) (Nat.le_of_ble_eq_true rfl) [(0, .ref h), (1, .int s), (2, .int k)] rfl (fun Z B ret => ?_)
  refine i_aload_n B 0 dX9_covers_0 rfl ?_
  refine i_iconst (v := 0) B dX9_covers_1 (by decide) ?_
  refine i_put B flX9_99 0 (mW E h q g a) rfl rfl rfl rfl (Nat.le_of_ble_eq_true rfl) rfl dX9_covers_2 ?_
  refine i_aload_n B 0 dX9_covers_5 rfl ?_
  refine i_iload_n B 1 dX9_covers_6 rfl ?_
  refine c_roV (rest := []) (As := [.int s]) B (k_X9_noSet l E h q g a s) cal_yX9_noSet iv_yX9_noSet mlX9_163 rfl 0 rfl (by decide) (by decide) rfl (Nat.le_of_ble_eq_true rfl) Has.rf _ rfl dX9_covers_7 (fun r hr => ?_)
  subst hr
  refine i_val (v' := .int (bI (nset (g 8) s))) rfl ?_
  refine i_if_eq B 15 dX9_covers_10 (by decide) (fun h1 => ?_) (fun h1 => ?_)
  · replace h1 := bI_0.mp h1
    refine i_iload_n B 2 dX9_covers_15 rfl ?_
    refine i_i2l B dX9_covers_16 ?_
    refine i_lconst (v := 1) B dX9_covers_17 (by decide) ?_
    refine i_ldc2 B ckX9_152 dX9_covers_18 ?_
    refine c_roS (rest := []) (As := [.long (Int32.toInt64 k), .long 1, .long 3]) B (k_X9_in l E (Int32.toInt64 k) 1 3) cal_yX9_in is_yX9_in mlX9_104 (by decide) (by decide) rfl (Nat.le_of_ble_eq_true rfl) Has.nil _ rfl dX9_covers_21 (fun r hr => ?_)
    subst hr
    refine i_val (v' := .int (bI (wit k 1 3))) (congrArg (fun z => Value.int (bI z)) (pin_i k 1 3)) ?_
    refine i_if_ne B 30 dX9_covers_24 (by decide) (fun h2 => ?_) (fun h2 => ?_)
    · replace h2 := bI_n.mp h2
      refine i_aload_n B 0 dX9_covers_30 rfl ?_
      refine c_wvV (rest := []) (As := []) B (k_X9_look l E h q g a np hn hnp nv hv hnv) cal_yX9_look iv_yX9_look mlX9_154 rfl 0 rfl (by decide) (by decide) rfl (Nat.le_of_ble_eq_true rfl) ([]) ([]) rfl _ rfl dX9_covers_31 (fun _ hr => ?_)
      refine i_world (ws' := (mW E h q g (va_up a 34 (lkf g a np nv)))) rfl ?_
      refine i_aload_n B 0 dX9_covers_34 rfl ?_
      refine i_iload_n B 1 dX9_covers_35 rfl ?_
      refine c_roV (rest := []) (As := [.int s]) B (k_X9_timesOf l E h q g (va_up a 34 (lkf g a np nv)) np hn hnp nv hv hnv s) cal_yX9_timesOf iv_yX9_timesOf mlX9_160 rfl 0 rfl (by decide) (by decide) rfl (Nat.le_of_ble_eq_true rfl) Has.rf _ rfl dX9_covers_36 (fun r hr => ?_)
      subst hr
      refine i_val (v' := .int (tms s (lkf g a np nv) nv np)) rfl ?_
      refine i_iload_n B 2 dX9_covers_39 rfl ?_
      refine i_icmp_lt B 47 dX9_covers_40 (by decide) (fun h3 => ?_) (fun h3 => ?_)
      · refine i_iconst (v := 0) B dX9_covers_47 (by decide) ?_
        exact ret _ _ _ (lkf g a np nv) rfl dX9_covers_48 (by simp only [covsF, ← tms_lk g a np nv, h1, h2, h3, decide_true, decide_false, Bool.not_true, Bool.not_false, Bool.true_and, Bool.false_and, Bool.and_true, Bool.and_false, Bool.true_or, Bool.or_true, Bool.false_or, Bool.or_false, Bool.and_self, Bool.or_self, bI_t, bI_f, if_true, if_false, ite_true, ite_false, Bool.false_eq_true, Bool.true_eq_false, eq_self, reduceIte, true_or, or_true, false_or, or_false, and_true, true_and, and_false, false_and, not_true_eq_false, not_false_eq_true, decide_eq_true_eq, decide_eq_false_iff_not])
      · refine i_iconst (v := 1) B dX9_covers_43 (by decide) ?_
        refine i_goto B 48 dX9_covers_44 (by decide) ?_
        exact ret _ _ _ (lkf g a np nv) rfl dX9_covers_48 (by simp only [covsF, ← tms_lk g a np nv, h1, h2, h3, decide_true, decide_false, Bool.not_true, Bool.not_false, Bool.true_and, Bool.false_and, Bool.and_true, Bool.and_false, Bool.true_or, Bool.or_true, Bool.false_or, Bool.or_false, Bool.and_self, Bool.or_self, bI_t, bI_f, if_true, if_false, ite_true, ite_false, Bool.false_eq_true, Bool.true_eq_false, eq_self, reduceIte, true_or, or_true, false_or, or_false, and_true, true_and, and_false, false_and, not_true_eq_false, not_false_eq_true, decide_eq_true_eq, decide_eq_false_iff_not])
    · replace h2 := bI_0.mp h2
      refine i_bipush (v := (-2)) B dX9_covers_27 (by decide) ?_
      exact ret _ _ _ (a 34) rfl dX9_covers_29 (by simp only [covsF, ← tms_lk g a np nv, h1, h2, decide_true, decide_false, Bool.not_true, Bool.not_false, Bool.true_and, Bool.false_and, Bool.and_true, Bool.and_false, Bool.true_or, Bool.or_true, Bool.false_or, Bool.or_false, Bool.and_self, Bool.or_self, bI_t, bI_f, if_true, if_false, ite_true, ite_false, Bool.false_eq_true, Bool.true_eq_false, eq_self, reduceIte, true_or, or_true, false_or, or_false, and_true, true_and, and_false, false_and, not_true_eq_false, not_false_eq_true, decide_eq_true_eq, decide_eq_false_iff_not])
  · replace h1 := bI_n.mp h1
    refine i_iconst (v := (-1)) B dX9_covers_13 (by decide) ?_
    exact ret _ _ _ (a 34) rfl dX9_covers_14 (by simp only [covsF, ← tms_lk g a np nv, h1, decide_true, decide_false, Bool.not_true, Bool.not_false, Bool.true_and, Bool.false_and, Bool.and_true, Bool.and_false, Bool.true_or, Bool.or_true, Bool.false_or, Bool.or_false, Bool.and_self, Bool.or_self, bI_t, bI_f, if_true, if_false, ite_true, ite_false, Bool.false_eq_true, Bool.true_eq_false, eq_self, reduceIte, true_or, or_true, false_or, or_false, and_true, true_and, and_false, false_and, not_true_eq_false, not_false_eq_true, decide_eq_true_eq, decide_eq_false_iff_not])

set_option maxHeartbeats 4000000 in
set_option maxRecDepth 100000 in
theorem k_X9_times (l : Launch) (E : ED) (h : Nat) (q : Nat → Nat) (g : Nat → Int32) (a : Nat → Nat → Int32) (np : Nat) (hn : g 1 = nI np) (hnp : np ≤ 12) (nv : Nat) (hv : g 8 = nI nv) (hnv : nv ≤ 10) (s : Int32) : WR l E yX9_times cX9_times 2 .int 6 164 0 0 [.ref h, .int s] (mW E h q g a) (fun r (_ : Nat → Int32) => r = timF g a np nv s) (fun u => mW E h q g (va_up a 34 u)) := by
  refine WR.mk (by decide) (Nat.le_of_ble_eq_true rfl) [(0, .ref h), (1, .int s)] rfl (fun Z B ret => ?_)
  refine i_aload_n B 0 dX9_times_0 rfl ?_
  refine i_iconst (v := 0) B dX9_times_1 (by decide) ?_
  refine i_put B flX9_99 0 (mW E h q g a) rfl rfl rfl rfl (Nat.le_of_ble_eq_true rfl) rfl dX9_times_2 ?_
  refine i_aload_n B 0 dX9_times_5 rfl ?_
  refine i_iload_n B 1 dX9_times_6 rfl ?_
  refine c_roV (rest := []) (As := [.int s]) B (k_X9_noSet l E h q g a s) cal_yX9_noSet iv_yX9_noSet mlX9_163 rfl 0 rfl (by decide) (by decide) rfl (Nat.le_of_ble_eq_true rfl) Has.rf _ rfl dX9_times_7 (fun r hr => ?_)
  subst hr
  refine i_val (v' := .int (bI (nset (g 8) s))) rfl ?_
  refine i_if_eq B 15 dX9_times_10 (by decide) (fun h1 => ?_) (fun h1 => ?_)
  · replace h1 := bI_0.mp h1
    refine i_aload_n B 0 dX9_times_15 rfl ?_
    refine c_wvV (rest := []) (As := []) B (k_X9_look l E h q g a np hn hnp nv hv hnv) cal_yX9_look iv_yX9_look mlX9_154 rfl 0 rfl (by decide) (by decide) rfl (Nat.le_of_ble_eq_true rfl) ([]) ([]) rfl _ rfl dX9_times_16 (fun _ hr => ?_)
    refine i_world (ws' := (mW E h q g (va_up a 34 (lkf g a np nv)))) rfl ?_
    refine i_aload_n B 0 dX9_times_19 rfl ?_
    refine i_get (v := .int (g 1)) B flX9_108 0 rfl rfl dX9_times_20 ?_
    refine i_if_ne B 31 dX9_times_23 (by decide) (fun h2 => ?_) (fun h2 => ?_)
    · rw [hn, show (0 : Int32) = nI 0 from rfl, nI_eq (by omega) (by omega)] at h2
      have h2d := decide_eq_false h2
      refine i_aload_n B 0 dX9_times_31 rfl ?_
      refine i_iload_n B 1 dX9_times_32 rfl ?_
      refine c_roV (rest := []) (As := [.int s]) B (k_X9_timesOf l E h q g (va_up a 34 (lkf g a np nv)) np hn hnp nv hv hnv s) cal_yX9_timesOf iv_yX9_timesOf mlX9_160 rfl 0 rfl (by decide) (by decide) rfl (Nat.le_of_ble_eq_true rfl) Has.rf _ rfl dX9_times_33 (fun r hr => ?_)
      subst hr
      refine i_val (v' := .int (tms s (lkf g a np nv) nv np)) rfl ?_
      exact ret _ _ _ (lkf g a np nv) rfl dX9_times_36 (by simp only [timF, ← tms_lk g a np nv, h1, h2d, decide_true, decide_false, Bool.not_true, Bool.not_false, Bool.true_and, Bool.false_and, Bool.and_true, Bool.and_false, Bool.true_or, Bool.or_true, Bool.false_or, Bool.or_false, Bool.and_self, Bool.or_self, bI_t, bI_f, if_true, if_false, ite_true, ite_false, Bool.false_eq_true, Bool.true_eq_false, eq_self, reduceIte, true_or, or_true, false_or, or_false, and_true, true_and, and_false, false_and, not_true_eq_false, not_false_eq_true, decide_eq_true_eq, decide_eq_false_iff_not])
    · rw [hn, show (0 : Int32) = nI 0 from rfl, nI_eq (by omega) (by omega)] at h2
      have h2d := decide_eq_true h2
      refine i_bipush (v := (-9)) B dX9_times_26 (by decide) ?_
      refine i_goto B 36 dX9_times_28 (by decide) ?_
      exact ret _ _ _ (lkf g a np nv) rfl dX9_times_36 (by simp only [timF, ← tms_lk g a np nv, h1, h2d, decide_true, decide_false, Bool.not_true, Bool.not_false, Bool.true_and, Bool.false_and, Bool.and_true, Bool.and_false, Bool.true_or, Bool.or_true, Bool.false_or, Bool.or_false, Bool.and_self, Bool.or_self, bI_t, bI_f, if_true, if_false, ite_true, ite_false, Bool.false_eq_true, Bool.true_eq_false, eq_self, reduceIte, true_or, or_true, false_or, or_false, and_true, true_and, and_false, false_and, not_true_eq_false, not_false_eq_true, decide_eq_true_eq, decide_eq_false_iff_not])
  · replace h1 := bI_n.mp h1
    refine i_iconst (v := (-1)) B dX9_times_13 (by decide) ?_
    exact ret _ _ _ (a 34) rfl dX9_times_14 (by simp only [timF, ← tms_lk g a np nv, h1, decide_true, decide_false, Bool.not_true, Bool.not_false, Bool.true_and, Bool.false_and, Bool.and_true, Bool.and_false, Bool.true_or, Bool.or_true, Bool.false_or, Bool.or_false, Bool.and_self, Bool.or_self, bI_t, bI_f, if_true, if_false, ite_true, ite_false, Bool.false_eq_true, Bool.true_eq_false, eq_self, reduceIte, true_or, or_true, false_or, or_false, and_true, true_and, and_false, false_and, not_true_eq_false, not_false_eq_true, decide_eq_true_eq, decide_eq_false_iff_not])

set_option maxHeartbeats 4000000 in
set_option maxRecDepth 100000 in
theorem k_X9_seen (l : Launch) (E : ED) (h : Nat) (q : Nat → Nat) (g : Nat → Int32) (a : Nat → Nat → Int32) (np : Nat) (hn : g 1 = nI np) (hnp : np ≤ 12) (x y p : Int32) : WR l E yX9_seen cX9_seen 4 .int 4 120 0 0 [.ref h, .int x, .int y, .int p] (mW E h q g a) (fun r (_ : Unit) => r = senF g a np x y p) (fun _ : Unit => mW E h q g a) := by
  refine WR.mk (by decide) (Nat.le_of_ble_eq_true rfl) [(0, .ref h), (1, .int x), (2, .int y), (3, .int p)] rfl (fun Z B ret => ?_)
  refine i_aload_n B 0 dX9_seen_0 rfl ?_
  refine i_iconst (v := 0) B dX9_seen_1 (by decide) ?_
  refine i_put B flX9_99 0 (mW E h q g a) rfl rfl rfl rfl (Nat.le_of_ble_eq_true rfl) rfl dX9_seen_2 ?_
  refine i_iload_n B 1 dX9_seen_5 rfl ?_
  refine i_iload_n B 2 dX9_seen_6 rfl ?_
  refine c_roS (rest := []) (As := [.int x, .int y]) B (k_X9_noPoint l E x y) cal_yX9_noPoint is_yX9_noPoint mlX9_134 (by decide) (by decide) rfl (Nat.le_of_ble_eq_true rfl) Has.nil _ rfl dX9_seen_7 (fun r hr => ?_)
  subst hr
  refine i_val (v' := .int (bI (!pt x y))) rfl ?_
  refine i_if_eq B 18 dX9_seen_10 (by decide) (fun h1 => ?_) (fun h1 => ?_)
  · replace h1 := bI_0.mp h1
    replace h1 : pt x y = true := by simpa using h1
    refine i_aload_n B 0 dX9_seen_18 rfl ?_
    refine i_iload_n B 3 dX9_seen_19 rfl ?_
    refine c_roV (rest := []) (As := [.int p]) B (k_X9_noPanel l E h q g a p) cal_yX9_noPanel iv_yX9_noPanel mlX9_140 rfl 0 rfl (by decide) (by decide) rfl (Nat.le_of_ble_eq_true rfl) Has.rf _ rfl dX9_seen_20 (fun r hr => ?_)
    subst hr
    refine i_val (v' := .int (bI (!wit p 0 ((g 1) - 1)))) rfl ?_
    refine i_if_eq B 30 dX9_seen_23 (by decide) (fun h2 => ?_) (fun h2 => ?_)
    · replace h2 := bI_0.mp h2
      replace h2 : wit p 0 ((g 1) - 1) = true := by simpa using h2
      obtain ⟨j, hj, rfl⟩ := wit_ix (n := np) (by omega) (by rw [← hn]; exact h2)
      refine i_aload_n B 0 dX9_seen_30 rfl ?_
      refine i_iload_n B 1 dX9_seen_31 rfl ?_
      refine i_iload_n B 2 dX9_seen_32 rfl ?_
      refine i_iload_n B 3 dX9_seen_33 rfl ?_
      refine c_roV (rest := []) (As := [.int x, .int y, .int (nI j)]) B (k_X9_isSeen l E h q g a np j hn hnp (by omega) x y) cal_yX9_isSeen iv_yX9_isSeen mlX9_144 rfl 0 rfl (by decide) (by decide) rfl (Nat.le_of_ble_eq_true rfl) Has.rf _ rfl dX9_seen_34 (fun r hr => ?_)
      subst hr
      refine i_val (v' := .int (bI (sn g a np x y j))) rfl ?_
      refine i_if_eq B 44 dX9_seen_37 (by decide) (fun h3 => ?_) (fun h3 => ?_)
      · replace h3 := bI_0.mp h3
        refine i_iconst (v := 0) B dX9_seen_44 (by decide) ?_
        exact ret _ _ _ () rfl dX9_seen_45 (by simp only [senF, ix_nI (show j < 2 ^ 31 by omega), h1, h2, h3, decide_true, decide_false, Bool.not_true, Bool.not_false, Bool.true_and, Bool.false_and, Bool.and_true, Bool.and_false, Bool.true_or, Bool.or_true, Bool.false_or, Bool.or_false, Bool.and_self, Bool.or_self, bI_t, bI_f, if_true, if_false, ite_true, ite_false, Bool.false_eq_true, Bool.true_eq_false, eq_self, reduceIte, true_or, or_true, false_or, or_false, and_true, true_and, and_false, false_and, not_true_eq_false, not_false_eq_true, decide_eq_true_eq, decide_eq_false_iff_not])
      · replace h3 := bI_n.mp h3
        refine i_iconst (v := 1) B dX9_seen_40 (by decide) ?_
        refine i_goto B 45 dX9_seen_41 (by decide) ?_
        exact ret _ _ _ () rfl dX9_seen_45 (by simp only [senF, ix_nI (show j < 2 ^ 31 by omega), h1, h2, h3, decide_true, decide_false, Bool.not_true, Bool.not_false, Bool.true_and, Bool.false_and, Bool.and_true, Bool.and_false, Bool.true_or, Bool.or_true, Bool.false_or, Bool.or_false, Bool.and_self, Bool.or_self, bI_t, bI_f, if_true, if_false, ite_true, ite_false, Bool.false_eq_true, Bool.true_eq_false, eq_self, reduceIte, true_or, or_true, false_or, or_false, and_true, true_and, and_false, false_and, not_true_eq_false, not_false_eq_true, decide_eq_true_eq, decide_eq_false_iff_not])
    · replace h2 := bI_n.mp h2
      replace h2 : wit p 0 ((g 1) - 1) = false := by simpa using h2
      refine i_iconst (v := (-1)) B dX9_seen_26 (by decide) ?_
      refine i_goto B 45 dX9_seen_27 (by decide) ?_
      exact ret _ _ _ () rfl dX9_seen_45 (by simp only [senF, h1, h2, decide_true, decide_false, Bool.not_true, Bool.not_false, Bool.true_and, Bool.false_and, Bool.and_true, Bool.and_false, Bool.true_or, Bool.or_true, Bool.false_or, Bool.or_false, Bool.and_self, Bool.or_self, bI_t, bI_f, if_true, if_false, ite_true, ite_false, Bool.false_eq_true, Bool.true_eq_false, eq_self, reduceIte, true_or, or_true, false_or, or_false, and_true, true_and, and_false, false_and, not_true_eq_false, not_false_eq_true, decide_eq_true_eq, decide_eq_false_iff_not])
  · replace h1 := bI_n.mp h1
    replace h1 : pt x y = false := by simpa using h1
    refine i_bipush (v := (-2)) B dX9_seen_13 (by decide) ?_
    refine i_goto B 45 dX9_seen_15 (by decide) ?_
    exact ret _ _ _ () rfl dX9_seen_45 (by simp only [senF, h1, decide_true, decide_false, Bool.not_true, Bool.not_false, Bool.true_and, Bool.false_and, Bool.and_true, Bool.and_false, Bool.true_or, Bool.or_true, Bool.false_or, Bool.or_false, Bool.and_self, Bool.or_self, bI_t, bI_f, if_true, if_false, ite_true, ite_false, Bool.false_eq_true, Bool.true_eq_false, eq_self, reduceIte, true_or, or_true, false_or, or_false, and_true, true_and, and_false, false_and, not_true_eq_false, not_false_eq_true, decide_eq_true_eq, decide_eq_false_iff_not])

set_option maxHeartbeats 4000000 in
set_option maxRecDepth 100000 in
theorem k_X9_sees (l : Launch) (E : ED) (h : Nat) (q : Nat → Nat) (g : Nat → Int32) (a : Nat → Nat → Int32) (np : Nat) (hn : g 1 = nI np) (hnp : np ≤ 12) (nv : Nat) (hv : g 8 = nI nv) (hnv : nv ≤ 10) (v : Int32) : WR l E yX9_sees cX9_sees 2 .int 5 143 0 0 [.ref h, .int v] (mW E h q g a) (fun r (_ : Unit) => r = sesF g a np v) (fun _ : Unit => mW E h q g a) := by
  refine WR.mk (by decide) (Nat.le_of_ble_eq_true rfl) [(0, .ref h), (1, .int v)] rfl (fun Z B ret => ?_)
  refine i_aload_n B 0 dX9_sees_0 rfl ?_
  refine i_iconst (v := 0) B dX9_sees_1 (by decide) ?_
  refine i_put B flX9_99 0 (mW E h q g a) rfl rfl rfl rfl (Nat.le_of_ble_eq_true rfl) rfl dX9_sees_2 ?_
  refine i_iload_n B 1 dX9_sees_5 rfl ?_
  refine i_i2l B dX9_sees_6 ?_
  refine i_lconst (v := 0) B dX9_sees_7 (by decide) ?_
  refine i_aload_n B 0 dX9_sees_8 rfl ?_
  refine i_get (v := .int (g 8)) B flX9_111 0 rfl rfl dX9_sees_9 ?_
  refine i_iconst (v := 1) B dX9_sees_12 (by decide) ?_
  refine i_isub B dX9_sees_13 ?_
  refine i_i2l B dX9_sees_14 ?_
  refine c_roS (rest := []) (As := [.long (Int32.toInt64 v), .long 0, .long (Int32.toInt64 ((g 8) - 1))]) B (k_X9_in l E (Int32.toInt64 v) 0 (Int32.toInt64 ((g 8) - 1))) cal_yX9_in is_yX9_in mlX9_104 (by decide) (by decide) rfl (Nat.le_of_ble_eq_true rfl) Has.nil _ rfl dX9_sees_15 (fun r hr => ?_)
  subst hr
  refine i_val (v' := .int (bI (wit v 0 ((g 8) - 1)))) (congrArg (fun z => Value.int (bI z)) (pin_i v 0 ((g 8) - 1))) ?_
  refine i_if_eq B 29 dX9_sees_18 (by decide) (fun h1 => ?_) (fun h1 => ?_)
  · replace h1 := bI_0.mp h1
    refine i_iconst (v := (-1)) B dX9_sees_29 (by decide) ?_
    exact ret _ _ _ () rfl dX9_sees_30 (by simp only [sesF, h1, decide_true, decide_false, Bool.not_true, Bool.not_false, Bool.true_and, Bool.false_and, Bool.and_true, Bool.and_false, Bool.true_or, Bool.or_true, Bool.false_or, Bool.or_false, Bool.and_self, Bool.or_self, bI_t, bI_f, if_true, if_false, ite_true, ite_false, Bool.false_eq_true, Bool.true_eq_false, eq_self, reduceIte, true_or, or_true, false_or, or_false, and_true, true_and, and_false, false_and, not_true_eq_false, not_false_eq_true, decide_eq_true_eq, decide_eq_false_iff_not])
  · replace h1 := bI_n.mp h1
    obtain ⟨j, hj, rfl⟩ := wit_ix (n := nv) (by omega) (by rw [← hv]; exact h1)
    refine i_aload_n B 0 dX9_sees_21 rfl ?_
    refine i_iload_n B 1 dX9_sees_22 rfl ?_
    refine c_roV (rest := []) (As := [.int (nI j)]) B (k_X9_seesOf l E h q g a np j hn hnp (by omega)) cal_yX9_seesOf iv_yX9_seesOf mlX9_148 rfl 0 rfl (by decide) (by decide) rfl (Nat.le_of_ble_eq_true rfl) Has.rf _ rfl dX9_sees_23 (fun r hr => ?_)
    subst hr
    refine i_val (v' := .int (seb g a np j np)) rfl ?_
    refine i_goto B 30 dX9_sees_26 (by decide) ?_
    exact ret _ _ _ () rfl dX9_sees_30 (by simp only [sesF, ix_nI (show j < 2 ^ 31 by omega), h1, decide_true, decide_false, Bool.not_true, Bool.not_false, Bool.true_and, Bool.false_and, Bool.and_true, Bool.and_false, Bool.true_or, Bool.or_true, Bool.false_or, Bool.or_false, Bool.and_self, Bool.or_self, bI_t, bI_f, if_true, if_false, ite_true, ite_false, Bool.false_eq_true, Bool.true_eq_false, eq_self, reduceIte, true_or, or_true, false_or, or_false, and_true, true_and, and_false, false_and, not_true_eq_false, not_false_eq_true, decide_eq_true_eq, decide_eq_false_iff_not])

set_option maxHeartbeats 4000000 in
set_option maxRecDepth 100000 in
theorem k_X9_panel (l : Launch) (E : ED) (h : Nat) (q : Nat → Nat) (g : Nat → Int32) (a : Nat → Nat → Int32) (np : Nat) (hn : g 1 = nI np) (hnp : np ≤ 12) (x1 y1 x2 y2 : Int32) : WR l E yX9_panel cX9_panel 5 .int 2 46 0 0 [.ref h, .int x1, .int y1, .int x2, .int y2] (mW E h q g a) (fun r u => (r, u) = panelF g a np x1 y1 x2 y2) (fun u : GA => mW E h q u.1 u.2) := by
  refine WR.mk (by decide) (Nat.le_of_ble_eq_true rfl) [(0, .ref h), (1, .int x1), (2, .int y1), (3, .int x2), (4, .int y2)] rfl (fun Z B ret => ?_)
  refine i_aload_n B 0 dX9_panel_0 rfl ?_
  refine i_iconst (v := 0) B dX9_panel_1 (by decide) ?_
  refine i_put B flX9_99 0 (mW E h q g a) rfl rfl rfl rfl (Nat.le_of_ble_eq_true rfl) rfl dX9_panel_2 ?_
  refine i_iload_n B 1 dX9_panel_5 rfl ?_
  refine i_iload_n B 2 dX9_panel_6 rfl ?_
  refine c_roS (rest := []) (As := [.int x1, .int y1]) B (k_X9_noPoint l E x1 y1) cal_yX9_noPoint is_yX9_noPoint mlX9_134 (by decide) (by decide) rfl (Nat.le_of_ble_eq_true rfl) Has.nil _ rfl dX9_panel_7 (fun r hr => ?_)
  subst hr
  refine i_val (v' := .int (bI (!pt x1 y1))) rfl ?_
  refine i_if_ne B 22 dX9_panel_10 (by decide) (fun h1 => ?_) (fun h1 => ?_)
  · replace h1 := bI_n.mp h1
    replace h1 : pt x1 y1 = false := by simpa using h1
    refine i_bipush (v := (-2)) B dX9_panel_22 (by decide) ?_
    exact ret _ _ _ (g, a) rfl dX9_panel_24 (by simp only [panelF, nI_pred, h1, decide_true, decide_false, Bool.not_true, Bool.not_false, Bool.true_and, Bool.false_and, Bool.and_true, Bool.and_false, Bool.true_or, Bool.or_true, Bool.false_or, Bool.or_false, Bool.and_self, Bool.or_self, bI_t, bI_f, if_true, if_false, ite_true, ite_false, Bool.false_eq_true, Bool.true_eq_false, eq_self, reduceIte, true_or, or_true, false_or, or_false, and_true, true_and, and_false, false_and, not_true_eq_false, not_false_eq_true, decide_eq_true_eq, decide_eq_false_iff_not])
  · replace h1 := bI_0.mp h1
    replace h1 : pt x1 y1 = true := by simpa using h1
    refine i_iload_n B 3 dX9_panel_13 rfl ?_
    refine i_iload B 4 dX9_panel_14 rfl ?_
    refine c_roS (rest := []) (As := [.int x2, .int y2]) B (k_X9_noPoint l E x2 y2) cal_yX9_noPoint is_yX9_noPoint mlX9_134 (by decide) (by decide) rfl (Nat.le_of_ble_eq_true rfl) Has.nil _ rfl dX9_panel_16 (fun r hr => ?_)
    subst hr
    refine i_val (v' := .int (bI (!pt x2 y2))) rfl ?_
    refine i_if_eq B 25 dX9_panel_19 (by decide) (fun h2 => ?_) (fun h2 => ?_)
    · replace h2 := bI_0.mp h2
      replace h2 : pt x2 y2 = true := by simpa using h2
      refine i_iload_n B 1 dX9_panel_25 rfl ?_
      refine i_iload_n B 3 dX9_panel_26 rfl ?_
      refine i_icmp_ne B 39 dX9_panel_27 (by decide) (fun h3 => ?_) (fun h3 => ?_)
      · have h3d := decide_eq_false h3
        refine i_aload_n B 0 dX9_panel_39 rfl ?_
        refine i_get (v := .int (g 1)) B flX9_108 0 rfl rfl dX9_panel_40 ?_
        refine i_bipush (v := 12) B dX9_panel_43 (by decide) ?_
        refine i_icmp_ne B 51 dX9_panel_45 (by decide) (fun h4 => ?_) (fun h4 => ?_)
        · rw [hn, show (12 : Int32) = nI 12 from rfl, nI_eq (by omega) (by omega)] at h4
          have h4d := decide_eq_false h4
          refine i_aload_n B 0 dX9_panel_51 rfl ?_
          refine i_get (v := .ref (q 2)) B flX9_7 0 rfl rfl dX9_panel_52 ?_
          refine i_aload_n B 0 dX9_panel_55 rfl ?_
          refine i_get (v := .int (g 1)) B flX9_108 0 rfl rfl dX9_panel_56 ?_
          refine i_iload_n B 1 dX9_panel_59 rfl ?_
          refine i_iastN B 1 np (mW E h q g (va_up a 2 (upd (a 2) np x1))) rfl hn (by omega) (by decide) rfl dX9_panel_60 ?_
          refine i_aload_n B 0 dX9_panel_61 rfl ?_
          refine i_get (v := .ref (q 3)) B flX9_13 0 rfl rfl dX9_panel_62 ?_
          refine i_aload_n B 0 dX9_panel_65 rfl ?_
          refine i_get (v := .int (g 1)) B flX9_108 0 rfl rfl dX9_panel_66 ?_
          refine i_iload_n B 2 dX9_panel_69 rfl ?_
          refine i_iastN B 2 np (mW E h q g (va_up (va_up a 2 (upd (a 2) np x1)) 3 (upd (a 3) np y1))) rfl hn (by omega) (by decide) rfl dX9_panel_70 ?_
          refine i_aload_n B 0 dX9_panel_71 rfl ?_
          refine i_get (v := .ref (q 4)) B flX9_16 0 rfl rfl dX9_panel_72 ?_
          refine i_aload_n B 0 dX9_panel_75 rfl ?_
          refine i_get (v := .int (g 1)) B flX9_108 0 rfl rfl dX9_panel_76 ?_
          refine i_iload_n B 3 dX9_panel_79 rfl ?_
          refine i_iastN B 3 np (mW E h q g (va_up (va_up (va_up a 2 (upd (a 2) np x1)) 3 (upd (a 3) np y1)) 4 (upd (a 4) np x2))) rfl hn (by omega) (by decide) rfl dX9_panel_80 ?_
          refine i_aload_n B 0 dX9_panel_81 rfl ?_
          refine i_get (v := .ref (q 5)) B flX9_19 0 rfl rfl dX9_panel_82 ?_
          refine i_aload_n B 0 dX9_panel_85 rfl ?_
          refine i_get (v := .int (g 1)) B flX9_108 0 rfl rfl dX9_panel_86 ?_
          refine i_iload B 4 dX9_panel_89 rfl ?_
          refine i_iastN B 4 np (mW E h q g (va_up (va_up (va_up (va_up a 2 (upd (a 2) np x1)) 3 (upd (a 3) np y1)) 4 (upd (a 4) np x2)) 5 (upd (a 5) np y2))) rfl hn (by omega) (by decide) rfl dX9_panel_91 ?_
          refine i_aload_n B 0 dX9_panel_92 rfl ?_
          refine i_dup B dX9_panel_93 rfl ?_
          refine i_get (v := .int (g 1)) B flX9_108 0 rfl rfl dX9_panel_94 ?_
          refine i_iconst (v := 1) B dX9_panel_97 (by decide) ?_
          refine i_iadd B dX9_panel_98 ?_
          refine i_val (v' := .int (nI (np + 1))) (congrArg Value.int (by rw [hn]; exact nI_1 _)) ?_
          refine i_put B flX9_108 0 (mW E h q (upd g 1 (nI (np + 1))) (va_up (va_up (va_up (va_up a 2 (upd (a 2) np x1)) 3 (upd (a 3) np y1)) 4 (upd (a 4) np x2)) 5 (upd (a 5) np y2))) rfl rfl rfl rfl (Nat.le_of_ble_eq_true rfl) rfl dX9_panel_99 ?_
          refine i_aload_n B 0 dX9_panel_102 rfl ?_
          refine i_get (v := .int (nI (np + 1))) B flX9_108 0 rfl rfl dX9_panel_103 ?_
          refine i_iconst (v := 1) B dX9_panel_106 (by decide) ?_
          refine i_isub B dX9_panel_107 ?_
          exact ret _ _ _ ((upd g 1 (nI (np + 1))), (va_up (va_up (va_up (va_up a 2 (upd (a 2) np x1)) 3 (upd (a 3) np y1)) 4 (upd (a 4) np x2)) 5 (upd (a 5) np y2))) rfl dX9_panel_108 (by simp only [panelF, nI_pred, h1, h2, h3d, h4d, decide_true, decide_false, Bool.not_true, Bool.not_false, Bool.true_and, Bool.false_and, Bool.and_true, Bool.and_false, Bool.true_or, Bool.or_true, Bool.false_or, Bool.or_false, Bool.and_self, Bool.or_self, bI_t, bI_f, if_true, if_false, ite_true, ite_false, Bool.false_eq_true, Bool.true_eq_false, eq_self, reduceIte, true_or, or_true, false_or, or_false, and_true, true_and, and_false, false_and, not_true_eq_false, not_false_eq_true, decide_eq_true_eq, decide_eq_false_iff_not])
        · rw [hn, show (12 : Int32) = nI 12 from rfl, nI_eq (by omega) (by omega)] at h4
          have h4d := decide_eq_true h4
          refine i_bipush (v := (-4)) B dX9_panel_48 (by decide) ?_
          exact ret _ _ _ (g, a) rfl dX9_panel_50 (by simp only [panelF, nI_pred, h1, h2, h3d, h4d, decide_true, decide_false, Bool.not_true, Bool.not_false, Bool.true_and, Bool.false_and, Bool.and_true, Bool.and_false, Bool.true_or, Bool.or_true, Bool.false_or, Bool.or_false, Bool.and_self, Bool.or_self, bI_t, bI_f, if_true, if_false, ite_true, ite_false, Bool.false_eq_true, Bool.true_eq_false, eq_self, reduceIte, true_or, or_true, false_or, or_false, and_true, true_and, and_false, false_and, not_true_eq_false, not_false_eq_true, decide_eq_true_eq, decide_eq_false_iff_not])
      · have h3d := decide_eq_true h3
        refine i_iload_n B 2 dX9_panel_30 rfl ?_
        refine i_iload B 4 dX9_panel_31 rfl ?_
        refine i_icmp_ne B 39 dX9_panel_33 (by decide) (fun h5 => ?_) (fun h5 => ?_)
        · have h5d := decide_eq_false h5
          refine i_aload_n B 0 dX9_panel_39 rfl ?_
          refine i_get (v := .int (g 1)) B flX9_108 0 rfl rfl dX9_panel_40 ?_
          refine i_bipush (v := 12) B dX9_panel_43 (by decide) ?_
          refine i_icmp_ne B 51 dX9_panel_45 (by decide) (fun h6 => ?_) (fun h6 => ?_)
          · rw [hn, show (12 : Int32) = nI 12 from rfl, nI_eq (by omega) (by omega)] at h6
            have h6d := decide_eq_false h6
            refine i_aload_n B 0 dX9_panel_51 rfl ?_
            refine i_get (v := .ref (q 2)) B flX9_7 0 rfl rfl dX9_panel_52 ?_
            refine i_aload_n B 0 dX9_panel_55 rfl ?_
            refine i_get (v := .int (g 1)) B flX9_108 0 rfl rfl dX9_panel_56 ?_
            refine i_iload_n B 1 dX9_panel_59 rfl ?_
            refine i_iastN B 1 np (mW E h q g (va_up a 2 (upd (a 2) np x1))) rfl hn (by omega) (by decide) rfl dX9_panel_60 ?_
            refine i_aload_n B 0 dX9_panel_61 rfl ?_
            refine i_get (v := .ref (q 3)) B flX9_13 0 rfl rfl dX9_panel_62 ?_
            refine i_aload_n B 0 dX9_panel_65 rfl ?_
            refine i_get (v := .int (g 1)) B flX9_108 0 rfl rfl dX9_panel_66 ?_
            refine i_iload_n B 2 dX9_panel_69 rfl ?_
            refine i_iastN B 2 np (mW E h q g (va_up (va_up a 2 (upd (a 2) np x1)) 3 (upd (a 3) np y1))) rfl hn (by omega) (by decide) rfl dX9_panel_70 ?_
            refine i_aload_n B 0 dX9_panel_71 rfl ?_
            refine i_get (v := .ref (q 4)) B flX9_16 0 rfl rfl dX9_panel_72 ?_
            refine i_aload_n B 0 dX9_panel_75 rfl ?_
            refine i_get (v := .int (g 1)) B flX9_108 0 rfl rfl dX9_panel_76 ?_
            refine i_iload_n B 3 dX9_panel_79 rfl ?_
            refine i_iastN B 3 np (mW E h q g (va_up (va_up (va_up a 2 (upd (a 2) np x1)) 3 (upd (a 3) np y1)) 4 (upd (a 4) np x2))) rfl hn (by omega) (by decide) rfl dX9_panel_80 ?_
            refine i_aload_n B 0 dX9_panel_81 rfl ?_
            refine i_get (v := .ref (q 5)) B flX9_19 0 rfl rfl dX9_panel_82 ?_
            refine i_aload_n B 0 dX9_panel_85 rfl ?_
            refine i_get (v := .int (g 1)) B flX9_108 0 rfl rfl dX9_panel_86 ?_
            refine i_iload B 4 dX9_panel_89 rfl ?_
            refine i_iastN B 4 np (mW E h q g (va_up (va_up (va_up (va_up a 2 (upd (a 2) np x1)) 3 (upd (a 3) np y1)) 4 (upd (a 4) np x2)) 5 (upd (a 5) np y2))) rfl hn (by omega) (by decide) rfl dX9_panel_91 ?_
            refine i_aload_n B 0 dX9_panel_92 rfl ?_
            refine i_dup B dX9_panel_93 rfl ?_
            refine i_get (v := .int (g 1)) B flX9_108 0 rfl rfl dX9_panel_94 ?_
            refine i_iconst (v := 1) B dX9_panel_97 (by decide) ?_
            refine i_iadd B dX9_panel_98 ?_
            refine i_val (v' := .int (nI (np + 1))) (congrArg Value.int (by rw [hn]; exact nI_1 _)) ?_
            refine i_put B flX9_108 0 (mW E h q (upd g 1 (nI (np + 1))) (va_up (va_up (va_up (va_up a 2 (upd (a 2) np x1)) 3 (upd (a 3) np y1)) 4 (upd (a 4) np x2)) 5 (upd (a 5) np y2))) rfl rfl rfl rfl (Nat.le_of_ble_eq_true rfl) rfl dX9_panel_99 ?_
            refine i_aload_n B 0 dX9_panel_102 rfl ?_
            refine i_get (v := .int (nI (np + 1))) B flX9_108 0 rfl rfl dX9_panel_103 ?_
            refine i_iconst (v := 1) B dX9_panel_106 (by decide) ?_
            refine i_isub B dX9_panel_107 ?_
            exact ret _ _ _ ((upd g 1 (nI (np + 1))), (va_up (va_up (va_up (va_up a 2 (upd (a 2) np x1)) 3 (upd (a 3) np y1)) 4 (upd (a 4) np x2)) 5 (upd (a 5) np y2))) rfl dX9_panel_108 (by simp only [panelF, nI_pred, h1, h2, h3d, h5d, h6d, decide_true, decide_false, Bool.not_true, Bool.not_false, Bool.true_and, Bool.false_and, Bool.and_true, Bool.and_false, Bool.true_or, Bool.or_true, Bool.false_or, Bool.or_false, Bool.and_self, Bool.or_self, bI_t, bI_f, if_true, if_false, ite_true, ite_false, Bool.false_eq_true, Bool.true_eq_false, eq_self, reduceIte, true_or, or_true, false_or, or_false, and_true, true_and, and_false, false_and, not_true_eq_false, not_false_eq_true, decide_eq_true_eq, decide_eq_false_iff_not])
          · rw [hn, show (12 : Int32) = nI 12 from rfl, nI_eq (by omega) (by omega)] at h6
            have h6d := decide_eq_true h6
            refine i_bipush (v := (-4)) B dX9_panel_48 (by decide) ?_
            exact ret _ _ _ (g, a) rfl dX9_panel_50 (by simp only [panelF, nI_pred, h1, h2, h3d, h5d, h6d, decide_true, decide_false, Bool.not_true, Bool.not_false, Bool.true_and, Bool.false_and, Bool.and_true, Bool.and_false, Bool.true_or, Bool.or_true, Bool.false_or, Bool.or_false, Bool.and_self, Bool.or_self, bI_t, bI_f, if_true, if_false, ite_true, ite_false, Bool.false_eq_true, Bool.true_eq_false, eq_self, reduceIte, true_or, or_true, false_or, or_false, and_true, true_and, and_false, false_and, not_true_eq_false, not_false_eq_true, decide_eq_true_eq, decide_eq_false_iff_not])
        · have h5d := decide_eq_true h5
          refine i_bipush (v := (-3)) B dX9_panel_36 (by decide) ?_
          exact ret _ _ _ (g, a) rfl dX9_panel_38 (by simp only [panelF, nI_pred, h1, h2, h3d, h5d, decide_true, decide_false, Bool.not_true, Bool.not_false, Bool.true_and, Bool.false_and, Bool.and_true, Bool.and_false, Bool.true_or, Bool.or_true, Bool.false_or, Bool.or_false, Bool.and_self, Bool.or_self, bI_t, bI_f, if_true, if_false, ite_true, ite_false, Bool.false_eq_true, Bool.true_eq_false, eq_self, reduceIte, true_or, or_true, false_or, or_false, and_true, true_and, and_false, false_and, not_true_eq_false, not_false_eq_true, decide_eq_true_eq, decide_eq_false_iff_not])
    · replace h2 := bI_n.mp h2
      replace h2 : pt x2 y2 = false := by simpa using h2
      refine i_bipush (v := (-2)) B dX9_panel_22 (by decide) ?_
      exact ret _ _ _ (g, a) rfl dX9_panel_24 (by simp only [panelF, nI_pred, h1, h2, decide_true, decide_false, Bool.not_true, Bool.not_false, Bool.true_and, Bool.false_and, Bool.and_true, Bool.and_false, Bool.true_or, Bool.or_true, Bool.false_or, Bool.or_false, Bool.and_self, Bool.or_self, bI_t, bI_f, if_true, if_false, ite_true, ite_false, Bool.false_eq_true, Bool.true_eq_false, eq_self, reduceIte, true_or, or_true, false_or, or_false, and_true, true_and, and_false, false_and, not_true_eq_false, not_false_eq_true, decide_eq_true_eq, decide_eq_false_iff_not])

set_option maxHeartbeats 4000000 in
set_option maxRecDepth 100000 in
theorem k_X9_eye (l : Launch) (E : ED) (h : Nat) (q : Nat → Nat) (g : Nat → Int32) (a : Nat → Nat → Int32) (what v : Int32) : WR l E yX9_eye cX9_eye 4 .int 1 25 0 0 [.ref h, .int what, .int v] (mW E h q g a) (fun r u => (r, u) = eyeF g what v) (fun u => mW E h q u a) := by
  refine WR.mk (by decide) (Nat.le_of_ble_eq_true rfl) [(0, .ref h), (1, .int what), (2, .int v)] rfl (fun Z B ret => ?_)
  refine i_aload_n B 0 dX9_eye_0 rfl ?_
  refine i_iconst (v := 0) B dX9_eye_1 (by decide) ?_
  refine i_put B flX9_99 0 (mW E h q g a) rfl rfl rfl rfl (Nat.le_of_ble_eq_true rfl) rfl dX9_eye_2 ?_
  refine i_iload_n B 1 dX9_eye_5 rfl ?_
  refine i_i2l B dX9_eye_6 ?_
  refine i_lconst (v := 0) B dX9_eye_7 (by decide) ?_
  refine i_lconst (v := 1) B dX9_eye_8 (by decide) ?_
  refine c_roS (rest := []) (As := [.long (Int32.toInt64 what), .long 0, .long 1]) B (k_X9_in l E (Int32.toInt64 what) 0 1) cal_yX9_in is_yX9_in mlX9_104 (by decide) (by decide) rfl (Nat.le_of_ble_eq_true rfl) Has.nil _ rfl dX9_eye_9 (fun r hr => ?_)
  subst hr
  refine i_val (v' := .int (bI (wit what 0 1))) (congrArg (fun z => Value.int (bI z)) (pin_i what 0 1)) ?_
  refine i_if_eq B 45 dX9_eye_12 (by decide) (fun h1 => ?_) (fun h1 => ?_)
  · replace h1 := bI_0.mp h1
    refine i_bipush (v := (-2)) B dX9_eye_45 (by decide) ?_
    exact ret _ _ _ g rfl dX9_eye_47 (by rw [wit01, Bool.or_eq_false_iff] at h1; simp only [eyeF, h1.1, h1.2, decide_true, decide_false, Bool.not_true, Bool.not_false, Bool.true_and, Bool.false_and, Bool.and_true, Bool.and_false, Bool.true_or, Bool.or_true, Bool.false_or, Bool.or_false, bI_t, bI_f, if_true, if_false, ite_true, ite_false, Bool.false_eq_true, Bool.true_eq_false, eq_self, reduceIte, true_or, or_true, false_or, or_false, and_true, true_and, and_false, false_and, not_true_eq_false, not_false_eq_true, decide_eq_true_eq, decide_eq_false_iff_not])
  · replace h1 := bI_n.mp h1
    refine i_iload_n B 2 dX9_eye_15 rfl ?_
    refine i_i2l B dX9_eye_16 ?_
    refine i_iload_n B 1 dX9_eye_17 rfl ?_
    refine i_if_ne B 25 dX9_eye_18 (by decide) (fun h2 => ?_) (fun h2 => ?_)
    · have h2d := decide_eq_false h2
      refine i_lconst (v := 0) B dX9_eye_25 (by decide) ?_
      refine i_iload_n B 1 dX9_eye_26 rfl ?_
      refine i_if_ne B 36 dX9_eye_27 (by decide) (fun _ => ?_) (fun h3 => absurd h3 h2)
      refine i_ldc2 B ckX9_128 dX9_eye_36 ?_
      refine c_roS (rest := []) (As := [.long (Int32.toInt64 v), .long 0, .long 100]) B (k_X9_in l E (Int32.toInt64 v) 0 100) cal_yX9_in is_yX9_in mlX9_104 (by decide) (by decide) rfl (Nat.le_of_ble_eq_true rfl) Has.nil _ rfl dX9_eye_39 (fun r hr => ?_)
      subst hr
      refine i_val (v' := .int (bI (wit v 0 100))) (congrArg (fun z => Value.int (bI z)) (pin_i v 0 100)) ?_
      refine i_if_ne B 48 dX9_eye_42 (by decide) (fun h4 => ?_) (fun h4 => ?_)
      · replace h4 := bI_n.mp h4
        refine i_iload_n B 1 dX9_eye_48 rfl ?_
        refine i_if_ne B 59 dX9_eye_49 (by decide) (fun _ => ?_) (fun h5 => absurd h5 h2)
        refine i_aload_n B 0 dX9_eye_59 rfl ?_
        refine i_get (v := .int (g 7)) B flX9_26 0 rfl rfl dX9_eye_60 ?_
        refine i_istore_n B [(3, .int (g 7)), (0, .ref h), (1, .int what), (2, .int v)] dX9_eye_63 (by decide) rfl ?_
        refine i_aload_n B 1 dX9_eye_64 rfl ?_
        refine i_iload_n B 2 dX9_eye_65 rfl ?_
        refine i_if_ne B 73 dX9_eye_66 (by decide) (fun _ => ?_) (fun h6 => absurd h6 h2)
        refine i_aload_n B 1 dX9_eye_73 rfl ?_
        refine i_get (v := .int (g 6)) B flX9_22 0 rfl rfl dX9_eye_74 ?_
        refine i_put B flX9_22 0 (mW E h q (upd g 6 (g 6)) a) rfl rfl rfl rfl (Nat.le_of_ble_eq_true rfl) rfl dX9_eye_77 ?_
        refine i_aload_n B 1 dX9_eye_80 rfl ?_
        refine i_iload_n B 2 dX9_eye_81 rfl ?_
        refine i_if_ne B 92 dX9_eye_82 (by decide) (fun _ => ?_) (fun h7 => absurd h7 h2)
        refine i_iload_n B 3 dX9_eye_92 rfl ?_
        refine i_put B flX9_26 0 (mW E h q (upd (upd g 6 (g 6)) 7 v) a) rfl rfl rfl rfl (Nat.le_of_ble_eq_true rfl) rfl dX9_eye_93 ?_
        refine i_iload_n B 0 dX9_eye_96 rfl ?_
        exact ret _ _ _ (upd g 7 v) rfl dX9_eye_97 (by have e1 : decide (what = 1) = true := (by rw [wit01, h2d] at h1; exact h1); simp only [eyeF, h2d, h4, e1, decide_true, decide_false, Bool.not_true, Bool.not_false, Bool.true_and, Bool.false_and, Bool.and_true, Bool.and_false, Bool.true_or, Bool.or_true, Bool.false_or, Bool.or_false, bI_t, bI_f, if_true, if_false, ite_true, ite_false, Bool.false_eq_true, Bool.true_eq_false, eq_self, reduceIte, true_or, or_true, false_or, or_false, and_true, true_and, and_false, false_and, not_true_eq_false, not_false_eq_true, decide_eq_true_eq, decide_eq_false_iff_not])
      · replace h4 := bI_0.mp h4
        refine i_bipush (v := (-2)) B dX9_eye_45 (by decide) ?_
        exact ret _ _ _ g rfl dX9_eye_47 (by have e1 : decide (what = 1) = true := (by rw [wit01, h2d] at h1; exact h1); simp only [eyeF, h2d, h4, e1, decide_true, decide_false, Bool.not_true, Bool.not_false, Bool.true_and, Bool.false_and, Bool.and_true, Bool.and_false, Bool.true_or, Bool.or_true, Bool.false_or, Bool.or_false, bI_t, bI_f, if_true, if_false, ite_true, ite_false, Bool.false_eq_true, Bool.true_eq_false, eq_self, reduceIte, true_or, or_true, false_or, or_false, and_true, true_and, and_false, false_and, not_true_eq_false, not_false_eq_true, decide_eq_true_eq, decide_eq_false_iff_not])
    · have h2d := decide_eq_true h2
      refine i_lconst (v := 1) B dX9_eye_21 (by decide) ?_
      refine i_goto B 26 dX9_eye_22 (by decide) ?_
      refine i_iload_n B 1 dX9_eye_26 rfl ?_
      refine i_if_ne B 36 dX9_eye_27 (by decide) (fun h8 => absurd h2 h8) (fun _ => ?_)
      refine i_ldc2 B ckX9_138 dX9_eye_30 ?_
      refine i_goto B 39 dX9_eye_33 (by decide) ?_
      refine c_roS (rest := []) (As := [.long (Int32.toInt64 v), .long 1, .long 90]) B (k_X9_in l E (Int32.toInt64 v) 1 90) cal_yX9_in is_yX9_in mlX9_104 (by decide) (by decide) rfl (Nat.le_of_ble_eq_true rfl) Has.nil _ rfl dX9_eye_39 (fun r hr => ?_)
      subst hr
      refine i_val (v' := .int (bI (wit v 1 90))) (congrArg (fun z => Value.int (bI z)) (pin_i v 1 90)) ?_
      refine i_if_ne B 48 dX9_eye_42 (by decide) (fun h9 => ?_) (fun h9 => ?_)
      · replace h9 := bI_n.mp h9
        refine i_iload_n B 1 dX9_eye_48 rfl ?_
        refine i_if_ne B 59 dX9_eye_49 (by decide) (fun h10 => absurd h2 h10) (fun _ => ?_)
        refine i_aload_n B 0 dX9_eye_52 rfl ?_
        refine i_get (v := .int (g 6)) B flX9_22 0 rfl rfl dX9_eye_53 ?_
        refine i_goto B 63 dX9_eye_56 (by decide) ?_
        refine i_istore_n B [(3, .int (g 6)), (0, .ref h), (1, .int what), (2, .int v)] dX9_eye_63 (by decide) rfl ?_
        refine i_aload_n B 1 dX9_eye_64 rfl ?_
        refine i_iload_n B 2 dX9_eye_65 rfl ?_
        refine i_if_ne B 73 dX9_eye_66 (by decide) (fun h11 => absurd h2 h11) (fun _ => ?_)
        refine i_iload_n B 3 dX9_eye_69 rfl ?_
        refine i_goto B 77 dX9_eye_70 (by decide) ?_
        refine i_put B flX9_22 0 (mW E h q (upd g 6 v) a) rfl rfl rfl rfl (Nat.le_of_ble_eq_true rfl) rfl dX9_eye_77 ?_
        refine i_aload_n B 1 dX9_eye_80 rfl ?_
        refine i_iload_n B 2 dX9_eye_81 rfl ?_
        refine i_if_ne B 92 dX9_eye_82 (by decide) (fun h12 => absurd h2 h12) (fun _ => ?_)
        refine i_aload_n B 1 dX9_eye_85 rfl ?_
        refine i_get (v := .int (g 7)) B flX9_26 0 rfl rfl dX9_eye_86 ?_
        refine i_goto B 93 dX9_eye_89 (by decide) ?_
        refine i_put B flX9_26 0 (mW E h q (upd (upd g 6 v) 7 (g 7)) a) rfl rfl rfl rfl (Nat.le_of_ble_eq_true rfl) rfl dX9_eye_93 ?_
        refine i_iload_n B 0 dX9_eye_96 rfl ?_
        exact ret _ _ _ (upd g 6 v) rfl dX9_eye_97 (by have e2 : decide (what = 1) = false := (by have q := of_decide_eq_true h2d; subst q; rfl); simp only [eyeF, h2d, h9, e2, decide_true, decide_false, Bool.not_true, Bool.not_false, Bool.true_and, Bool.false_and, Bool.and_true, Bool.and_false, Bool.true_or, Bool.or_true, Bool.false_or, Bool.or_false, bI_t, bI_f, if_true, if_false, ite_true, ite_false, Bool.false_eq_true, Bool.true_eq_false, eq_self, reduceIte, true_or, or_true, false_or, or_false, and_true, true_and, and_false, false_and, not_true_eq_false, not_false_eq_true, decide_eq_true_eq, decide_eq_false_iff_not])
      · replace h9 := bI_0.mp h9
        refine i_bipush (v := (-2)) B dX9_eye_45 (by decide) ?_
        exact ret _ _ _ g rfl dX9_eye_47 (by have e2 : decide (what = 1) = false := (by have q := of_decide_eq_true h2d; subst q; rfl); simp only [eyeF, h2d, h9, e2, decide_true, decide_false, Bool.not_true, Bool.not_false, Bool.true_and, Bool.false_and, Bool.and_true, Bool.and_false, Bool.true_or, Bool.or_true, Bool.false_or, Bool.or_false, bI_t, bI_f, if_true, if_false, ite_true, ite_false, Bool.false_eq_true, Bool.true_eq_false, eq_self, reduceIte, true_or, or_true, false_or, or_false, and_true, true_and, and_false, false_and, not_true_eq_false, not_false_eq_true, decide_eq_true_eq, decide_eq_false_iff_not])

set_option maxHeartbeats 4000000 in
set_option maxRecDepth 100000 in
theorem k_X9_store (l : Launch) (E : ED) (h : Nat) (q : Nat → Nat) (g : Nat → Int32) (a : Nat → Nat → Int32) (what v : Int32) : WR l E yX9_store cX9_store 4 .int 1 25 0 0 [.ref h, .int what, .int v] (mW E h q g a) (fun r u => (r, u) = storeF g what v) (fun u => mW E h q u a) := by
  refine WR.mk (by decide) (Nat.le_of_ble_eq_true rfl) [(0, .ref h), (1, .int what), (2, .int v)] rfl (fun Z B ret => ?_)
  refine i_aload_n B 0 dX9_store_0 rfl ?_
  refine i_iconst (v := 0) B dX9_store_1 (by decide) ?_
  refine i_put B flX9_99 0 (mW E h q g a) rfl rfl rfl rfl (Nat.le_of_ble_eq_true rfl) rfl dX9_store_2 ?_
  refine i_iload_n B 1 dX9_store_5 rfl ?_
  refine i_i2l B dX9_store_6 ?_
  refine i_lconst (v := 0) B dX9_store_7 (by decide) ?_
  refine i_lconst (v := 1) B dX9_store_8 (by decide) ?_
  refine c_roS (rest := []) (As := [.long (Int32.toInt64 what), .long 0, .long 1]) B (k_X9_in l E (Int32.toInt64 what) 0 1) cal_yX9_in is_yX9_in mlX9_104 (by decide) (by decide) rfl (Nat.le_of_ble_eq_true rfl) Has.nil _ rfl dX9_store_9 (fun r hr => ?_)
  subst hr
  refine i_val (v' := .int (bI (wit what 0 1))) (congrArg (fun z => Value.int (bI z)) (pin_i what 0 1)) ?_
  refine i_if_eq B 45 dX9_store_12 (by decide) (fun h1 => ?_) (fun h1 => ?_)
  · replace h1 := bI_0.mp h1
    refine i_bipush (v := (-2)) B dX9_store_45 (by decide) ?_
    exact ret _ _ _ g rfl dX9_store_47 (by rw [wit01, Bool.or_eq_false_iff] at h1; simp only [storeF, h1.1, h1.2, decide_true, decide_false, Bool.not_true, Bool.not_false, Bool.true_and, Bool.false_and, Bool.and_true, Bool.and_false, Bool.true_or, Bool.or_true, Bool.false_or, Bool.or_false, bI_t, bI_f, if_true, if_false, ite_true, ite_false, Bool.false_eq_true, Bool.true_eq_false, eq_self, reduceIte, true_or, or_true, false_or, or_false, and_true, true_and, and_false, false_and, not_true_eq_false, not_false_eq_true, decide_eq_true_eq, decide_eq_false_iff_not])
  · replace h1 := bI_n.mp h1
    refine i_iload_n B 2 dX9_store_15 rfl ?_
    refine i_i2l B dX9_store_16 ?_
    refine i_iload_n B 1 dX9_store_17 rfl ?_
    refine i_if_ne B 25 dX9_store_18 (by decide) (fun h2 => ?_) (fun h2 => ?_)
    · have h2d := decide_eq_false h2
      refine i_lconst (v := 0) B dX9_store_25 (by decide) ?_
      refine i_iload_n B 1 dX9_store_26 rfl ?_
      refine i_if_ne B 36 dX9_store_27 (by decide) (fun _ => ?_) (fun h3 => absurd h3 h2)
      refine i_ldc2 B ckX9_185 dX9_store_36 ?_
      refine c_roS (rest := []) (As := [.long (Int32.toInt64 v), .long 0, .long 500]) B (k_X9_in l E (Int32.toInt64 v) 0 500) cal_yX9_in is_yX9_in mlX9_104 (by decide) (by decide) rfl (Nat.le_of_ble_eq_true rfl) Has.nil _ rfl dX9_store_39 (fun r hr => ?_)
      subst hr
      refine i_val (v' := .int (bI (wit v 0 500))) (congrArg (fun z => Value.int (bI z)) (pin_i v 0 500)) ?_
      refine i_if_ne B 48 dX9_store_42 (by decide) (fun h4 => ?_) (fun h4 => ?_)
      · replace h4 := bI_n.mp h4
        refine i_iload_n B 1 dX9_store_48 rfl ?_
        refine i_if_ne B 59 dX9_store_49 (by decide) (fun _ => ?_) (fun h5 => absurd h5 h2)
        refine i_aload_n B 0 dX9_store_59 rfl ?_
        refine i_get (v := .int (g 19)) B flX9_187 0 rfl rfl dX9_store_60 ?_
        refine i_istore_n B [(3, .int (g 19)), (0, .ref h), (1, .int what), (2, .int v)] dX9_store_63 (by decide) rfl ?_
        refine i_aload_n B 1 dX9_store_64 rfl ?_
        refine i_iload_n B 2 dX9_store_65 rfl ?_
        refine i_if_ne B 73 dX9_store_66 (by decide) (fun _ => ?_) (fun h6 => absurd h6 h2)
        refine i_aload_n B 1 dX9_store_73 rfl ?_
        refine i_get (v := .int (g 18)) B flX9_47 0 rfl rfl dX9_store_74 ?_
        refine i_put B flX9_47 0 (mW E h q (upd g 18 (g 18)) a) rfl rfl rfl rfl (Nat.le_of_ble_eq_true rfl) rfl dX9_store_77 ?_
        refine i_aload_n B 1 dX9_store_80 rfl ?_
        refine i_iload_n B 2 dX9_store_81 rfl ?_
        refine i_if_ne B 92 dX9_store_82 (by decide) (fun _ => ?_) (fun h7 => absurd h7 h2)
        refine i_iload_n B 3 dX9_store_92 rfl ?_
        refine i_put B flX9_187 0 (mW E h q (upd (upd g 18 (g 18)) 19 v) a) rfl rfl rfl rfl (Nat.le_of_ble_eq_true rfl) rfl dX9_store_93 ?_
        refine i_iload_n B 0 dX9_store_96 rfl ?_
        exact ret _ _ _ (upd g 19 v) rfl dX9_store_97 (by have e1 : decide (what = 1) = true := (by rw [wit01, h2d] at h1; exact h1); simp only [storeF, h2d, h4, e1, decide_true, decide_false, Bool.not_true, Bool.not_false, Bool.true_and, Bool.false_and, Bool.and_true, Bool.and_false, Bool.true_or, Bool.or_true, Bool.false_or, Bool.or_false, bI_t, bI_f, if_true, if_false, ite_true, ite_false, Bool.false_eq_true, Bool.true_eq_false, eq_self, reduceIte, true_or, or_true, false_or, or_false, and_true, true_and, and_false, false_and, not_true_eq_false, not_false_eq_true, decide_eq_true_eq, decide_eq_false_iff_not])
      · replace h4 := bI_0.mp h4
        refine i_bipush (v := (-2)) B dX9_store_45 (by decide) ?_
        exact ret _ _ _ g rfl dX9_store_47 (by have e1 : decide (what = 1) = true := (by rw [wit01, h2d] at h1; exact h1); simp only [storeF, h2d, h4, e1, decide_true, decide_false, Bool.not_true, Bool.not_false, Bool.true_and, Bool.false_and, Bool.and_true, Bool.and_false, Bool.true_or, Bool.or_true, Bool.false_or, Bool.or_false, bI_t, bI_f, if_true, if_false, ite_true, ite_false, Bool.false_eq_true, Bool.true_eq_false, eq_self, reduceIte, true_or, or_true, false_or, or_false, and_true, true_and, and_false, false_and, not_true_eq_false, not_false_eq_true, decide_eq_true_eq, decide_eq_false_iff_not])
    · have h2d := decide_eq_true h2
      refine i_lconst (v := 1) B dX9_store_21 (by decide) ?_
      refine i_goto B 26 dX9_store_22 (by decide) ?_
      refine i_iload_n B 1 dX9_store_26 rfl ?_
      refine i_if_ne B 36 dX9_store_27 (by decide) (fun h8 => absurd h2 h8) (fun _ => ?_)
      refine i_ldc2 B ckX9_183 dX9_store_30 ?_
      refine i_goto B 39 dX9_store_33 (by decide) ?_
      refine c_roS (rest := []) (As := [.long (Int32.toInt64 v), .long 1, .long 30000]) B (k_X9_in l E (Int32.toInt64 v) 1 30000) cal_yX9_in is_yX9_in mlX9_104 (by decide) (by decide) rfl (Nat.le_of_ble_eq_true rfl) Has.nil _ rfl dX9_store_39 (fun r hr => ?_)
      subst hr
      refine i_val (v' := .int (bI (wit v 1 30000))) (congrArg (fun z => Value.int (bI z)) (pin_i v 1 30000)) ?_
      refine i_if_ne B 48 dX9_store_42 (by decide) (fun h9 => ?_) (fun h9 => ?_)
      · replace h9 := bI_n.mp h9
        refine i_iload_n B 1 dX9_store_48 rfl ?_
        refine i_if_ne B 59 dX9_store_49 (by decide) (fun h10 => absurd h2 h10) (fun _ => ?_)
        refine i_aload_n B 0 dX9_store_52 rfl ?_
        refine i_get (v := .int (g 18)) B flX9_47 0 rfl rfl dX9_store_53 ?_
        refine i_goto B 63 dX9_store_56 (by decide) ?_
        refine i_istore_n B [(3, .int (g 18)), (0, .ref h), (1, .int what), (2, .int v)] dX9_store_63 (by decide) rfl ?_
        refine i_aload_n B 1 dX9_store_64 rfl ?_
        refine i_iload_n B 2 dX9_store_65 rfl ?_
        refine i_if_ne B 73 dX9_store_66 (by decide) (fun h11 => absurd h2 h11) (fun _ => ?_)
        refine i_iload_n B 3 dX9_store_69 rfl ?_
        refine i_goto B 77 dX9_store_70 (by decide) ?_
        refine i_put B flX9_47 0 (mW E h q (upd g 18 v) a) rfl rfl rfl rfl (Nat.le_of_ble_eq_true rfl) rfl dX9_store_77 ?_
        refine i_aload_n B 1 dX9_store_80 rfl ?_
        refine i_iload_n B 2 dX9_store_81 rfl ?_
        refine i_if_ne B 92 dX9_store_82 (by decide) (fun h12 => absurd h2 h12) (fun _ => ?_)
        refine i_aload_n B 1 dX9_store_85 rfl ?_
        refine i_get (v := .int (g 19)) B flX9_187 0 rfl rfl dX9_store_86 ?_
        refine i_goto B 93 dX9_store_89 (by decide) ?_
        refine i_put B flX9_187 0 (mW E h q (upd (upd g 18 v) 19 (g 19)) a) rfl rfl rfl rfl (Nat.le_of_ble_eq_true rfl) rfl dX9_store_93 ?_
        refine i_iload_n B 0 dX9_store_96 rfl ?_
        exact ret _ _ _ (upd g 18 v) rfl dX9_store_97 (by have e2 : decide (what = 1) = false := (by have q := of_decide_eq_true h2d; subst q; rfl); simp only [storeF, h2d, h9, e2, decide_true, decide_false, Bool.not_true, Bool.not_false, Bool.true_and, Bool.false_and, Bool.and_true, Bool.and_false, Bool.true_or, Bool.or_true, Bool.false_or, Bool.or_false, bI_t, bI_f, if_true, if_false, ite_true, ite_false, Bool.false_eq_true, Bool.true_eq_false, eq_self, reduceIte, true_or, or_true, false_or, or_false, and_true, true_and, and_false, false_and, not_true_eq_false, not_false_eq_true, decide_eq_true_eq, decide_eq_false_iff_not])
      · replace h9 := bI_0.mp h9
        refine i_bipush (v := (-2)) B dX9_store_45 (by decide) ?_
        exact ret _ _ _ g rfl dX9_store_47 (by have e2 : decide (what = 1) = false := (by have q := of_decide_eq_true h2d; subst q; rfl); simp only [storeF, h2d, h9, e2, decide_true, decide_false, Bool.not_true, Bool.not_false, Bool.true_and, Bool.false_and, Bool.and_true, Bool.and_false, Bool.true_or, Bool.or_true, Bool.false_or, Bool.or_false, bI_t, bI_f, if_true, if_false, ite_true, ite_false, Bool.false_eq_true, Bool.true_eq_false, eq_self, reduceIte, true_or, or_true, false_or, or_false, and_true, true_and, and_false, false_and, not_true_eq_false, not_false_eq_true, decide_eq_true_eq, decide_eq_false_iff_not])

set_option maxHeartbeats 4000000 in
set_option maxRecDepth 100000 in
theorem k_X9_view (l : Launch) (E : ED) (h : Nat) (q : Nat → Nat) (g : Nat → Int32) (a : Nat → Nat → Int32) (nv : Nat) (hv : g 8 = nI nv) (hnv : nv ≤ 10) (x y : Int32) : WR l E yX9_view cX9_view 3 .int 2 46 0 0 [.ref h, .int x, .int y] (mW E h q g a) (fun r u => (r, u) = viewF g a nv x y) (fun u : GA => mW E h q u.1 u.2) := by
  refine WR.mk (by decide) (Nat.le_of_ble_eq_true rfl) [(0, .ref h), (1, .int x), (2, .int y)] rfl (fun Z B ret => ?_)
  refine i_aload_n B 0 dX9_view_0 rfl ?_
  refine i_iconst (v := 0) B dX9_view_1 (by decide) ?_
  refine i_put B flX9_99 0 (mW E h q g a) rfl rfl rfl rfl (Nat.le_of_ble_eq_true rfl) rfl dX9_view_2 ?_
  refine i_iload_n B 1 dX9_view_5 rfl ?_
  refine i_iload_n B 2 dX9_view_6 rfl ?_
  refine c_roS (rest := []) (As := [.int x, .int y]) B (k_X9_noPoint l E x y) cal_yX9_noPoint is_yX9_noPoint mlX9_134 (by decide) (by decide) rfl (Nat.le_of_ble_eq_true rfl) Has.nil _ rfl dX9_view_7 (fun r hr => ?_)
  subst hr
  refine i_val (v' := .int (bI (!pt x y))) rfl ?_
  refine i_if_eq B 16 dX9_view_10 (by decide) (fun h1 => ?_) (fun h1 => ?_)
  · replace h1 := bI_0.mp h1
    replace h1 : pt x y = true := by simpa using h1
    refine i_aload_n B 0 dX9_view_16 rfl ?_
    refine i_get (v := .int (g 8)) B flX9_111 0 rfl rfl dX9_view_17 ?_
    refine i_bipush (v := 10) B dX9_view_20 (by decide) ?_
    refine i_icmp_ne B 28 dX9_view_22 (by decide) (fun h2 => ?_) (fun h2 => ?_)
    · rw [hv, show (10 : Int32) = nI 10 from rfl, nI_eq (by omega) (by omega)] at h2
      have h2d := decide_eq_false h2
      refine i_aload_n B 0 dX9_view_28 rfl ?_
      refine i_get (v := .ref (q 9)) B flX9_29 0 rfl rfl dX9_view_29 ?_
      refine i_aload_n B 0 dX9_view_32 rfl ?_
      refine i_get (v := .int (g 8)) B flX9_111 0 rfl rfl dX9_view_33 ?_
      refine i_iload_n B 1 dX9_view_36 rfl ?_
      refine i_iastN B 5 nv (mW E h q g (va_up a 9 (upd (a 9) nv x))) rfl hv (by omega) (by decide) rfl dX9_view_37 ?_
      refine i_aload_n B 0 dX9_view_38 rfl ?_
      refine i_get (v := .ref (q 10)) B flX9_32 0 rfl rfl dX9_view_39 ?_
      refine i_aload_n B 0 dX9_view_42 rfl ?_
      refine i_get (v := .int (g 8)) B flX9_111 0 rfl rfl dX9_view_43 ?_
      refine i_iload_n B 2 dX9_view_46 rfl ?_
      refine i_iastN B 6 nv (mW E h q g (va_up (va_up a 9 (upd (a 9) nv x)) 10 (upd (a 10) nv y))) rfl hv (by omega) (by decide) rfl dX9_view_47 ?_
      refine i_aload_n B 0 dX9_view_48 rfl ?_
      refine i_dup B dX9_view_49 rfl ?_
      refine i_get (v := .int (g 8)) B flX9_111 0 rfl rfl dX9_view_50 ?_
      refine i_iconst (v := 1) B dX9_view_53 (by decide) ?_
      refine i_iadd B dX9_view_54 ?_
      refine i_val (v' := .int (nI (nv + 1))) (congrArg Value.int (by rw [hv]; exact nI_1 _)) ?_
      refine i_put B flX9_111 0 (mW E h q (upd g 8 (nI (nv + 1))) (va_up (va_up a 9 (upd (a 9) nv x)) 10 (upd (a 10) nv y))) rfl rfl rfl rfl (Nat.le_of_ble_eq_true rfl) rfl dX9_view_55 ?_
      refine i_aload_n B 0 dX9_view_58 rfl ?_
      refine i_get (v := .int (nI (nv + 1))) B flX9_111 0 rfl rfl dX9_view_59 ?_
      refine i_iconst (v := 1) B dX9_view_62 (by decide) ?_
      refine i_isub B dX9_view_63 ?_
      exact ret _ _ _ ((upd g 8 (nI (nv + 1))), (va_up (va_up a 9 (upd (a 9) nv x)) 10 (upd (a 10) nv y))) rfl dX9_view_64 (by simp only [viewF, nI_pred, h1, h2d, decide_true, decide_false, Bool.not_true, Bool.not_false, Bool.true_and, Bool.false_and, Bool.and_true, Bool.and_false, Bool.true_or, Bool.or_true, Bool.false_or, Bool.or_false, Bool.and_self, Bool.or_self, bI_t, bI_f, if_true, if_false, ite_true, ite_false, Bool.false_eq_true, Bool.true_eq_false, eq_self, reduceIte, true_or, or_true, false_or, or_false, and_true, true_and, and_false, false_and, not_true_eq_false, not_false_eq_true, decide_eq_true_eq, decide_eq_false_iff_not])
    · rw [hv, show (10 : Int32) = nI 10 from rfl, nI_eq (by omega) (by omega)] at h2
      have h2d := decide_eq_true h2
      refine i_bipush (v := (-4)) B dX9_view_25 (by decide) ?_
      exact ret _ _ _ (g, a) rfl dX9_view_27 (by simp only [viewF, nI_pred, h1, h2d, decide_true, decide_false, Bool.not_true, Bool.not_false, Bool.true_and, Bool.false_and, Bool.and_true, Bool.and_false, Bool.true_or, Bool.or_true, Bool.false_or, Bool.or_false, Bool.and_self, Bool.or_self, bI_t, bI_f, if_true, if_false, ite_true, ite_false, Bool.false_eq_true, Bool.true_eq_false, eq_self, reduceIte, true_or, or_true, false_or, or_false, and_true, true_and, and_false, false_and, not_true_eq_false, not_false_eq_true, decide_eq_true_eq, decide_eq_false_iff_not])
  · replace h1 := bI_n.mp h1
    replace h1 : pt x y = false := by simpa using h1
    refine i_bipush (v := (-2)) B dX9_view_13 (by decide) ?_
    exact ret _ _ _ (g, a) rfl dX9_view_15 (by simp only [viewF, nI_pred, h1, decide_true, decide_false, Bool.not_true, Bool.not_false, Bool.true_and, Bool.false_and, Bool.and_true, Bool.and_false, Bool.true_or, Bool.or_true, Bool.false_or, Bool.or_false, Bool.and_self, Bool.or_self, bI_t, bI_f, if_true, if_false, ite_true, ite_false, Bool.false_eq_true, Bool.true_eq_false, eq_self, reduceIte, true_or, or_true, false_or, or_false, and_true, true_and, and_false, false_and, not_true_eq_false, not_false_eq_true, decide_eq_true_eq, decide_eq_false_iff_not])

set_option maxHeartbeats 4000000 in
set_option maxRecDepth 100000 in
theorem k_X9_close (l : Launch) (E : ED) (h : Nat) (q : Nat → Nat) (g : Nat → Int32) (a : Nat → Nat → Int32) (nc : Nat) (hc : g 11 = nI nc) (hnc : nc ≤ 4) (x1 y1 x2 y2 : Int32) : WR l E yX9_close cX9_close 5 .int 2 46 0 0 [.ref h, .int x1, .int y1, .int x2, .int y2] (mW E h q g a) (fun r u => (r, u) = closeF g a nc x1 y1 x2 y2) (fun u : GA => mW E h q u.1 u.2) := by
  refine WR.mk (by decide) (Nat.le_of_ble_eq_true rfl) [(0, .ref h), (1, .int x1), (2, .int y1), (3, .int x2), (4, .int y2)] rfl (fun Z B ret => ?_)
  refine i_aload_n B 0 dX9_close_0 rfl ?_
  refine i_iconst (v := 0) B dX9_close_1 (by decide) ?_
  refine i_put B flX9_99 0 (mW E h q g a) rfl rfl rfl rfl (Nat.le_of_ble_eq_true rfl) rfl dX9_close_2 ?_
  refine i_iload_n B 1 dX9_close_5 rfl ?_
  refine i_iload_n B 2 dX9_close_6 rfl ?_
  refine c_roS (rest := []) (As := [.int x1, .int y1]) B (k_X9_noPoint l E x1 y1) cal_yX9_noPoint is_yX9_noPoint mlX9_134 (by decide) (by decide) rfl (Nat.le_of_ble_eq_true rfl) Has.nil _ rfl dX9_close_7 (fun r hr => ?_)
  subst hr
  refine i_val (v' := .int (bI (!pt x1 y1))) rfl ?_
  refine i_if_ne B 22 dX9_close_10 (by decide) (fun h1 => ?_) (fun h1 => ?_)
  · replace h1 := bI_n.mp h1
    replace h1 : pt x1 y1 = false := by simpa using h1
    refine i_bipush (v := (-2)) B dX9_close_22 (by decide) ?_
    exact ret _ _ _ (g, a) rfl dX9_close_24 (by simp only [closeF, h1, decide_true, decide_false, Bool.not_true, Bool.not_false, Bool.true_and, Bool.false_and, Bool.and_true, Bool.and_false, Bool.true_or, Bool.or_true, Bool.false_or, Bool.or_false, Bool.and_self, Bool.or_self, bI_t, bI_f, if_true, if_false, ite_true, ite_false, Bool.false_eq_true, Bool.true_eq_false, eq_self, reduceIte, true_or, or_true, false_or, or_false, and_true, true_and, and_false, false_and, not_true_eq_false, not_false_eq_true, decide_eq_true_eq, decide_eq_false_iff_not])
  · replace h1 := bI_0.mp h1
    replace h1 : pt x1 y1 = true := by simpa using h1
    refine i_iload_n B 3 dX9_close_13 rfl ?_
    refine i_iload B 4 dX9_close_14 rfl ?_
    refine c_roS (rest := []) (As := [.int x2, .int y2]) B (k_X9_noPoint l E x2 y2) cal_yX9_noPoint is_yX9_noPoint mlX9_134 (by decide) (by decide) rfl (Nat.le_of_ble_eq_true rfl) Has.nil _ rfl dX9_close_16 (fun r hr => ?_)
    subst hr
    refine i_val (v' := .int (bI (!pt x2 y2))) rfl ?_
    refine i_if_eq B 25 dX9_close_19 (by decide) (fun h2 => ?_) (fun h2 => ?_)
    · replace h2 := bI_0.mp h2
      replace h2 : pt x2 y2 = true := by simpa using h2
      refine i_iload_n B 3 dX9_close_25 rfl ?_
      refine i_iload_n B 1 dX9_close_26 rfl ?_
      refine i_icmp_le B 36 dX9_close_27 (by decide) (fun h3 => ?_) (fun h3 => ?_)
      · replace h3 := q_n32.mpr h3
        refine i_bipush (v := (-3)) B dX9_close_36 (by decide) ?_
        exact ret _ _ _ (g, a) rfl dX9_close_38 (by simp only [closeF, h1, h2, h3, decide_true, decide_false, Bool.not_true, Bool.not_false, Bool.true_and, Bool.false_and, Bool.and_true, Bool.and_false, Bool.true_or, Bool.or_true, Bool.false_or, Bool.or_false, Bool.and_self, Bool.or_self, bI_t, bI_f, if_true, if_false, ite_true, ite_false, Bool.false_eq_true, Bool.true_eq_false, eq_self, reduceIte, true_or, or_true, false_or, or_false, and_true, true_and, and_false, false_and, not_true_eq_false, not_false_eq_true, decide_eq_true_eq, decide_eq_false_iff_not])
      · replace h3 := q_m32.mp h3
        refine i_iload B 4 dX9_close_30 rfl ?_
        refine i_iload_n B 2 dX9_close_32 rfl ?_
        refine i_icmp_gt B 39 dX9_close_33 (by decide) (fun h4 => ?_) (fun h4 => ?_)
        · refine i_aload_n B 0 dX9_close_39 rfl ?_
          refine i_get (v := .int (g 11)) B flX9_166 0 rfl rfl dX9_close_40 ?_
          refine i_iconst (v := 4) B dX9_close_43 (by decide) ?_
          refine i_icmp_ne B 50 dX9_close_44 (by decide) (fun h5 => ?_) (fun h5 => ?_)
          · rw [hc, show (4 : Int32) = nI 4 from rfl, nI_eq (by omega) (by omega)] at h5
            have h5d := decide_eq_false h5
            refine i_aload_n B 0 dX9_close_50 rfl ?_
            refine i_get (v := .ref (q 12)) B flX9_35 0 rfl rfl dX9_close_51 ?_
            refine i_aload_n B 0 dX9_close_54 rfl ?_
            refine i_get (v := .int (g 11)) B flX9_166 0 rfl rfl dX9_close_55 ?_
            refine i_iload_n B 1 dX9_close_58 rfl ?_
            refine i_iastN B 7 nc (mW E h q g (va_up a 12 (upd (a 12) nc x1))) rfl hc (by omega) (by decide) rfl dX9_close_59 ?_
            refine i_aload_n B 0 dX9_close_60 rfl ?_
            refine i_get (v := .ref (q 13)) B flX9_38 0 rfl rfl dX9_close_61 ?_
            refine i_aload_n B 0 dX9_close_64 rfl ?_
            refine i_get (v := .int (g 11)) B flX9_166 0 rfl rfl dX9_close_65 ?_
            refine i_iload_n B 2 dX9_close_68 rfl ?_
            refine i_iastN B 8 nc (mW E h q g (va_up (va_up a 12 (upd (a 12) nc x1)) 13 (upd (a 13) nc y1))) rfl hc (by omega) (by decide) rfl dX9_close_69 ?_
            refine i_aload_n B 0 dX9_close_70 rfl ?_
            refine i_get (v := .ref (q 14)) B flX9_41 0 rfl rfl dX9_close_71 ?_
            refine i_aload_n B 0 dX9_close_74 rfl ?_
            refine i_get (v := .int (g 11)) B flX9_166 0 rfl rfl dX9_close_75 ?_
            refine i_iload_n B 3 dX9_close_78 rfl ?_
            refine i_iastN B 9 nc (mW E h q g (va_up (va_up (va_up a 12 (upd (a 12) nc x1)) 13 (upd (a 13) nc y1)) 14 (upd (a 14) nc x2))) rfl hc (by omega) (by decide) rfl dX9_close_79 ?_
            refine i_aload_n B 0 dX9_close_80 rfl ?_
            refine i_get (v := .ref (q 15)) B flX9_44 0 rfl rfl dX9_close_81 ?_
            refine i_aload_n B 0 dX9_close_84 rfl ?_
            refine i_get (v := .int (g 11)) B flX9_166 0 rfl rfl dX9_close_85 ?_
            refine i_iload B 4 dX9_close_88 rfl ?_
            refine i_iastN B 10 nc (mW E h q g (va_up (va_up (va_up (va_up a 12 (upd (a 12) nc x1)) 13 (upd (a 13) nc y1)) 14 (upd (a 14) nc x2)) 15 (upd (a 15) nc y2))) rfl hc (by omega) (by decide) rfl dX9_close_90 ?_
            refine i_aload_n B 0 dX9_close_91 rfl ?_
            refine i_dup B dX9_close_92 rfl ?_
            refine i_get (v := .int (g 11)) B flX9_166 0 rfl rfl dX9_close_93 ?_
            refine i_iconst (v := 1) B dX9_close_96 (by decide) ?_
            refine i_iadd B dX9_close_97 ?_
            refine i_val (v' := .int (nI (nc + 1))) (congrArg Value.int (by rw [hc]; exact nI_1 _)) ?_
            refine i_put B flX9_166 0 (mW E h q (upd g 11 (nI (nc + 1))) (va_up (va_up (va_up (va_up a 12 (upd (a 12) nc x1)) 13 (upd (a 13) nc y1)) 14 (upd (a 14) nc x2)) 15 (upd (a 15) nc y2))) rfl rfl rfl rfl (Nat.le_of_ble_eq_true rfl) rfl dX9_close_98 ?_
            refine i_aload_n B 0 dX9_close_101 rfl ?_
            refine i_get (v := .int (nI (nc + 1))) B flX9_166 0 rfl rfl dX9_close_102 ?_
            exact ret _ _ _ ((upd g 11 (nI (nc + 1))), (va_up (va_up (va_up (va_up a 12 (upd (a 12) nc x1)) 13 (upd (a 13) nc y1)) 14 (upd (a 14) nc x2)) 15 (upd (a 15) nc y2))) rfl dX9_close_105 (by simp only [closeF, h1, h2, h3, h4, h5d, decide_true, decide_false, Bool.not_true, Bool.not_false, Bool.true_and, Bool.false_and, Bool.and_true, Bool.and_false, Bool.true_or, Bool.or_true, Bool.false_or, Bool.or_false, Bool.and_self, Bool.or_self, bI_t, bI_f, if_true, if_false, ite_true, ite_false, Bool.false_eq_true, Bool.true_eq_false, eq_self, reduceIte, true_or, or_true, false_or, or_false, and_true, true_and, and_false, false_and, not_true_eq_false, not_false_eq_true, decide_eq_true_eq, decide_eq_false_iff_not])
          · rw [hc, show (4 : Int32) = nI 4 from rfl, nI_eq (by omega) (by omega)] at h5
            have h5d := decide_eq_true h5
            refine i_bipush (v := (-4)) B dX9_close_47 (by decide) ?_
            exact ret _ _ _ (g, a) rfl dX9_close_49 (by simp only [closeF, h1, h2, h3, h4, h5d, decide_true, decide_false, Bool.not_true, Bool.not_false, Bool.true_and, Bool.false_and, Bool.and_true, Bool.and_false, Bool.true_or, Bool.or_true, Bool.false_or, Bool.or_false, Bool.and_self, Bool.or_self, bI_t, bI_f, if_true, if_false, ite_true, ite_false, Bool.false_eq_true, Bool.true_eq_false, eq_self, reduceIte, true_or, or_true, false_or, or_false, and_true, true_and, and_false, false_and, not_true_eq_false, not_false_eq_true, decide_eq_true_eq, decide_eq_false_iff_not])
        · refine i_bipush (v := (-3)) B dX9_close_36 (by decide) ?_
          exact ret _ _ _ (g, a) rfl dX9_close_38 (by simp only [closeF, h1, h2, h3, h4, decide_true, decide_false, Bool.not_true, Bool.not_false, Bool.true_and, Bool.false_and, Bool.and_true, Bool.and_false, Bool.true_or, Bool.or_true, Bool.false_or, Bool.or_false, Bool.and_self, Bool.or_self, bI_t, bI_f, if_true, if_false, ite_true, ite_false, Bool.false_eq_true, Bool.true_eq_false, eq_self, reduceIte, true_or, or_true, false_or, or_false, and_true, true_and, and_false, false_and, not_true_eq_false, not_false_eq_true, decide_eq_true_eq, decide_eq_false_iff_not])
    · replace h2 := bI_n.mp h2
      replace h2 : pt x2 y2 = false := by simpa using h2
      refine i_bipush (v := (-2)) B dX9_close_22 (by decide) ?_
      exact ret _ _ _ (g, a) rfl dX9_close_24 (by simp only [closeF, h1, h2, decide_true, decide_false, Bool.not_true, Bool.not_false, Bool.true_and, Bool.false_and, Bool.and_true, Bool.and_false, Bool.true_or, Bool.or_true, Bool.false_or, Bool.or_false, Bool.and_self, Bool.or_self, bI_t, bI_f, if_true, if_false, ite_true, ite_false, Bool.false_eq_true, Bool.true_eq_false, eq_self, reduceIte, true_or, or_true, false_or, or_false, and_true, true_and, and_false, false_and, not_true_eq_false, not_false_eq_true, decide_eq_true_eq, decide_eq_false_iff_not])

set_option maxHeartbeats 4000000 in
set_option maxRecDepth 100000 in
theorem k_X9_open (l : Launch) (E : ED) (h : Nat) (q : Nat → Nat) (g : Nat → Int32) (a : Nat → Nat → Int32) (nc : Nat) (hc : g 11 = nI nc) (hnc : nc ≤ 4) : WR l E yX9_open cX9_open 1 .int 0 0 0 0 [.ref h] (mW E h q g a) (fun r u => (r, u) = openF g nc) (fun u => mW E h q u a) := by
  refine WR.mk (by decide) (Nat.le_of_ble_eq_true rfl) [(0, .ref h)] rfl (fun Z B ret => ?_)
  refine i_aload_n B 0 dX9_open_0 rfl ?_
  refine i_iconst (v := 0) B dX9_open_1 (by decide) ?_
  refine i_put B flX9_99 0 (mW E h q g a) rfl rfl rfl rfl (Nat.le_of_ble_eq_true rfl) rfl dX9_open_2 ?_
  refine i_aload_n B 0 dX9_open_5 rfl ?_
  refine i_get (v := .int (g 11)) B flX9_166 0 rfl rfl dX9_open_6 ?_
  refine i_if_ne B 15 dX9_open_9 (by decide) (fun h1 => ?_) (fun h1 => ?_)
  · rw [hc, show (0 : Int32) = nI 0 from rfl, nI_eq (by omega) (by omega)] at h1
    have h1d := decide_eq_false h1
    refine i_aload_n B 0 dX9_open_15 rfl ?_
    refine i_dup B dX9_open_16 rfl ?_
    refine i_get (v := .int (g 11)) B flX9_166 0 rfl rfl dX9_open_17 ?_
    refine i_iconst (v := 1) B dX9_open_20 (by decide) ?_
    refine i_isub B dX9_open_21 ?_
    refine i_val (v' := .int (nI (nc - 1))) (congrArg Value.int (by rw [hc]; exact pk_sub (a := nc) (b := 1) (by omega))) ?_
    refine i_put B flX9_166 0 (mW E h q (upd g 11 (nI (nc - 1))) a) rfl rfl rfl rfl (Nat.le_of_ble_eq_true rfl) rfl dX9_open_22 ?_
    refine i_aload_n B 0 dX9_open_25 rfl ?_
    refine i_get (v := .int (nI (nc - 1))) B flX9_166 0 rfl rfl dX9_open_26 ?_
    exact ret _ _ _ (upd g 11 (nI (nc - 1))) rfl dX9_open_29 (by simp only [openF, h1d, decide_true, decide_false, Bool.not_true, Bool.not_false, Bool.true_and, Bool.false_and, Bool.and_true, Bool.and_false, Bool.true_or, Bool.or_true, Bool.false_or, Bool.or_false, Bool.and_self, Bool.or_self, bI_t, bI_f, if_true, if_false, ite_true, ite_false, Bool.false_eq_true, Bool.true_eq_false, eq_self, reduceIte, true_or, or_true, false_or, or_false, and_true, true_and, and_false, false_and, not_true_eq_false, not_false_eq_true, decide_eq_true_eq, decide_eq_false_iff_not])
  · rw [hc, show (0 : Int32) = nI 0 from rfl, nI_eq (by omega) (by omega)] at h1
    have h1d := decide_eq_true h1
    refine i_bipush (v := (-3)) B dX9_open_12 (by decide) ?_
    exact ret _ _ _ g rfl dX9_open_14 (by simp only [openF, h1d, decide_true, decide_false, Bool.not_true, Bool.not_false, Bool.true_and, Bool.false_and, Bool.and_true, Bool.and_false, Bool.true_or, Bool.or_true, Bool.false_or, Bool.or_false, Bool.and_self, Bool.or_self, bI_t, bI_f, if_true, if_false, ite_true, ite_false, Bool.false_eq_true, Bool.true_eq_false, eq_self, reduceIte, true_or, or_true, false_or, or_false, and_true, true_and, and_false, false_and, not_true_eq_false, not_false_eq_true, decide_eq_true_eq, decide_eq_false_iff_not])

set_option maxHeartbeats 4000000 in
set_option maxRecDepth 100000 in
theorem k_X9_wind (l : Launch) (E : ED) (h : Nat) (q : Nat → Nat) (g : Nat → Int32) (a : Nat → Nat → Int32) (x y : Int32) : WR l E yX9_wind cX9_wind 4 .int 1 25 0 0 [.ref h, .int x, .int y] (mW E h q g a) (fun r u => (r, u) = windF g x y) (fun u => mW E h q u a) := by
  refine WR.mk (by decide) (Nat.le_of_ble_eq_true rfl) [(0, .ref h), (1, .int x), (2, .int y)] rfl (fun Z B ret => ?_)
  refine i_aload_n B 0 dX9_wind_0 rfl ?_
  refine i_iconst (v := 0) B dX9_wind_1 (by decide) ?_
  refine i_put B flX9_99 0 (mW E h q g a) rfl rfl rfl rfl (Nat.le_of_ble_eq_true rfl) rfl dX9_wind_2 ?_
  refine i_iload_n B 1 dX9_wind_5 rfl ?_
  refine i_i2l B dX9_wind_6 ?_
  refine i_ldc2 B ckX9_179 dX9_wind_7 ?_
  refine i_ldc2 B ckX9_181 dX9_wind_10 ?_
  refine c_roS (rest := []) (As := [.long (Int32.toInt64 x), .long (-9), .long 9]) B (k_X9_in l E (Int32.toInt64 x) (-9) 9) cal_yX9_in is_yX9_in mlX9_104 (by decide) (by decide) rfl (Nat.le_of_ble_eq_true rfl) Has.nil _ rfl dX9_wind_13 (fun r hr => ?_)
  subst hr
  refine i_val (v' := .int (bI (wit x (-9) 9))) (congrArg (fun z => Value.int (bI z)) (pin_i x (-9) 9)) ?_
  refine i_if_eq B 33 dX9_wind_16 (by decide) (fun h1 => ?_) (fun h1 => ?_)
  · replace h1 := bI_0.mp h1
    refine i_bipush (v := (-2)) B dX9_wind_33 (by decide) ?_
    exact ret _ _ _ g rfl dX9_wind_35 (by simp only [windF, h1, decide_true, decide_false, Bool.not_true, Bool.not_false, Bool.true_and, Bool.false_and, Bool.and_true, Bool.and_false, Bool.true_or, Bool.or_true, Bool.false_or, Bool.or_false, Bool.and_self, Bool.or_self, bI_t, bI_f, if_true, if_false, ite_true, ite_false, Bool.false_eq_true, Bool.true_eq_false, eq_self, reduceIte, true_or, or_true, false_or, or_false, and_true, true_and, and_false, false_and, not_true_eq_false, not_false_eq_true, decide_eq_true_eq, decide_eq_false_iff_not])
  · replace h1 := bI_n.mp h1
    refine i_iload_n B 2 dX9_wind_19 rfl ?_
    refine i_i2l B dX9_wind_20 ?_
    refine i_ldc2 B ckX9_179 dX9_wind_21 ?_
    refine i_ldc2 B ckX9_181 dX9_wind_24 ?_
    refine c_roS (rest := []) (As := [.long (Int32.toInt64 y), .long (-9), .long 9]) B (k_X9_in l E (Int32.toInt64 y) (-9) 9) cal_yX9_in is_yX9_in mlX9_104 (by decide) (by decide) rfl (Nat.le_of_ble_eq_true rfl) Has.nil _ rfl dX9_wind_27 (fun r hr => ?_)
    subst hr
    refine i_val (v' := .int (bI (wit y (-9) 9))) (congrArg (fun z => Value.int (bI z)) (pin_i y (-9) 9)) ?_
    refine i_if_ne B 36 dX9_wind_30 (by decide) (fun h2 => ?_) (fun h2 => ?_)
    · replace h2 := bI_n.mp h2
      refine i_bipush (v := 100) B dX9_wind_36 (by decide) ?_
      refine i_aload_n B 0 dX9_wind_38 rfl ?_
      refine i_get (v := .int (g 16)) B flX9_173 0 rfl rfl dX9_wind_39 ?_
      refine i_imul B dX9_wind_42 ?_
      refine i_aload_n B 0 dX9_wind_43 rfl ?_
      refine i_get (v := .int (g 17)) B flX9_176 0 rfl rfl dX9_wind_44 ?_
      refine i_iadd B dX9_wind_47 ?_
      refine i_sipush (v := 909) B dX9_wind_48 (by decide) ?_
      refine i_iadd B dX9_wind_51 ?_
      refine i_istore_n B [(3, .int (((100 * (g 16)) + (g 17)) + 909)), (0, .ref h), (1, .int x), (2, .int y)] dX9_wind_52 (by decide) rfl ?_
      refine i_aload_n B 1 dX9_wind_53 rfl ?_
      refine i_iload_n B 2 dX9_wind_54 rfl ?_
      refine i_put B flX9_173 0 (mW E h q (upd g 16 x) a) rfl rfl rfl rfl (Nat.le_of_ble_eq_true rfl) rfl dX9_wind_55 ?_
      refine i_aload_n B 1 dX9_wind_58 rfl ?_
      refine i_iload_n B 3 dX9_wind_59 rfl ?_
      refine i_put B flX9_176 0 (mW E h q (upd (upd g 16 x) 17 y) a) rfl rfl rfl rfl (Nat.le_of_ble_eq_true rfl) rfl dX9_wind_60 ?_
      refine i_iload_n B 0 dX9_wind_63 rfl ?_
      exact ret _ _ _ (upd (upd g 16 x) 17 y) rfl dX9_wind_64 (by simp only [windF, h1, h2, decide_true, decide_false, Bool.not_true, Bool.not_false, Bool.true_and, Bool.false_and, Bool.and_true, Bool.and_false, Bool.true_or, Bool.or_true, Bool.false_or, Bool.or_false, Bool.and_self, Bool.or_self, bI_t, bI_f, if_true, if_false, ite_true, ite_false, Bool.false_eq_true, Bool.true_eq_false, eq_self, reduceIte, true_or, or_true, false_or, or_false, and_true, true_and, and_false, false_and, not_true_eq_false, not_false_eq_true, decide_eq_true_eq, decide_eq_false_iff_not])
    · replace h2 := bI_0.mp h2
      refine i_bipush (v := (-2)) B dX9_wind_33 (by decide) ?_
      exact ret _ _ _ g rfl dX9_wind_35 (by simp only [windF, h1, h2, decide_true, decide_false, Bool.not_true, Bool.not_false, Bool.true_and, Bool.false_and, Bool.and_true, Bool.and_false, Bool.true_or, Bool.or_true, Bool.false_or, Bool.or_false, Bool.and_self, Bool.or_self, bI_t, bI_f, if_true, if_false, ite_true, ite_false, Bool.false_eq_true, Bool.true_eq_false, eq_self, reduceIte, true_or, or_true, false_or, or_false, and_true, true_and, and_false, false_and, not_true_eq_false, not_false_eq_true, decide_eq_true_eq, decide_eq_false_iff_not])

set_option maxHeartbeats 4000000 in
set_option maxRecDepth 100000 in
theorem k_X9_base (l : Launch) (E : ED) (h : Nat) (q : Nat → Nat) (g : Nat → Int32) (a : Nat → Nat → Int32) (x y : Int32) : WR l E yX9_base cX9_base 4 .int 2 46 0 0 [.ref h, .int x, .int y] (mW E h q g a) (fun r u => (r, u) = baseF a x y) (fun u => mW E h q g u) := by
  refine WR.mk (by decide) (Nat.le_of_ble_eq_true rfl) [(0, .ref h), (1, .int x), (2, .int y)] rfl (fun Z B ret => ?_)
  refine i_aload_n B 0 dX9_base_0 rfl ?_
  refine i_iconst (v := 0) B dX9_base_1 (by decide) ?_
  refine i_put B flX9_99 0 (mW E h q g a) rfl rfl rfl rfl (Nat.le_of_ble_eq_true rfl) rfl dX9_base_2 ?_
  refine i_iload_n B 1 dX9_base_5 rfl ?_
  refine i_iload_n B 2 dX9_base_6 rfl ?_
  refine c_roS (rest := []) (As := [.int x, .int y]) B (k_X9_noPoint l E x y) cal_yX9_noPoint is_yX9_noPoint mlX9_134 (by decide) (by decide) rfl (Nat.le_of_ble_eq_true rfl) Has.nil _ rfl dX9_base_7 (fun r hr => ?_)
  subst hr
  refine i_val (v' := .int (bI (!pt x y))) rfl ?_
  refine i_if_eq B 16 dX9_base_10 (by decide) (fun h1 => ?_) (fun h1 => ?_)
  · replace h1 := bI_0.mp h1
    replace h1 : pt x y = true := by simpa using h1
    refine i_bipush (v := 100) B dX9_base_16 (by decide) ?_
    refine i_aload_n B 0 dX9_base_18 rfl ?_
    refine i_get (v := .ref (q 9)) B flX9_29 0 rfl rfl dX9_base_19 ?_
    refine i_bipush (v := 10) B dX9_base_22 (by decide) ?_
    refine i_ialdN B 5 10 rfl rfl (by decide) (by decide) dX9_base_24 ?_
    refine i_imul B dX9_base_25 ?_
    refine i_aload_n B 0 dX9_base_26 rfl ?_
    refine i_get (v := .ref (q 10)) B flX9_32 0 rfl rfl dX9_base_27 ?_
    refine i_bipush (v := 10) B dX9_base_30 (by decide) ?_
    refine i_ialdN B 6 10 rfl rfl (by decide) (by decide) dX9_base_32 ?_
    refine i_iadd B dX9_base_33 ?_
    refine i_istore_n B [(3, .int ((100 * ((a 9) 10)) + ((a 10) 10))), (0, .ref h), (1, .int x), (2, .int y)] dX9_base_34 (by decide) rfl ?_
    refine i_aload_n B 1 dX9_base_35 rfl ?_
    refine i_get (v := .ref (q 9)) B flX9_29 0 rfl rfl dX9_base_36 ?_
    refine i_bipush (v := 10) B dX9_base_39 (by decide) ?_
    refine i_iload_n B 2 dX9_base_41 rfl ?_
    refine i_iastN B 5 10 (mW E h q g (va_up a 9 (upd (a 9) 10 x))) rfl rfl (by decide) (by decide) rfl dX9_base_42 ?_
    refine i_aload_n B 1 dX9_base_43 rfl ?_
    refine i_get (v := .ref (q 10)) B flX9_32 0 rfl rfl dX9_base_44 ?_
    refine i_bipush (v := 10) B dX9_base_47 (by decide) ?_
    refine i_iload_n B 3 dX9_base_49 rfl ?_
    refine i_iastN B 6 10 (mW E h q g (va_up (va_up a 9 (upd (a 9) 10 x)) 10 (upd (a 10) 10 y))) rfl rfl (by decide) (by decide) rfl dX9_base_50 ?_
    refine i_iload_n B 0 dX9_base_51 rfl ?_
    exact ret _ _ _ (va_up (va_up a 9 (upd (a 9) 10 x)) 10 (upd (a 10) 10 y)) rfl dX9_base_52 (by simp only [baseF, h1, decide_true, decide_false, Bool.not_true, Bool.not_false, Bool.true_and, Bool.false_and, Bool.and_true, Bool.and_false, Bool.true_or, Bool.or_true, Bool.false_or, Bool.or_false, Bool.and_self, Bool.or_self, bI_t, bI_f, if_true, if_false, ite_true, ite_false, Bool.false_eq_true, Bool.true_eq_false, eq_self, reduceIte, true_or, or_true, false_or, or_false, and_true, true_and, and_false, false_and, not_true_eq_false, not_false_eq_true, decide_eq_true_eq, decide_eq_false_iff_not])
  · replace h1 := bI_n.mp h1
    replace h1 : pt x y = false := by simpa using h1
    refine i_bipush (v := (-2)) B dX9_base_13 (by decide) ?_
    exact ret _ _ _ a rfl dX9_base_15 (by simp only [baseF, h1, decide_true, decide_false, Bool.not_true, Bool.not_false, Bool.true_and, Bool.false_and, Bool.and_true, Bool.and_false, Bool.true_or, Bool.or_true, Bool.false_or, Bool.or_false, Bool.and_self, Bool.or_self, bI_t, bI_f, if_true, if_false, ite_true, ite_false, Bool.false_eq_true, Bool.true_eq_false, eq_self, reduceIte, true_or, or_true, false_or, or_false, and_true, true_and, and_false, false_and, not_true_eq_false, not_false_eq_true, decide_eq_true_eq, decide_eq_false_iff_not])

set_option maxHeartbeats 4000000 in
set_option maxRecDepth 100000 in
theorem k_X9_log (l : Launch) (E : ED) (h : Nat) (q : Nat → Nat) (g : Nat → Int32) (a : Nat → Nat → Int32) (nl : Nat) (hl : g 20 = nI nl) (hnl : nl ≤ 20) (x y e : Int32) : WR l E yX9_log cX9_log 4 .int 2 46 0 0 [.ref h, .int x, .int y, .int e] (mW E h q g a) (fun r u => (r, u) = logF g a nl x y e) (fun u : GA => mW E h q u.1 u.2) := by
  refine WR.mk (by decide) (Nat.le_of_ble_eq_true rfl) [(0, .ref h), (1, .int x), (2, .int y), (3, .int e)] rfl (fun Z B ret => ?_)
  refine i_aload_n B 0 dX9_log_0 rfl ?_
  refine i_iconst (v := 0) B dX9_log_1 (by decide) ?_
  refine i_put B flX9_99 0 (mW E h q g a) rfl rfl rfl rfl (Nat.le_of_ble_eq_true rfl) rfl dX9_log_2 ?_
  refine i_iload_n B 1 dX9_log_5 rfl ?_
  refine i_iload_n B 2 dX9_log_6 rfl ?_
  refine c_roS (rest := []) (As := [.int x, .int y]) B (k_X9_noPoint l E x y) cal_yX9_noPoint is_yX9_noPoint mlX9_134 (by decide) (by decide) rfl (Nat.le_of_ble_eq_true rfl) Has.nil _ rfl dX9_log_7 (fun r hr => ?_)
  subst hr
  refine i_val (v' := .int (bI (!pt x y))) rfl ?_
  refine i_if_ne B 25 dX9_log_10 (by decide) (fun h1 => ?_) (fun h1 => ?_)
  · replace h1 := bI_n.mp h1
    replace h1 : pt x y = false := by simpa using h1
    refine i_bipush (v := (-2)) B dX9_log_25 (by decide) ?_
    exact ret _ _ _ (g, a) rfl dX9_log_27 (by simp only [logF, nI_pred, h1, decide_true, decide_false, Bool.not_true, Bool.not_false, Bool.true_and, Bool.false_and, Bool.and_true, Bool.and_false, Bool.true_or, Bool.or_true, Bool.false_or, Bool.or_false, Bool.and_self, Bool.or_self, bI_t, bI_f, if_true, if_false, ite_true, ite_false, Bool.false_eq_true, Bool.true_eq_false, eq_self, reduceIte, true_or, or_true, false_or, or_false, and_true, true_and, and_false, false_and, not_true_eq_false, not_false_eq_true, decide_eq_true_eq, decide_eq_false_iff_not])
  · replace h1 := bI_0.mp h1
    replace h1 : pt x y = true := by simpa using h1
    refine i_iload_n B 3 dX9_log_13 rfl ?_
    refine i_i2l B dX9_log_14 ?_
    refine i_lconst (v := 0) B dX9_log_15 (by decide) ?_
    refine i_ldc2 B ckX9_202 dX9_log_16 ?_
    refine c_roS (rest := []) (As := [.long (Int32.toInt64 e), .long 0, .long 5]) B (k_X9_in l E (Int32.toInt64 e) 0 5) cal_yX9_in is_yX9_in mlX9_104 (by decide) (by decide) rfl (Nat.le_of_ble_eq_true rfl) Has.nil _ rfl dX9_log_19 (fun r hr => ?_)
    subst hr
    refine i_val (v' := .int (bI (wit e 0 5))) (congrArg (fun z => Value.int (bI z)) (pin_i e 0 5)) ?_
    refine i_if_ne B 28 dX9_log_22 (by decide) (fun h2 => ?_) (fun h2 => ?_)
    · replace h2 := bI_n.mp h2
      refine i_aload_n B 0 dX9_log_28 rfl ?_
      refine i_get (v := .int (g 20)) B flX9_204 0 rfl rfl dX9_log_29 ?_
      refine i_bipush (v := 20) B dX9_log_32 (by decide) ?_
      refine i_icmp_ne B 40 dX9_log_34 (by decide) (fun h3 => ?_) (fun h3 => ?_)
      · rw [hl, show (20 : Int32) = nI 20 from rfl, nI_eq (by omega) (by omega)] at h3
        have h3d := decide_eq_false h3
        refine i_aload_n B 0 dX9_log_40 rfl ?_
        refine i_get (v := .ref (q 21)) B flX9_50 0 rfl rfl dX9_log_41 ?_
        refine i_aload_n B 0 dX9_log_44 rfl ?_
        refine i_get (v := .int (g 20)) B flX9_204 0 rfl rfl dX9_log_45 ?_
        refine i_iload_n B 1 dX9_log_48 rfl ?_
        refine i_iastN B 11 nl (mW E h q g (va_up a 21 (upd (a 21) nl x))) rfl hl (by omega) (by decide) rfl dX9_log_49 ?_
        refine i_aload_n B 0 dX9_log_50 rfl ?_
        refine i_get (v := .ref (q 22)) B flX9_53 0 rfl rfl dX9_log_51 ?_
        refine i_aload_n B 0 dX9_log_54 rfl ?_
        refine i_get (v := .int (g 20)) B flX9_204 0 rfl rfl dX9_log_55 ?_
        refine i_iload_n B 2 dX9_log_58 rfl ?_
        refine i_iastN B 12 nl (mW E h q g (va_up (va_up a 21 (upd (a 21) nl x)) 22 (upd (a 22) nl y))) rfl hl (by omega) (by decide) rfl dX9_log_59 ?_
        refine i_aload_n B 0 dX9_log_60 rfl ?_
        refine i_get (v := .ref (q 23)) B flX9_56 0 rfl rfl dX9_log_61 ?_
        refine i_aload_n B 0 dX9_log_64 rfl ?_
        refine i_get (v := .int (g 20)) B flX9_204 0 rfl rfl dX9_log_65 ?_
        refine i_iload_n B 3 dX9_log_68 rfl ?_
        refine i_iastN B 13 nl (mW E h q g (va_up (va_up (va_up a 21 (upd (a 21) nl x)) 22 (upd (a 22) nl y)) 23 (upd (a 23) nl e))) rfl hl (by omega) (by decide) rfl dX9_log_69 ?_
        refine i_aload_n B 0 dX9_log_70 rfl ?_
        refine i_dup B dX9_log_71 rfl ?_
        refine i_get (v := .int (g 20)) B flX9_204 0 rfl rfl dX9_log_72 ?_
        refine i_iconst (v := 1) B dX9_log_75 (by decide) ?_
        refine i_iadd B dX9_log_76 ?_
        refine i_val (v' := .int (nI (nl + 1))) (congrArg Value.int (by rw [hl]; exact nI_1 _)) ?_
        refine i_put B flX9_204 0 (mW E h q (upd g 20 (nI (nl + 1))) (va_up (va_up (va_up a 21 (upd (a 21) nl x)) 22 (upd (a 22) nl y)) 23 (upd (a 23) nl e))) rfl rfl rfl rfl (Nat.le_of_ble_eq_true rfl) rfl dX9_log_77 ?_
        refine i_aload_n B 0 dX9_log_80 rfl ?_
        refine i_get (v := .int (nI (nl + 1))) B flX9_204 0 rfl rfl dX9_log_81 ?_
        refine i_iconst (v := 1) B dX9_log_84 (by decide) ?_
        refine i_isub B dX9_log_85 ?_
        exact ret _ _ _ ((upd g 20 (nI (nl + 1))), (va_up (va_up (va_up a 21 (upd (a 21) nl x)) 22 (upd (a 22) nl y)) 23 (upd (a 23) nl e))) rfl dX9_log_86 (by simp only [logF, nI_pred, h1, h2, h3d, decide_true, decide_false, Bool.not_true, Bool.not_false, Bool.true_and, Bool.false_and, Bool.and_true, Bool.and_false, Bool.true_or, Bool.or_true, Bool.false_or, Bool.or_false, Bool.and_self, Bool.or_self, bI_t, bI_f, if_true, if_false, ite_true, ite_false, Bool.false_eq_true, Bool.true_eq_false, eq_self, reduceIte, true_or, or_true, false_or, or_false, and_true, true_and, and_false, false_and, not_true_eq_false, not_false_eq_true, decide_eq_true_eq, decide_eq_false_iff_not])
      · rw [hl, show (20 : Int32) = nI 20 from rfl, nI_eq (by omega) (by omega)] at h3
        have h3d := decide_eq_true h3
        refine i_bipush (v := (-4)) B dX9_log_37 (by decide) ?_
        exact ret _ _ _ (g, a) rfl dX9_log_39 (by simp only [logF, nI_pred, h1, h2, h3d, decide_true, decide_false, Bool.not_true, Bool.not_false, Bool.true_and, Bool.false_and, Bool.and_true, Bool.and_false, Bool.true_or, Bool.or_true, Bool.false_or, Bool.or_false, Bool.and_self, Bool.or_self, bI_t, bI_f, if_true, if_false, ite_true, ite_false, Bool.false_eq_true, Bool.true_eq_false, eq_self, reduceIte, true_or, or_true, false_or, or_false, and_true, true_and, and_false, false_and, not_true_eq_false, not_false_eq_true, decide_eq_true_eq, decide_eq_false_iff_not])
    · replace h2 := bI_0.mp h2
      refine i_bipush (v := (-2)) B dX9_log_25 (by decide) ?_
      exact ret _ _ _ (g, a) rfl dX9_log_27 (by simp only [logF, nI_pred, h1, h2, decide_true, decide_false, Bool.not_true, Bool.not_false, Bool.true_and, Bool.false_and, Bool.and_true, Bool.and_false, Bool.true_or, Bool.or_true, Bool.false_or, Bool.or_false, Bool.and_self, Bool.or_self, bI_t, bI_f, if_true, if_false, ite_true, ite_false, Bool.false_eq_true, Bool.true_eq_false, eq_self, reduceIte, true_or, or_true, false_or, or_false, and_true, true_and, and_false, false_and, not_true_eq_false, not_false_eq_true, decide_eq_true_eq, decide_eq_false_iff_not])

set_option maxHeartbeats 4000000 in
set_option maxRecDepth 100000 in
theorem k_X9_mark (l : Launch) (E : ED) (h : Nat) (q : Nat → Nat) (g : Nat → Int32) (a : Nat → Nat → Int32) (nm : Nat) (hm : g 24 = nI nm) (hnm : nm ≤ 40) (p at_ len yr : Int32) : WR l E yX9_mark cX9_mark 5 .int 2 46 0 0 [.ref h, .int p, .int at_, .int len, .int yr] (mW E h q g a) (fun r u => (r, u) = markF g a nm p at_ len yr) (fun u : GA => mW E h q u.1 u.2) := by
  refine WR.mk (by decide) (Nat.le_of_ble_eq_true rfl) [(0, .ref h), (1, .int p), (2, .int at_), (3, .int len), (4, .int yr)] rfl (fun Z B ret => ?_)
  refine i_aload_n B 0 dX9_mark_0 rfl ?_
  refine i_iconst (v := 0) B dX9_mark_1 (by decide) ?_
  refine i_put B flX9_99 0 (mW E h q g a) rfl rfl rfl rfl (Nat.le_of_ble_eq_true rfl) rfl dX9_mark_2 ?_
  refine i_aload_n B 0 dX9_mark_5 rfl ?_
  refine i_iload_n B 1 dX9_mark_6 rfl ?_
  refine c_roV (rest := []) (As := [.int p]) B (k_X9_noPanel l E h q g a p) cal_yX9_noPanel iv_yX9_noPanel mlX9_140 rfl 0 rfl (by decide) (by decide) rfl (Nat.le_of_ble_eq_true rfl) Has.rf _ rfl dX9_mark_7 (fun r hr => ?_)
  subst hr
  refine i_val (v' := .int (bI (!wit p 0 ((g 1) - 1)))) rfl ?_
  refine i_if_eq B 15 dX9_mark_10 (by decide) (fun h1 => ?_) (fun h1 => ?_)
  · replace h1 := bI_0.mp h1
    replace h1 : wit p 0 ((g 1) - 1) = true := by simpa using h1
    refine i_iload_n B 2 dX9_mark_15 rfl ?_
    refine i_i2l B dX9_mark_16 ?_
    refine i_lconst (v := 0) B dX9_mark_17 (by decide) ?_
    refine i_ldc2 B ckX9_213 dX9_mark_18 ?_
    refine c_roS (rest := []) (As := [.long (Int32.toInt64 at_), .long 0, .long 1000]) B (k_X9_in l E (Int32.toInt64 at_) 0 1000) cal_yX9_in is_yX9_in mlX9_104 (by decide) (by decide) rfl (Nat.le_of_ble_eq_true rfl) Has.nil _ rfl dX9_mark_21 (fun r hr => ?_)
    subst hr
    refine i_val (v' := .int (bI (wit at_ 0 1000))) (congrArg (fun z => Value.int (bI z)) (pin_i at_ 0 1000)) ?_
    refine i_if_eq B 52 dX9_mark_24 (by decide) (fun h2 => ?_) (fun h2 => ?_)
    · replace h2 := bI_0.mp h2
      refine i_bipush (v := (-2)) B dX9_mark_52 (by decide) ?_
      exact ret _ _ _ (g, a) rfl dX9_mark_54 (by simp only [markF, nI_pred, h1, h2, decide_true, decide_false, Bool.not_true, Bool.not_false, Bool.true_and, Bool.false_and, Bool.and_true, Bool.and_false, Bool.true_or, Bool.or_true, Bool.false_or, Bool.or_false, Bool.and_self, Bool.or_self, bI_t, bI_f, if_true, if_false, ite_true, ite_false, Bool.false_eq_true, Bool.true_eq_false, eq_self, reduceIte, true_or, or_true, false_or, or_false, and_true, true_and, and_false, false_and, not_true_eq_false, not_false_eq_true, decide_eq_true_eq, decide_eq_false_iff_not])
    · replace h2 := bI_n.mp h2
      refine i_iload_n B 3 dX9_mark_27 rfl ?_
      refine i_i2l B dX9_mark_28 ?_
      refine i_lconst (v := 0) B dX9_mark_29 (by decide) ?_
      refine i_ldc2 B ckX9_185 dX9_mark_30 ?_
      refine c_roS (rest := []) (As := [.long (Int32.toInt64 len), .long 0, .long 500]) B (k_X9_in l E (Int32.toInt64 len) 0 500) cal_yX9_in is_yX9_in mlX9_104 (by decide) (by decide) rfl (Nat.le_of_ble_eq_true rfl) Has.nil _ rfl dX9_mark_33 (fun r hr => ?_)
      subst hr
      refine i_val (v' := .int (bI (wit len 0 500))) (congrArg (fun z => Value.int (bI z)) (pin_i len 0 500)) ?_
      refine i_if_eq B 52 dX9_mark_36 (by decide) (fun h3 => ?_) (fun h3 => ?_)
      · replace h3 := bI_0.mp h3
        refine i_bipush (v := (-2)) B dX9_mark_52 (by decide) ?_
        exact ret _ _ _ (g, a) rfl dX9_mark_54 (by simp only [markF, nI_pred, h1, h2, h3, decide_true, decide_false, Bool.not_true, Bool.not_false, Bool.true_and, Bool.false_and, Bool.and_true, Bool.and_false, Bool.true_or, Bool.or_true, Bool.false_or, Bool.or_false, Bool.and_self, Bool.or_self, bI_t, bI_f, if_true, if_false, ite_true, ite_false, Bool.false_eq_true, Bool.true_eq_false, eq_self, reduceIte, true_or, or_true, false_or, or_false, and_true, true_and, and_false, false_and, not_true_eq_false, not_false_eq_true, decide_eq_true_eq, decide_eq_false_iff_not])
      · replace h3 := bI_n.mp h3
        refine i_iload B 4 dX9_mark_39 rfl ?_
        refine i_i2l B dX9_mark_41 ?_
        refine i_lconst (v := 0) B dX9_mark_42 (by decide) ?_
        refine i_ldc2 B ckX9_181 dX9_mark_43 ?_
        refine c_roS (rest := []) (As := [.long (Int32.toInt64 yr), .long 0, .long 9]) B (k_X9_in l E (Int32.toInt64 yr) 0 9) cal_yX9_in is_yX9_in mlX9_104 (by decide) (by decide) rfl (Nat.le_of_ble_eq_true rfl) Has.nil _ rfl dX9_mark_46 (fun r hr => ?_)
        subst hr
        refine i_val (v' := .int (bI (wit yr 0 9))) (congrArg (fun z => Value.int (bI z)) (pin_i yr 0 9)) ?_
        refine i_if_ne B 55 dX9_mark_49 (by decide) (fun h4 => ?_) (fun h4 => ?_)
        · replace h4 := bI_n.mp h4
          refine i_aload_n B 0 dX9_mark_55 rfl ?_
          refine i_get (v := .int (g 24)) B flX9_215 0 rfl rfl dX9_mark_56 ?_
          refine i_bipush (v := 40) B dX9_mark_59 (by decide) ?_
          refine i_icmp_ne B 67 dX9_mark_61 (by decide) (fun h5 => ?_) (fun h5 => ?_)
          · rw [hm, show (40 : Int32) = nI 40 from rfl, nI_eq (by omega) (by omega)] at h5
            have h5d := decide_eq_false h5
            refine i_aload_n B 0 dX9_mark_67 rfl ?_
            refine i_get (v := .ref (q 25)) B flX9_59 0 rfl rfl dX9_mark_68 ?_
            refine i_aload_n B 0 dX9_mark_71 rfl ?_
            refine i_get (v := .int (g 24)) B flX9_215 0 rfl rfl dX9_mark_72 ?_
            refine i_iload_n B 1 dX9_mark_75 rfl ?_
            refine i_iastN B 14 nm (mW E h q g (va_up a 25 (upd (a 25) nm p))) rfl hm (by omega) (by decide) rfl dX9_mark_76 ?_
            refine i_aload_n B 0 dX9_mark_77 rfl ?_
            refine i_get (v := .ref (q 26)) B flX9_62 0 rfl rfl dX9_mark_78 ?_
            refine i_aload_n B 0 dX9_mark_81 rfl ?_
            refine i_get (v := .int (g 24)) B flX9_215 0 rfl rfl dX9_mark_82 ?_
            refine i_iload_n B 2 dX9_mark_85 rfl ?_
            refine i_iastN B 15 nm (mW E h q g (va_up (va_up a 25 (upd (a 25) nm p)) 26 (upd (a 26) nm at_))) rfl hm (by omega) (by decide) rfl dX9_mark_86 ?_
            refine i_aload_n B 0 dX9_mark_87 rfl ?_
            refine i_get (v := .ref (q 27)) B flX9_65 0 rfl rfl dX9_mark_88 ?_
            refine i_aload_n B 0 dX9_mark_91 rfl ?_
            refine i_get (v := .int (g 24)) B flX9_215 0 rfl rfl dX9_mark_92 ?_
            refine i_iload_n B 3 dX9_mark_95 rfl ?_
            refine i_iastN B 16 nm (mW E h q g (va_up (va_up (va_up a 25 (upd (a 25) nm p)) 26 (upd (a 26) nm at_)) 27 (upd (a 27) nm len))) rfl hm (by omega) (by decide) rfl dX9_mark_96 ?_
            refine i_aload_n B 0 dX9_mark_97 rfl ?_
            refine i_get (v := .ref (q 28)) B flX9_68 0 rfl rfl dX9_mark_98 ?_
            refine i_aload_n B 0 dX9_mark_101 rfl ?_
            refine i_get (v := .int (g 24)) B flX9_215 0 rfl rfl dX9_mark_102 ?_
            refine i_iload B 4 dX9_mark_105 rfl ?_
            refine i_iastN B 17 nm (mW E h q g (va_up (va_up (va_up (va_up a 25 (upd (a 25) nm p)) 26 (upd (a 26) nm at_)) 27 (upd (a 27) nm len)) 28 (upd (a 28) nm yr))) rfl hm (by omega) (by decide) rfl dX9_mark_107 ?_
            refine i_aload_n B 0 dX9_mark_108 rfl ?_
            refine i_dup B dX9_mark_109 rfl ?_
            refine i_get (v := .int (g 24)) B flX9_215 0 rfl rfl dX9_mark_110 ?_
            refine i_iconst (v := 1) B dX9_mark_113 (by decide) ?_
            refine i_iadd B dX9_mark_114 ?_
            refine i_val (v' := .int (nI (nm + 1))) (congrArg Value.int (by rw [hm]; exact nI_1 _)) ?_
            refine i_put B flX9_215 0 (mW E h q (upd g 24 (nI (nm + 1))) (va_up (va_up (va_up (va_up a 25 (upd (a 25) nm p)) 26 (upd (a 26) nm at_)) 27 (upd (a 27) nm len)) 28 (upd (a 28) nm yr))) rfl rfl rfl rfl (Nat.le_of_ble_eq_true rfl) rfl dX9_mark_115 ?_
            refine i_aload_n B 0 dX9_mark_118 rfl ?_
            refine i_get (v := .int (nI (nm + 1))) B flX9_215 0 rfl rfl dX9_mark_119 ?_
            refine i_iconst (v := 1) B dX9_mark_122 (by decide) ?_
            refine i_isub B dX9_mark_123 ?_
            exact ret _ _ _ ((upd g 24 (nI (nm + 1))), (va_up (va_up (va_up (va_up a 25 (upd (a 25) nm p)) 26 (upd (a 26) nm at_)) 27 (upd (a 27) nm len)) 28 (upd (a 28) nm yr))) rfl dX9_mark_124 (by simp only [markF, nI_pred, h1, h2, h3, h4, h5d, decide_true, decide_false, Bool.not_true, Bool.not_false, Bool.true_and, Bool.false_and, Bool.and_true, Bool.and_false, Bool.true_or, Bool.or_true, Bool.false_or, Bool.or_false, Bool.and_self, Bool.or_self, bI_t, bI_f, if_true, if_false, ite_true, ite_false, Bool.false_eq_true, Bool.true_eq_false, eq_self, reduceIte, true_or, or_true, false_or, or_false, and_true, true_and, and_false, false_and, not_true_eq_false, not_false_eq_true, decide_eq_true_eq, decide_eq_false_iff_not])
          · rw [hm, show (40 : Int32) = nI 40 from rfl, nI_eq (by omega) (by omega)] at h5
            have h5d := decide_eq_true h5
            refine i_bipush (v := (-4)) B dX9_mark_64 (by decide) ?_
            exact ret _ _ _ (g, a) rfl dX9_mark_66 (by simp only [markF, nI_pred, h1, h2, h3, h4, h5d, decide_true, decide_false, Bool.not_true, Bool.not_false, Bool.true_and, Bool.false_and, Bool.and_true, Bool.and_false, Bool.true_or, Bool.or_true, Bool.false_or, Bool.or_false, Bool.and_self, Bool.or_self, bI_t, bI_f, if_true, if_false, ite_true, ite_false, Bool.false_eq_true, Bool.true_eq_false, eq_self, reduceIte, true_or, or_true, false_or, or_false, and_true, true_and, and_false, false_and, not_true_eq_false, not_false_eq_true, decide_eq_true_eq, decide_eq_false_iff_not])
        · replace h4 := bI_0.mp h4
          refine i_bipush (v := (-2)) B dX9_mark_52 (by decide) ?_
          exact ret _ _ _ (g, a) rfl dX9_mark_54 (by simp only [markF, nI_pred, h1, h2, h3, h4, decide_true, decide_false, Bool.not_true, Bool.not_false, Bool.true_and, Bool.false_and, Bool.and_true, Bool.and_false, Bool.true_or, Bool.or_true, Bool.false_or, Bool.or_false, Bool.and_self, Bool.or_self, bI_t, bI_f, if_true, if_false, ite_true, ite_false, Bool.false_eq_true, Bool.true_eq_false, eq_self, reduceIte, true_or, or_true, false_or, or_false, and_true, true_and, and_false, false_and, not_true_eq_false, not_false_eq_true, decide_eq_true_eq, decide_eq_false_iff_not])
  · replace h1 := bI_n.mp h1
    replace h1 : wit p 0 ((g 1) - 1) = false := by simpa using h1
    refine i_iconst (v := (-1)) B dX9_mark_13 (by decide) ?_
    exact ret _ _ _ (g, a) rfl dX9_mark_14 (by simp only [markF, nI_pred, h1, decide_true, decide_false, Bool.not_true, Bool.not_false, Bool.true_and, Bool.false_and, Bool.and_true, Bool.and_false, Bool.true_or, Bool.or_true, Bool.false_or, Bool.or_false, Bool.and_self, Bool.or_self, bI_t, bI_f, if_true, if_false, ite_true, ite_false, Bool.false_eq_true, Bool.true_eq_false, eq_self, reduceIte, true_or, or_true, false_or, or_false, and_true, true_and, and_false, false_and, not_true_eq_false, not_false_eq_true, decide_eq_true_eq, decide_eq_false_iff_not])

set_option maxHeartbeats 4000000 in
set_option maxRecDepth 100000 in
theorem k_X9_wipe (l : Launch) (E : ED) (h : Nat) (q : Nat → Nat) (g : Nat → Int32) (a : Nat → Nat → Int32) (nm : Nat) (hm : g 24 = nI nm) (hnm : nm ≤ 40) (m : Int32) : WR l E yX9_wipe cX9_wipe 2 .int 1 25 0 0 [.ref h, .int m] (mW E h q g a) (fun r u => (r, u) = wipeF g a m) (fun u => mW E h q g u) := by
  refine WR.mk (by decide) (Nat.le_of_ble_eq_true rfl) [(0, .ref h), (1, .int m)] rfl (fun Z B ret => ?_)
  refine i_aload_n B 0 dX9_wipe_0 rfl ?_
  refine i_iconst (v := 0) B dX9_wipe_1 (by decide) ?_
  refine i_put B flX9_99 0 (mW E h q g a) rfl rfl rfl rfl (Nat.le_of_ble_eq_true rfl) rfl dX9_wipe_2 ?_
  refine i_iload_n B 1 dX9_wipe_5 rfl ?_
  refine i_i2l B dX9_wipe_6 ?_
  refine i_lconst (v := 0) B dX9_wipe_7 (by decide) ?_
  refine i_aload_n B 0 dX9_wipe_8 rfl ?_
  refine i_get (v := .int (g 24)) B flX9_215 0 rfl rfl dX9_wipe_9 ?_
  refine i_iconst (v := 1) B dX9_wipe_12 (by decide) ?_
  refine i_isub B dX9_wipe_13 ?_
  refine i_i2l B dX9_wipe_14 ?_
  refine c_roS (rest := []) (As := [.long (Int32.toInt64 m), .long 0, .long (Int32.toInt64 ((g 24) - 1))]) B (k_X9_in l E (Int32.toInt64 m) 0 (Int32.toInt64 ((g 24) - 1))) cal_yX9_in is_yX9_in mlX9_104 (by decide) (by decide) rfl (Nat.le_of_ble_eq_true rfl) Has.nil _ rfl dX9_wipe_15 (fun r hr => ?_)
  subst hr
  refine i_val (v' := .int (bI (wit m 0 ((g 24) - 1)))) (congrArg (fun z => Value.int (bI z)) (pin_i m 0 ((g 24) - 1))) ?_
  refine i_if_ne B 23 dX9_wipe_18 (by decide) (fun h1 => ?_) (fun h1 => ?_)
  · replace h1 := bI_n.mp h1
    obtain ⟨j, hj, rfl⟩ := wit_ix (n := nm) (by omega) (by rw [← hm]; exact h1)
    refine i_aload_n B 0 dX9_wipe_23 rfl ?_
    refine i_get (v := .ref (q 29)) B flX9_71 0 rfl rfl dX9_wipe_24 ?_
    refine i_iload_n B 1 dX9_wipe_27 rfl ?_
    refine i_zaldN B 18 j rfl rfl (by omega) (by decide) dX9_wipe_28 ?_
    refine i_if_eq B 35 dX9_wipe_29 (by decide) (fun h2 => ?_) (fun h2 => ?_)
    · have h2d := decide_eq_true h2
      refine i_aload_n B 0 dX9_wipe_35 rfl ?_
      refine i_get (v := .ref (q 29)) B flX9_71 0 rfl rfl dX9_wipe_36 ?_
      refine i_iload_n B 1 dX9_wipe_39 rfl ?_
      refine i_iconst (v := 1) B dX9_wipe_40 (by decide) ?_
      refine i_zastN B 18 j (mW E h q g (va_up a 29 (upd (a 29) j 1))) rfl rfl (by omega) (by decide) rfl dX9_wipe_41 ?_
      refine i_iconst (v := 1) B dX9_wipe_42 (by decide) ?_
      exact ret _ _ _ (va_up a 29 (upd (a 29) j 1)) rfl dX9_wipe_43 (by simp only [wipeF, ix_nI (show j < 2 ^ 31 by omega), h1, h2d, decide_true, decide_false, Bool.not_true, Bool.not_false, Bool.true_and, Bool.false_and, Bool.and_true, Bool.and_false, Bool.true_or, Bool.or_true, Bool.false_or, Bool.or_false, Bool.and_self, Bool.or_self, bI_t, bI_f, if_true, if_false, ite_true, ite_false, Bool.false_eq_true, Bool.true_eq_false, eq_self, reduceIte, true_or, or_true, false_or, or_false, and_true, true_and, and_false, false_and, not_true_eq_false, not_false_eq_true, decide_eq_true_eq, decide_eq_false_iff_not])
    · have h2d := decide_eq_false h2
      refine i_bipush (v := (-3)) B dX9_wipe_32 (by decide) ?_
      exact ret _ _ _ a rfl dX9_wipe_34 (by simp only [wipeF, ix_nI (show j < 2 ^ 31 by omega), h1, h2d, decide_true, decide_false, Bool.not_true, Bool.not_false, Bool.true_and, Bool.false_and, Bool.and_true, Bool.and_false, Bool.true_or, Bool.or_true, Bool.false_or, Bool.or_false, Bool.and_self, Bool.or_self, bI_t, bI_f, if_true, if_false, ite_true, ite_false, Bool.false_eq_true, Bool.true_eq_false, eq_self, reduceIte, true_or, or_true, false_or, or_false, and_true, true_and, and_false, false_and, not_true_eq_false, not_false_eq_true, decide_eq_true_eq, decide_eq_false_iff_not])
  · replace h1 := bI_0.mp h1
    refine i_iconst (v := (-1)) B dX9_wipe_21 (by decide) ?_
    exact ret _ _ _ a rfl dX9_wipe_22 (by simp only [wipeF, h1, decide_true, decide_false, Bool.not_true, Bool.not_false, Bool.true_and, Bool.false_and, Bool.and_true, Bool.and_false, Bool.true_or, Bool.or_true, Bool.false_or, Bool.or_false, Bool.and_self, Bool.or_self, bI_t, bI_f, if_true, if_false, ite_true, ite_false, Bool.false_eq_true, Bool.true_eq_false, eq_self, reduceIte, true_or, or_true, false_or, or_false, and_true, true_and, and_false, false_and, not_true_eq_false, not_false_eq_true, decide_eq_true_eq, decide_eq_false_iff_not])

set_option maxHeartbeats 4000000 in
set_option maxRecDepth 100000 in
theorem k_X9_isOn (l : Launch) (E : ED) (h : Nat) (q : Nat → Nat) (g : Nat → Int32) (a : Nat → Nat → Int32) (k : Nat) (hk : k < 40) (p y : Int32) : RO l E yX9_isOn cX9_isOn 4 .boolean 0 0 [.ref h, .int (nI k), .int p, .int y] (mW E h q g a) (fun r => r = bI (onF a k p y)) := by
  refine RO.mk (by decide) (Nat.le_of_ble_eq_true rfl) [(0, .ref h), (1, .int (nI k)), (2, .int p), (3, .int y)] rfl (fun Z B ret => ?_)
  refine i_aload_n B 0 dX9_isOn_0 rfl ?_
  refine i_get (v := .ref (q 29)) B flX9_71 0 rfl rfl dX9_isOn_1 ?_
  refine i_iload_n B 1 dX9_isOn_4 rfl ?_
  refine i_zaldN B 18 k rfl rfl (by omega) (by decide) dX9_isOn_5 ?_
  refine i_if_ne B 33 dX9_isOn_6 (by decide) (fun h1 => ?_) (fun h1 => ?_)
  · have h1d := decide_eq_false h1
    refine i_iconst (v := 0) B dX9_isOn_33 (by decide) ?_
    exact ret _ _ _ (by decide) dX9_isOn_34 (by simp only [onF, h1d, decide_true, decide_false, Bool.not_true, Bool.not_false, Bool.true_and, Bool.false_and, Bool.and_true, Bool.and_false, Bool.true_or, Bool.or_true, Bool.false_or, Bool.or_false, Bool.and_self, Bool.or_self, bI_t, bI_f, if_true, if_false, ite_true, ite_false, Bool.false_eq_true, Bool.true_eq_false, eq_self, reduceIte, true_or, or_true, false_or, or_false, and_true, true_and, and_false, false_and, not_true_eq_false, not_false_eq_true, decide_eq_true_eq, decide_eq_false_iff_not])
  · have h1d := decide_eq_true h1
    refine i_aload_n B 0 dX9_isOn_9 rfl ?_
    refine i_get (v := .ref (q 25)) B flX9_59 0 rfl rfl dX9_isOn_10 ?_
    refine i_iload_n B 1 dX9_isOn_13 rfl ?_
    refine i_ialdN B 14 k rfl rfl (by omega) (by decide) dX9_isOn_14 ?_
    refine i_iload_n B 2 dX9_isOn_15 rfl ?_
    refine i_icmp_ne B 33 dX9_isOn_16 (by decide) (fun h2 => ?_) (fun h2 => ?_)
    · have h2d := decide_eq_false h2
      refine i_iconst (v := 0) B dX9_isOn_33 (by decide) ?_
      exact ret _ _ _ (by decide) dX9_isOn_34 (by simp only [onF, h1d, h2d, decide_true, decide_false, Bool.not_true, Bool.not_false, Bool.true_and, Bool.false_and, Bool.and_true, Bool.and_false, Bool.true_or, Bool.or_true, Bool.false_or, Bool.or_false, Bool.and_self, Bool.or_self, bI_t, bI_f, if_true, if_false, ite_true, ite_false, Bool.false_eq_true, Bool.true_eq_false, eq_self, reduceIte, true_or, or_true, false_or, or_false, and_true, true_and, and_false, false_and, not_true_eq_false, not_false_eq_true, decide_eq_true_eq, decide_eq_false_iff_not])
    · have h2d := decide_eq_true h2
      refine i_aload_n B 0 dX9_isOn_19 rfl ?_
      refine i_get (v := .ref (q 28)) B flX9_68 0 rfl rfl dX9_isOn_20 ?_
      refine i_iload_n B 1 dX9_isOn_23 rfl ?_
      refine i_ialdN B 17 k rfl rfl (by omega) (by decide) dX9_isOn_24 ?_
      refine i_iload_n B 3 dX9_isOn_25 rfl ?_
      refine i_icmp_ne B 33 dX9_isOn_26 (by decide) (fun h3 => ?_) (fun h3 => ?_)
      · have h3d := decide_eq_false h3
        refine i_iconst (v := 0) B dX9_isOn_33 (by decide) ?_
        exact ret _ _ _ (by decide) dX9_isOn_34 (by simp only [onF, h1d, h2d, h3d, decide_true, decide_false, Bool.not_true, Bool.not_false, Bool.true_and, Bool.false_and, Bool.and_true, Bool.and_false, Bool.true_or, Bool.or_true, Bool.false_or, Bool.or_false, Bool.and_self, Bool.or_self, bI_t, bI_f, if_true, if_false, ite_true, ite_false, Bool.false_eq_true, Bool.true_eq_false, eq_self, reduceIte, true_or, or_true, false_or, or_false, and_true, true_and, and_false, false_and, not_true_eq_false, not_false_eq_true, decide_eq_true_eq, decide_eq_false_iff_not])
      · have h3d := decide_eq_true h3
        refine i_iconst (v := 1) B dX9_isOn_29 (by decide) ?_
        refine i_goto B 34 dX9_isOn_30 (by decide) ?_
        exact ret _ _ _ (by decide) dX9_isOn_34 (by simp only [onF, h1d, h2d, h3d, decide_true, decide_false, Bool.not_true, Bool.not_false, Bool.true_and, Bool.false_and, Bool.and_true, Bool.and_false, Bool.true_or, Bool.or_true, Bool.false_or, Bool.or_false, Bool.and_self, Bool.or_self, bI_t, bI_f, if_true, if_false, ite_true, ite_false, Bool.false_eq_true, Bool.true_eq_false, eq_self, reduceIte, true_or, or_true, false_or, or_false, and_true, true_and, and_false, false_and, not_true_eq_false, not_false_eq_true, decide_eq_true_eq, decide_eq_false_iff_not])

set_option maxHeartbeats 4000000 in
set_option maxRecDepth 100000 in
theorem k_X9_marks (l : Launch) (E : ED) (h : Nat) (q : Nat → Nat) (g : Nat → Int32) (a : Nat → Nat → Int32) (nm : Nat) (hm : g 24 = nI nm) (hnm : nm ≤ 40) (p y z : Int32) : WR l E yX9_marks cX9_marks 6 .int 2 46 0 0 [.ref h, .int p, .int y, .int z] (mW E h q g a) (fun r (_ : Unit) => r = marksF g a nm p y z) (fun _ : Unit => mW E h q g a) := by
  refine WR.mk (by decide) (Nat.le_of_ble_eq_true rfl) [(0, .ref h), (1, .int p), (2, .int y), (3, .int z)] rfl (fun Z B ret => ?_)
  have lp : ∀ (n_lp : Nat) (i : Nat), (nm - i < n_lp) → (i ≤ nm) → (wit p 0 (g 1 - 1) = true) → (wit y 0 9 = true) → J Z 0 0 (mW E h q g a) 36 [(5, .int (nI i)), (4, .int (mks a p y z i)), (0, .ref h), (1, .int p), (2, .int y), (3, .int z)] [] := by
    intro n_lp
    induction n_lp with
    | zero => intro i hf_lp hi hp hy; omega
    | succ n_lp ih_lp =>
      intro i hf_lp hi hp hy
      refine i_iload B 0 dX9_marks_36 rfl ?_
      refine i_aload_n B 2 dX9_marks_38 rfl ?_
      refine i_get (v := .int (g 24)) B flX9_215 0 rfl rfl dX9_marks_39 ?_
      refine i_icmp_ge B 86 dX9_marks_42 (by decide) (fun h1 => ?_) (fun h1 => ?_)
      · replace h1 := q_n32.mpr h1
        rw [hm, nI_ltI (by omega) (by omega)] at h1
        refine i_iload B 1 dX9_marks_86 rfl ?_
        exact ret _ _ _ () rfl dX9_marks_88 (by rw [marksF, hp, hy, show nm = i by omega]; rfl)
      · replace h1 := q_m32.mp h1
        rw [hm, nI_ltI (by omega) (by omega)] at h1
        refine i_iload B 1 dX9_marks_45 rfl ?_
        refine i_aload_n B 2 dX9_marks_47 rfl ?_
        refine i_iload B 0 dX9_marks_48 rfl ?_
        refine i_iload_n B 3 dX9_marks_50 rfl ?_
        refine i_iload_n B 4 dX9_marks_51 rfl ?_
        refine c_roV (rest := [.int (mks a p y z i)]) (As := [.int (nI i), .int p, .int y]) B (k_X9_isOn l E h q g a i (by omega) p y) cal_yX9_isOn iv_yX9_isOn mlX9_218 rfl 0 rfl (by decide) (by decide) rfl (Nat.le_of_ble_eq_true rfl) Has.rf _ rfl dX9_marks_52 (fun r hr => ?_)
        subst hr
        refine i_val (v' := .int (bI (onF a i p y))) rfl ?_
        refine i_if_eq B 76 dX9_marks_55 (by decide) (fun h2 => ?_) (fun h2 => ?_)
        · replace h2 := bI_0.mp h2
          refine i_iconst (v := 0) B dX9_marks_76 (by decide) ?_
          refine i_iadd B dX9_marks_77 ?_
          refine i_istore B [(4, .int ((mks a p y z i) + 0)), (5, .int (nI i)), (0, .ref h), (1, .int p), (2, .int y), (3, .int z)] dX9_marks_78 (by decide) rfl ?_
          refine i_iinc (v := (nI (i + 1))) B 1 [(5, .int (nI (i + 1))), (4, .int ((mks a p y z i) + 0)), (0, .ref h), (1, .int p), (2, .int y), (3, .int z)] dX9_marks_80 rfl ((nI_1 _)) (by decide) rfl ?_
          refine i_goto B 36 dX9_marks_83 (by decide) ?_
          refine i_Leq (congrArg (fun z_9 => ([(5, .int (nI (i + 1))), (4, .int z_9), (0, .ref h), (1, .int p), (2, .int y), (3, .int z)] : List (Nat × Value))) (show (((mks a p y z i) + 0) : Int32) = (mks a p y z (i + 1)) from by rw [mks]; simp only [h2, decide_true, decide_false, Bool.not_true, Bool.not_false, Bool.true_and, Bool.false_and, Bool.and_true, Bool.and_false, Bool.true_or, Bool.or_true, Bool.false_or, Bool.or_false, bI_t, bI_f, if_true, if_false, ite_true, ite_false, Bool.false_eq_true, Bool.true_eq_false, eq_self, reduceIte, true_or, or_true, false_or, or_false, and_true, true_and, and_false, false_and, not_true_eq_false, not_false_eq_true, decide_eq_true_eq, decide_eq_false_iff_not])) ?_
          exact ih_lp (i + 1) (by omega) (by omega) hp hy
        · replace h2 := bI_n.mp h2
          refine i_iload_n B 5 dX9_marks_58 rfl ?_
          refine i_if_eq B 72 dX9_marks_59 (by decide) (fun h3 => ?_) (fun h3 => ?_)
          · have h3d := decide_eq_true h3
            refine i_iconst (v := 1) B dX9_marks_72 (by decide) ?_
            refine i_goto B 77 dX9_marks_73 (by decide) ?_
            refine i_iadd B dX9_marks_77 ?_
            refine i_istore B [(4, .int ((mks a p y z i) + 1)), (5, .int (nI i)), (0, .ref h), (1, .int p), (2, .int y), (3, .int z)] dX9_marks_78 (by decide) rfl ?_
            refine i_iinc (v := (nI (i + 1))) B 1 [(5, .int (nI (i + 1))), (4, .int ((mks a p y z i) + 1)), (0, .ref h), (1, .int p), (2, .int y), (3, .int z)] dX9_marks_80 rfl ((nI_1 _)) (by decide) rfl ?_
            refine i_goto B 36 dX9_marks_83 (by decide) ?_
            refine i_Leq (congrArg (fun z_9 => ([(5, .int (nI (i + 1))), (4, .int z_9), (0, .ref h), (1, .int p), (2, .int y), (3, .int z)] : List (Nat × Value))) (show (((mks a p y z i) + 1) : Int32) = (mks a p y z (i + 1)) from by rw [mks]; simp only [h2, h3d, decide_true, decide_false, Bool.not_true, Bool.not_false, Bool.true_and, Bool.false_and, Bool.and_true, Bool.and_false, Bool.true_or, Bool.or_true, Bool.false_or, Bool.or_false, bI_t, bI_f, if_true, if_false, ite_true, ite_false, Bool.false_eq_true, Bool.true_eq_false, eq_self, reduceIte, true_or, or_true, false_or, or_false, and_true, true_and, and_false, false_and, not_true_eq_false, not_false_eq_true, decide_eq_true_eq, decide_eq_false_iff_not])) ?_
            exact ih_lp (i + 1) (by omega) (by omega) hp hy
          · have h3d := decide_eq_false h3
            refine i_aload_n B 2 dX9_marks_62 rfl ?_
            refine i_get (v := .ref (q 27)) B flX9_65 0 rfl rfl dX9_marks_63 ?_
            refine i_iload B 0 dX9_marks_66 rfl ?_
            refine i_ialdN B 16 i rfl rfl (by omega) (by decide) dX9_marks_68 ?_
            refine i_goto B 77 dX9_marks_69 (by decide) ?_
            refine i_iadd B dX9_marks_77 ?_
            refine i_istore B [(4, .int ((mks a p y z i) + ((a 27) i))), (5, .int (nI i)), (0, .ref h), (1, .int p), (2, .int y), (3, .int z)] dX9_marks_78 (by decide) rfl ?_
            refine i_iinc (v := (nI (i + 1))) B 1 [(5, .int (nI (i + 1))), (4, .int ((mks a p y z i) + ((a 27) i))), (0, .ref h), (1, .int p), (2, .int y), (3, .int z)] dX9_marks_80 rfl ((nI_1 _)) (by decide) rfl ?_
            refine i_goto B 36 dX9_marks_83 (by decide) ?_
            refine i_Leq (congrArg (fun z_9 => ([(5, .int (nI (i + 1))), (4, .int z_9), (0, .ref h), (1, .int p), (2, .int y), (3, .int z)] : List (Nat × Value))) (show (((mks a p y z i) + ((a 27) i)) : Int32) = (mks a p y z (i + 1)) from by rw [mks]; simp only [h2, h3d, decide_true, decide_false, Bool.not_true, Bool.not_false, Bool.true_and, Bool.false_and, Bool.and_true, Bool.and_false, Bool.true_or, Bool.or_true, Bool.false_or, Bool.or_false, bI_t, bI_f, if_true, if_false, ite_true, ite_false, Bool.false_eq_true, Bool.true_eq_false, eq_self, reduceIte, true_or, or_true, false_or, or_false, and_true, true_and, and_false, false_and, not_true_eq_false, not_false_eq_true, decide_eq_true_eq, decide_eq_false_iff_not])) ?_
            exact ih_lp (i + 1) (by omega) (by omega) hp hy
  refine i_aload_n B 0 dX9_marks_0 rfl ?_
  refine i_iconst (v := 0) B dX9_marks_1 (by decide) ?_
  refine i_put B flX9_99 0 (mW E h q g a) rfl rfl rfl rfl (Nat.le_of_ble_eq_true rfl) rfl dX9_marks_2 ?_
  refine i_aload_n B 0 dX9_marks_5 rfl ?_
  refine i_iload_n B 1 dX9_marks_6 rfl ?_
  refine c_roV (rest := []) (As := [.int p]) B (k_X9_noPanel l E h q g a p) cal_yX9_noPanel iv_yX9_noPanel mlX9_140 rfl 0 rfl (by decide) (by decide) rfl (Nat.le_of_ble_eq_true rfl) Has.rf _ rfl dX9_marks_7 (fun r hr => ?_)
  subst hr
  refine i_val (v' := .int (bI (!wit p 0 ((g 1) - 1)))) rfl ?_
  refine i_if_eq B 15 dX9_marks_10 (by decide) (fun h4 => ?_) (fun h4 => ?_)
  · replace h4 := bI_0.mp h4
    replace h4 : wit p 0 ((g 1) - 1) = true := by simpa using h4
    refine i_iload_n B 2 dX9_marks_15 rfl ?_
    refine i_i2l B dX9_marks_16 ?_
    refine i_lconst (v := 0) B dX9_marks_17 (by decide) ?_
    refine i_ldc2 B ckX9_181 dX9_marks_18 ?_
    refine c_roS (rest := []) (As := [.long (Int32.toInt64 y), .long 0, .long 9]) B (k_X9_in l E (Int32.toInt64 y) 0 9) cal_yX9_in is_yX9_in mlX9_104 (by decide) (by decide) rfl (Nat.le_of_ble_eq_true rfl) Has.nil _ rfl dX9_marks_21 (fun r hr => ?_)
    subst hr
    refine i_val (v' := .int (bI (wit y 0 9))) (congrArg (fun z => Value.int (bI z)) (pin_i y 0 9)) ?_
    refine i_if_ne B 30 dX9_marks_24 (by decide) (fun h5 => ?_) (fun h5 => ?_)
    · replace h5 := bI_n.mp h5
      refine i_iconst (v := 0) B dX9_marks_30 (by decide) ?_
      refine i_istore B [(4, .int 0), (0, .ref h), (1, .int p), (2, .int y), (3, .int z)] dX9_marks_31 (by decide) rfl ?_
      refine i_iconst (v := 0) B dX9_marks_33 (by decide) ?_
      refine i_istore B [(5, .int 0), (4, .int 0), (0, .ref h), (1, .int p), (2, .int y), (3, .int z)] dX9_marks_34 (by decide) rfl ?_
      refine i_Leq (congrArg (fun z_9 => ([(5, .int z_9), (4, .int 0), (0, .ref h), (1, .int p), (2, .int y), (3, .int z)] : List (Nat × Value))) (show (0 : Int32) = (nI 0) from rfl)) ?_
      refine i_Leq (congrArg (fun z_9 => ([(5, .int (nI 0)), (4, .int z_9), (0, .ref h), (1, .int p), (2, .int y), (3, .int z)] : List (Nat × Value))) (show (0 : Int32) = (mks a p y z 0) from rfl)) ?_
      exact lp (nm + 1) 0 (by omega) (Nat.zero_le _) h4 h5
    · replace h5 := bI_0.mp h5
      refine i_bipush (v := (-2)) B dX9_marks_27 (by decide) ?_
      exact ret _ _ _ () rfl dX9_marks_29 (by simp only [marksF, h4, h5, decide_true, decide_false, Bool.not_true, Bool.not_false, Bool.true_and, Bool.false_and, Bool.and_true, Bool.and_false, Bool.true_or, Bool.or_true, Bool.false_or, Bool.or_false, Bool.and_self, Bool.or_self, bI_t, bI_f, if_true, if_false, ite_true, ite_false, Bool.false_eq_true, Bool.true_eq_false, eq_self, reduceIte, true_or, or_true, false_or, or_false, and_true, true_and, and_false, false_and, not_true_eq_false, not_false_eq_true, decide_eq_true_eq, decide_eq_false_iff_not])
  · replace h4 := bI_n.mp h4
    replace h4 : wit p 0 ((g 1) - 1) = false := by simpa using h4
    refine i_iconst (v := (-1)) B dX9_marks_13 (by decide) ?_
    exact ret _ _ _ () rfl dX9_marks_14 (by simp only [marksF, h4, decide_true, decide_false, Bool.not_true, Bool.not_false, Bool.true_and, Bool.false_and, Bool.and_true, Bool.and_false, Bool.true_or, Bool.or_true, Bool.false_or, Bool.or_false, Bool.and_self, Bool.or_self, bI_t, bI_f, if_true, if_false, ite_true, ite_false, Bool.false_eq_true, Bool.true_eq_false, eq_self, reduceIte, true_or, or_true, false_or, or_false, and_true, true_and, and_false, false_and, not_true_eq_false, not_false_eq_true, decide_eq_true_eq, decide_eq_false_iff_not])

set_option maxHeartbeats 4000000 in
set_option maxRecDepth 100000 in
theorem k_X9_count (l : Launch) (E : ED) (h : Nat) (q : Nat → Nat) (g : Nat → Int32) (a : Nat → Nat → Int32) (nm : Nat) (hm : g 24 = nI nm) (hnm : nm ≤ 40) (what : Int32) : WR l E yX9_count cX9_count 4 .int 0 0 0 0 [.ref h, .int what] (mW E h q g a) (fun r (_ : Unit) => r = countF g a nm what) (fun _ : Unit => mW E h q g a) := by
  refine WR.mk (by decide) (Nat.le_of_ble_eq_true rfl) [(0, .ref h), (1, .int what)] rfl (fun Z B ret => ?_)
  have lp : ∀ (n_lp : Nat) (i : Nat), (nm - i < n_lp) → (i ≤ nm) → J Z 0 0 (mW E h q g a) 9 [(3, .int (nI i)), (2, .int (cnw (a 29) i)), (0, .ref h), (1, .int what)] [] := by
    intro n_lp
    induction n_lp with
    | zero => intro i hf_lp hi; omega
    | succ n_lp ih_lp =>
      intro i hf_lp hi
      refine i_iload_n B 0 dX9_count_9 rfl ?_
      refine i_aload_n B 2 dX9_count_10 rfl ?_
      refine i_get (v := .int (g 24)) B flX9_215 0 rfl rfl dX9_count_11 ?_
      refine i_icmp_ge B 40 dX9_count_14 (by decide) (fun h1 => ?_) (fun h1 => ?_)
      · replace h1 := q_n32.mpr h1
        rw [hm, nI_ltI (by omega) (by omega)] at h1
        refine i_iload_n B 3 dX9_count_40 rfl ?_
        refine i_if_ne B 51 dX9_count_41 (by decide) (fun h2 => ?_) (fun h2 => ?_)
        · have h2d := decide_eq_false h2
          refine i_iload_n B 3 dX9_count_51 rfl ?_
          refine i_iconst (v := 1) B dX9_count_52 (by decide) ?_
          refine i_icmp_ne B 63 dX9_count_53 (by decide) (fun h3 => ?_) (fun h3 => ?_)
          · have h3d := decide_eq_false h3
            refine i_iload_n B 3 dX9_count_63 rfl ?_
            refine i_iconst (v := 2) B dX9_count_64 (by decide) ?_
            refine i_icmp_ne B 75 dX9_count_65 (by decide) (fun h4 => ?_) (fun h4 => ?_)
            · have h4d := decide_eq_false h4
              refine i_iload_n B 3 dX9_count_75 rfl ?_
              refine i_iconst (v := 3) B dX9_count_76 (by decide) ?_
              refine i_icmp_ne B 87 dX9_count_77 (by decide) (fun h5 => ?_) (fun h5 => ?_)
              · have h5d := decide_eq_false h5
                refine i_iload_n B 3 dX9_count_87 rfl ?_
                refine i_iconst (v := 4) B dX9_count_88 (by decide) ?_
                refine i_icmp_ne B 96 dX9_count_89 (by decide) (fun h6 => ?_) (fun h6 => ?_)
                · have h6d := decide_eq_false h6
                  refine i_bipush (v := (-2)) B dX9_count_96 (by decide) ?_
                  exact ret _ _ _ () rfl dX9_count_98 (by rw [countF, show nm = i by omega]; simp only [h2d, h3d, h4d, h5d, h6d, decide_true, decide_false, Bool.not_true, Bool.not_false, Bool.true_and, Bool.false_and, Bool.and_true, Bool.and_false, Bool.true_or, Bool.or_true, Bool.false_or, Bool.or_false, bI_t, bI_f, if_true, if_false, ite_true, ite_false, Bool.false_eq_true, Bool.true_eq_false, eq_self, reduceIte, true_or, or_true, false_or, or_false, and_true, true_and, and_false, false_and, not_true_eq_false, not_false_eq_true, decide_eq_true_eq, decide_eq_false_iff_not])
                · have h6d := decide_eq_true h6
                  refine i_iload_n B 1 dX9_count_92 rfl ?_
                  refine i_goto B 98 dX9_count_93 (by decide) ?_
                  exact ret _ _ _ () rfl dX9_count_98 (by rw [countF, show nm = i by omega]; simp only [h2d, h3d, h4d, h5d, h6d, decide_true, decide_false, Bool.not_true, Bool.not_false, Bool.true_and, Bool.false_and, Bool.and_true, Bool.and_false, Bool.true_or, Bool.or_true, Bool.false_or, Bool.or_false, bI_t, bI_f, if_true, if_false, ite_true, ite_false, Bool.false_eq_true, Bool.true_eq_false, eq_self, reduceIte, true_or, or_true, false_or, or_false, and_true, true_and, and_false, false_and, not_true_eq_false, not_false_eq_true, decide_eq_true_eq, decide_eq_false_iff_not])
              · have h5d := decide_eq_true h5
                refine i_aload_n B 2 dX9_count_80 rfl ?_
                refine i_get (v := .int (g 20)) B flX9_204 0 rfl rfl dX9_count_81 ?_
                refine i_goto B 98 dX9_count_84 (by decide) ?_
                exact ret _ _ _ () rfl dX9_count_98 (by rw [countF, show nm = i by omega]; simp only [h2d, h3d, h4d, h5d, decide_true, decide_false, Bool.not_true, Bool.not_false, Bool.true_and, Bool.false_and, Bool.and_true, Bool.and_false, Bool.true_or, Bool.or_true, Bool.false_or, Bool.or_false, bI_t, bI_f, if_true, if_false, ite_true, ite_false, Bool.false_eq_true, Bool.true_eq_false, eq_self, reduceIte, true_or, or_true, false_or, or_false, and_true, true_and, and_false, false_and, not_true_eq_false, not_false_eq_true, decide_eq_true_eq, decide_eq_false_iff_not])
            · have h4d := decide_eq_true h4
              refine i_aload_n B 2 dX9_count_68 rfl ?_
              refine i_get (v := .int (g 11)) B flX9_166 0 rfl rfl dX9_count_69 ?_
              refine i_goto B 98 dX9_count_72 (by decide) ?_
              exact ret _ _ _ () rfl dX9_count_98 (by rw [countF, show nm = i by omega]; simp only [h2d, h3d, h4d, decide_true, decide_false, Bool.not_true, Bool.not_false, Bool.true_and, Bool.false_and, Bool.and_true, Bool.and_false, Bool.true_or, Bool.or_true, Bool.false_or, Bool.or_false, bI_t, bI_f, if_true, if_false, ite_true, ite_false, Bool.false_eq_true, Bool.true_eq_false, eq_self, reduceIte, true_or, or_true, false_or, or_false, and_true, true_and, and_false, false_and, not_true_eq_false, not_false_eq_true, decide_eq_true_eq, decide_eq_false_iff_not])
          · have h3d := decide_eq_true h3
            refine i_aload_n B 2 dX9_count_56 rfl ?_
            refine i_get (v := .int (g 8)) B flX9_111 0 rfl rfl dX9_count_57 ?_
            refine i_goto B 98 dX9_count_60 (by decide) ?_
            exact ret _ _ _ () rfl dX9_count_98 (by rw [countF, show nm = i by omega]; simp only [h2d, h3d, decide_true, decide_false, Bool.not_true, Bool.not_false, Bool.true_and, Bool.false_and, Bool.and_true, Bool.and_false, Bool.true_or, Bool.or_true, Bool.false_or, Bool.or_false, bI_t, bI_f, if_true, if_false, ite_true, ite_false, Bool.false_eq_true, Bool.true_eq_false, eq_self, reduceIte, true_or, or_true, false_or, or_false, and_true, true_and, and_false, false_and, not_true_eq_false, not_false_eq_true, decide_eq_true_eq, decide_eq_false_iff_not])
        · have h2d := decide_eq_true h2
          refine i_aload_n B 2 dX9_count_44 rfl ?_
          refine i_get (v := .int (g 1)) B flX9_108 0 rfl rfl dX9_count_45 ?_
          refine i_goto B 98 dX9_count_48 (by decide) ?_
          exact ret _ _ _ () rfl dX9_count_98 (by rw [countF, show nm = i by omega]; simp only [h2d, decide_true, decide_false, Bool.not_true, Bool.not_false, Bool.true_and, Bool.false_and, Bool.and_true, Bool.and_false, Bool.true_or, Bool.or_true, Bool.false_or, Bool.or_false, bI_t, bI_f, if_true, if_false, ite_true, ite_false, Bool.false_eq_true, Bool.true_eq_false, eq_self, reduceIte, true_or, or_true, false_or, or_false, and_true, true_and, and_false, false_and, not_true_eq_false, not_false_eq_true, decide_eq_true_eq, decide_eq_false_iff_not])
      · replace h1 := q_m32.mp h1
        rw [hm, nI_ltI (by omega) (by omega)] at h1
        refine i_iload_n B 1 dX9_count_17 rfl ?_
        refine i_aload_n B 2 dX9_count_18 rfl ?_
        refine i_get (v := .ref (q 29)) B flX9_71 0 rfl rfl dX9_count_19 ?_
        refine i_iload_n B 0 dX9_count_22 rfl ?_
        refine i_zaldN B 18 i rfl rfl (by omega) (by decide) dX9_count_23 ?_
        refine i_if_eq B 31 dX9_count_24 (by decide) (fun h7 => ?_) (fun h7 => ?_)
        · have h7d := decide_eq_true h7
          refine i_iconst (v := 1) B dX9_count_31 (by decide) ?_
          refine i_iadd B dX9_count_32 ?_
          refine i_istore_n B [(2, .int ((cnw (a 29) i) + 1)), (3, .int (nI i)), (0, .ref h), (1, .int what)] dX9_count_33 (by decide) rfl ?_
          refine i_iinc (v := (nI (i + 1))) B 1 [(3, .int (nI (i + 1))), (2, .int ((cnw (a 29) i) + 1)), (0, .ref h), (1, .int what)] dX9_count_34 rfl ((nI_1 _)) (by decide) rfl ?_
          refine i_goto B 9 dX9_count_37 (by decide) ?_
          refine i_Leq (congrArg (fun z_9 => ([(3, .int (nI (i + 1))), (2, .int z_9), (0, .ref h), (1, .int what)] : List (Nat × Value))) (show (((cnw (a 29) i) + 1) : Int32) = (cnw (a 29) (i + 1)) from by rw [cnw]; simp only [h7d, decide_true, decide_false, Bool.not_true, Bool.not_false, Bool.true_and, Bool.false_and, Bool.and_true, Bool.and_false, Bool.true_or, Bool.or_true, Bool.false_or, Bool.or_false, bI_t, bI_f, if_true, if_false, ite_true, ite_false, Bool.false_eq_true, Bool.true_eq_false, eq_self, reduceIte, true_or, or_true, false_or, or_false, and_true, true_and, and_false, false_and, not_true_eq_false, not_false_eq_true, decide_eq_true_eq, decide_eq_false_iff_not])) ?_
          exact ih_lp (i + 1) (by omega) (by omega)
        · have h7d := decide_eq_false h7
          refine i_iconst (v := 0) B dX9_count_27 (by decide) ?_
          refine i_goto B 32 dX9_count_28 (by decide) ?_
          refine i_iadd B dX9_count_32 ?_
          refine i_istore_n B [(2, .int ((cnw (a 29) i) + 0)), (3, .int (nI i)), (0, .ref h), (1, .int what)] dX9_count_33 (by decide) rfl ?_
          refine i_iinc (v := (nI (i + 1))) B 1 [(3, .int (nI (i + 1))), (2, .int ((cnw (a 29) i) + 0)), (0, .ref h), (1, .int what)] dX9_count_34 rfl ((nI_1 _)) (by decide) rfl ?_
          refine i_goto B 9 dX9_count_37 (by decide) ?_
          refine i_Leq (congrArg (fun z_9 => ([(3, .int (nI (i + 1))), (2, .int z_9), (0, .ref h), (1, .int what)] : List (Nat × Value))) (show (((cnw (a 29) i) + 0) : Int32) = (cnw (a 29) (i + 1)) from by rw [cnw]; simp only [h7d, decide_true, decide_false, Bool.not_true, Bool.not_false, Bool.true_and, Bool.false_and, Bool.and_true, Bool.and_false, Bool.true_or, Bool.or_true, Bool.false_or, Bool.or_false, bI_t, bI_f, if_true, if_false, ite_true, ite_false, Bool.false_eq_true, Bool.true_eq_false, eq_self, reduceIte, true_or, or_true, false_or, or_false, and_true, true_and, and_false, false_and, not_true_eq_false, not_false_eq_true, decide_eq_true_eq, decide_eq_false_iff_not])) ?_
          exact ih_lp (i + 1) (by omega) (by omega)
  refine i_aload_n B 0 dX9_count_0 rfl ?_
  refine i_iconst (v := 0) B dX9_count_1 (by decide) ?_
  refine i_put B flX9_99 0 (mW E h q g a) rfl rfl rfl rfl (Nat.le_of_ble_eq_true rfl) rfl dX9_count_2 ?_
  refine i_iconst (v := 0) B dX9_count_5 (by decide) ?_
  refine i_istore_n B [(2, .int 0), (0, .ref h), (1, .int what)] dX9_count_6 (by decide) rfl ?_
  refine i_iconst (v := 0) B dX9_count_7 (by decide) ?_
  refine i_istore_n B [(3, .int 0), (2, .int 0), (0, .ref h), (1, .int what)] dX9_count_8 (by decide) rfl ?_
  refine i_Leq (congrArg (fun z_9 => ([(3, .int z_9), (2, .int 0), (0, .ref h), (1, .int what)] : List (Nat × Value))) (show (0 : Int32) = (nI 0) from rfl)) ?_
  refine i_Leq (congrArg (fun z_9 => ([(3, .int (nI 0)), (2, .int z_9), (0, .ref h), (1, .int what)] : List (Nat × Value))) (show (0 : Int32) = (cnw (a 29) 0) from rfl)) ?_
  exact lp (nm + 1) 0 (by omega) (Nat.zero_le _)
