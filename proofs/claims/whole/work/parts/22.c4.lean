set_option maxHeartbeats 4000000 in
set_option maxRecDepth 100000 in
theorem k_X4_sort51 (l : Launch) (E : ED) (q : Nat → Nat) (g : Nat → Int32) (a : Nat → Nat → Int32) (s : Nat → Int32) (t : Nat → Nat → Int32) (nm : Nat) (hm : g 24 = nI nm) (hnm : nm ≤ 40) (p y : Int32) : WR l E yX4_sortPlaces cX4_sortPlaces 7 .int 1 23 0 0 [.ref (q 48), .int p, .int y, .ref (q 51)] (sM E q g a s t) (fun r (_ : Unit) => r = nI (plc a (t 51) p y nm).1) (fun _ => sM E q g a s (va_up t 51 (plc a (t 51) p y nm).2)) := by
  refine WR.mk (by decide) (Nat.le_of_ble_eq_true rfl) [(0, .ref (q 48)), (1, .int p), (2, .int y), (3, .ref (q 51))] rfl (fun Z B ret => ?_)
  have la : ∀ (n_la : Nat) (i : Nat), (nm - i < n_la) → (i ≤ nm) → J Z 0 0 (sM E q g a s (va_up t 51 (plc a (t 51) p y i).2)) 6 [(5, .int (nI i)), (4, .int (nI (plc a (t 51) p y i).1)), (0, .ref (q 48)), (1, .int p), (2, .int y), (3, .ref (q 51))] [] := by
    intro n_la
    induction n_la with
    | zero => intro i hf_la hi; omega
    | succ n_la ih_la =>
      intro i hf_la hi
      refine i_iload B 0 dX4_sortPlaces_6 rfl ?_
      refine i_aload_n B 2 dX4_sortPlaces_8 rfl ?_
      refine i_get (v := .int (g 24)) B flX4_37 0 rfl rfl dX4_sortPlaces_9 ?_
      refine i_icmp_ge B 87 dX4_sortPlaces_12 (by decide) (fun h1 => ?_) (fun h1 => ?_)
      · replace h1 := q_n32.mpr h1
        rw [hm, nI_ltI (by omega) (by omega)] at h1
        refine i_world (ws' := sM E q g a s (va_up t 51 (plc a (t 51) p y nm).2)) (by rw [show nm = i by omega]) ?_
        refine i_iload B 1 dX4_sortPlaces_87 rfl ?_
        exact ret _ _ _ () rfl dX4_sortPlaces_89 (by rw [show nm = i by omega])
      · replace h1 := q_m32.mp h1
        rw [hm, nI_ltI (by omega) (by omega)] at h1
        refine i_aload_n B 2 dX4_sortPlaces_15 rfl ?_
        refine i_iload B 0 dX4_sortPlaces_16 rfl ?_
        refine i_iload_n B 3 dX4_sortPlaces_18 rfl ?_
        refine i_iload_n B 4 dX4_sortPlaces_19 rfl ?_
        refine c_roV (rest := []) (As := [.int (nI i), .int p, .int y]) B (k_X4_isOf l E q g a s (va_up t 51 (plc a (t 51) p y i).2) i (by omega) p y) cal_yX4_isOf iv_yX4_isOf mlX4_41 rfl 0 rfl (by decide) (by decide) rfl (Nat.le_of_ble_eq_true rfl) Has.rf _ rfl dX4_sortPlaces_20 (fun r hr => ?_)
        subst hr
        refine i_val (v' := .int (bI (onF a i p y))) rfl ?_
        refine i_val (v' := .int (bI (onF a i p y))) (congrArg Value.int (rfl)) ?_
        refine i_if_eq B 81 dX4_sortPlaces_23 (by decide) (fun h2 => ?_) (fun h2 => ?_)
        · replace h2 := bI_0.mp h2
          refine i_iinc (v := (nI (i + 1))) B 0 [(5, .int (nI (i + 1))), (4, .int (nI (plc a (t 51) p y i).1)), (0, .ref (q 48)), (1, .int p), (2, .int y), (3, .ref (q 51))] dX4_sortPlaces_81 rfl ((nI_1 _)) (by decide) rfl ?_
          refine i_goto B 6 dX4_sortPlaces_84 (by decide) ?_
          refine i_Leq (congrArg (fun z_9 => ([(5, .int (nI (i + 1))), (4, .int z_9), (0, .ref (q 48)), (1, .int p), (2, .int y), (3, .ref (q 51))] : List (Nat × Value))) (show ((nI (plc a (t 51) p y i).1) : Int32) = (nI (plc a (t 51) p y (i + 1)).1) from by rw [plc, h2, if_neg (by decide)])) ?_
          refine i_world (ws' := (sM E q g a s (va_up t 51 (plc a (t 51) p y (i + 1)).2))) (by rw [plc, h2, if_neg (by decide)]) ?_
          exact ih_la (i + 1) (by omega) (by omega)
        · replace h2 := bI_n.mp h2
          refine i_iload B 1 dX4_sortPlaces_26 rfl ?_
          refine i_istore B [(6, .int (nI (plc a (t 51) p y i).1)), (5, .int (nI i)), (4, .int (nI (plc a (t 51) p y i).1)), (0, .ref (q 48)), (1, .int p), (2, .int y), (3, .ref (q 51))] dX4_sortPlaces_28 (by decide) rfl ?_
          have lb : ∀ (n_lb : Nat) (k : Nat) (r : Nat → Int32), (k < n_lb) → (k ≤ (plc a (t 51) p y i).1) → (insr ((a 26) i) (plc a (t 51) p y i).1 (plc a (t 51) p y i).2 = insr ((a 26) i) k r) → J Z 0 0 (sM E q g a s (va_up t 51 r)) 30 [(6, .int (nI k)), (5, .int (nI i)), (4, .int (nI (plc a (t 51) p y i).1)), (0, .ref (q 48)), (1, .int p), (2, .int y), (3, .ref (q 51))] [] := by
            intro n_lb
            induction n_lb with
            | zero => intro k r hf_lb hk hin; omega
            | succ n_lb ih_lb =>
              intro k r hf_lb hk hin
              refine i_iload B 0 dX4_sortPlaces_30 rfl ?_
              refine i_if_le B 67 dX4_sortPlaces_32 (by decide) (fun h3 => ?_) (fun h3 => ?_)
              · replace h3 := q_n32.mpr h3
                have hpl := plc_le a (t 51) p y i
                rw [show (0 : Int32) = nI 0 from rfl, nI_ltI (by omega) (by omega)] at h3
                obtain rfl : k = 0 := by omega
                rw [insr] at hin
                refine i_aload_n B 6 dX4_sortPlaces_67 rfl ?_
                refine i_iload B 0 dX4_sortPlaces_68 rfl ?_
                refine i_aload_n B 3 dX4_sortPlaces_70 rfl ?_
                refine i_get (v := .ref (q 26)) B flX4_15 0 rfl rfl dX4_sortPlaces_71 ?_
                refine i_iload B 1 dX4_sortPlaces_74 rfl ?_
                refine i_ialdN B 2 i rfl rfl (by omega) (by decide) dX4_sortPlaces_76 ?_
                refine i_iastN (f := r) B 6 0 (sM E q g a s (va_up t 51 (upd r 0 ((a 26) i)))) rfl rfl (by omega) (by decide) rfl dX4_sortPlaces_77 ?_
                refine i_iinc (v := (nI ((plc a (t 51) p y i).1 + 1))) B 2 [(4, .int (nI ((plc a (t 51) p y i).1 + 1))), (6, .int (nI 0)), (5, .int (nI i)), (0, .ref (q 48)), (1, .int p), (2, .int y), (3, .ref (q 51))] dX4_sortPlaces_78 rfl ((nI_1 _)) (by decide) rfl ?_
                refine i_iinc (v := (nI (i + 1))) B 2 [(5, .int (nI (i + 1))), (4, .int (nI ((plc a (t 51) p y i).1 + 1))), (6, .int (nI 0)), (0, .ref (q 48)), (1, .int p), (2, .int y), (3, .ref (q 51))] dX4_sortPlaces_81 rfl ((nI_1 _)) (by decide) rfl ?_
                refine i_goto B 6 dX4_sortPlaces_84 (by decide) ?_
                refine i_locals [0, 1, 3, 4, 5, 6] (L' := [(5, .int (nI (i + 1))), (4, .int (nI ((plc a (t 51) p y i).1 + 1))), (0, .ref (q 48)), (1, .int p), (2, .int y), (3, .ref (q 51))]) rfl ?_
                refine i_Leq (congrArg (fun z_9 => ([(5, .int (nI (i + 1))), (4, .int z_9), (0, .ref (q 48)), (1, .int p), (2, .int y), (3, .ref (q 51))] : List (Nat × Value))) (show ((nI ((plc a (t 51) p y i).1 + 1)) : Int32) = (nI (plc a (t 51) p y (i + 1)).1) from by rw [plc, h2, if_pos rfl])) ?_
                refine i_world (ws' := (sM E q g a s (va_up t 51 (plc a (t 51) p y (i + 1)).2))) (by rw [plc, h2, if_pos rfl, hin]) ?_
                exact ih_la (i + 1) (by omega) (by omega)
              · replace h3 := q_m32.mp h3
                have hpl := plc_le a (t 51) p y i
                rw [show (0 : Int32) = nI 0 from rfl, nI_ltI (by omega) (by omega)] at h3
                obtain ⟨k, rfl⟩ : ∃ k9, k = k9 + 1 := ⟨k - 1, by omega⟩
                refine i_aload_n B 6 dX4_sortPlaces_35 rfl ?_
                refine i_iload B 0 dX4_sortPlaces_36 rfl ?_
                refine i_iconst (v := 1) B dX4_sortPlaces_38 (by decide) ?_
                refine i_isub B dX4_sortPlaces_39 ?_
                refine i_ialdN B 6 k rfl (nI_pred k) (by omega) (by decide) dX4_sortPlaces_40 ?_
                refine i_val (v' := .int (r k)) rfl ?_
                refine i_aload_n B 3 dX4_sortPlaces_41 rfl ?_
                refine i_get (v := .ref (q 26)) B flX4_15 0 rfl rfl dX4_sortPlaces_42 ?_
                refine i_iload B 1 dX4_sortPlaces_45 rfl ?_
                refine i_ialdN B 2 i rfl rfl (by omega) (by decide) dX4_sortPlaces_47 ?_
                refine i_icmp_le B 67 dX4_sortPlaces_48 (by decide) (fun h4 => ?_) (fun h4 => ?_)
                · replace h4 := q_n32.mpr h4
                  rw [insr, if_neg h4] at hin
                  refine i_aload_n B 6 dX4_sortPlaces_67 rfl ?_
                  refine i_iload B 0 dX4_sortPlaces_68 rfl ?_
                  refine i_aload_n B 3 dX4_sortPlaces_70 rfl ?_
                  refine i_get (v := .ref (q 26)) B flX4_15 0 rfl rfl dX4_sortPlaces_71 ?_
                  refine i_iload B 1 dX4_sortPlaces_74 rfl ?_
                  refine i_ialdN B 2 i rfl rfl (by omega) (by decide) dX4_sortPlaces_76 ?_
                  refine i_iastN (f := r) B 6 (k + 1) (sM E q g a s (va_up t 51 (upd r (k + 1) ((a 26) i)))) rfl rfl (by omega) (by decide) rfl dX4_sortPlaces_77 ?_
                  refine i_iinc (v := (nI ((plc a (t 51) p y i).1 + 1))) B 2 [(4, .int (nI ((plc a (t 51) p y i).1 + 1))), (6, .int (nI (k + 1))), (5, .int (nI i)), (0, .ref (q 48)), (1, .int p), (2, .int y), (3, .ref (q 51))] dX4_sortPlaces_78 rfl ((nI_1 _)) (by decide) rfl ?_
                  refine i_iinc (v := (nI (i + 1))) B 2 [(5, .int (nI (i + 1))), (4, .int (nI ((plc a (t 51) p y i).1 + 1))), (6, .int (nI (k + 1))), (0, .ref (q 48)), (1, .int p), (2, .int y), (3, .ref (q 51))] dX4_sortPlaces_81 rfl ((nI_1 _)) (by decide) rfl ?_
                  refine i_goto B 6 dX4_sortPlaces_84 (by decide) ?_
                  refine i_locals [0, 1, 3, 4, 5, 6] (L' := [(5, .int (nI (i + 1))), (4, .int (nI ((plc a (t 51) p y i).1 + 1))), (0, .ref (q 48)), (1, .int p), (2, .int y), (3, .ref (q 51))]) rfl ?_
                  refine i_Leq (congrArg (fun z_9 => ([(5, .int (nI (i + 1))), (4, .int z_9), (0, .ref (q 48)), (1, .int p), (2, .int y), (3, .ref (q 51))] : List (Nat × Value))) (show ((nI ((plc a (t 51) p y i).1 + 1)) : Int32) = (nI (plc a (t 51) p y (i + 1)).1) from by rw [plc, h2, if_pos rfl])) ?_
                  refine i_world (ws' := (sM E q g a s (va_up t 51 (plc a (t 51) p y (i + 1)).2))) (by rw [plc, h2, if_pos rfl, hin]) ?_
                  exact ih_la (i + 1) (by omega) (by omega)
                · replace h4 := q_m32.mp h4
                  refine i_aload_n B 6 dX4_sortPlaces_51 rfl ?_
                  refine i_iload B 0 dX4_sortPlaces_52 rfl ?_
                  refine i_aload_n B 6 dX4_sortPlaces_54 rfl ?_
                  refine i_iload B 0 dX4_sortPlaces_55 rfl ?_
                  refine i_iconst (v := 1) B dX4_sortPlaces_57 (by decide) ?_
                  refine i_isub B dX4_sortPlaces_58 ?_
                  refine i_ialdN B 6 k rfl (nI_pred k) (by omega) (by decide) dX4_sortPlaces_59 ?_
                  refine i_val (v' := .int (r k)) rfl ?_
                  refine i_iastN (f := r) B 6 (k + 1) (sM E q g a s (va_up t 51 (upd r (k + 1) (r k)))) rfl rfl (by omega) (by decide) rfl dX4_sortPlaces_60 ?_
                  refine i_iinc (v := (nI k)) B 0 [(6, .int (nI k)), (5, .int (nI i)), (4, .int (nI (plc a (t 51) p y i).1)), (0, .ref (q 48)), (1, .int p), (2, .int y), (3, .ref (q 51))] dX4_sortPlaces_61 rfl ((dec1 _).trans (nI_pred k)) (by decide) rfl ?_
                  refine i_goto B 30 dX4_sortPlaces_64 (by decide) ?_
                  exact ih_lb k (upd r (k + 1) (r k)) (by omega) (by omega) (hin.trans (by rw [insr, if_pos h4]))
          exact lb ((plc a (t 51) p y i).1 + 1) (plc a (t 51) p y i).1 (plc a (t 51) p y i).2 (by omega) (Nat.le_refl _) rfl
  refine i_iconst (v := 0) B dX4_sortPlaces_0 (by decide) ?_
  refine i_istore B [(4, .int 0), (0, .ref (q 48)), (1, .int p), (2, .int y), (3, .ref (q 51))] dX4_sortPlaces_1 (by decide) rfl ?_
  refine i_iconst (v := 0) B dX4_sortPlaces_3 (by decide) ?_
  refine i_istore B [(5, .int 0), (4, .int 0), (0, .ref (q 48)), (1, .int p), (2, .int y), (3, .ref (q 51))] dX4_sortPlaces_4 (by decide) rfl ?_
  refine i_Leq (congrArg (fun z_9 => ([(5, .int z_9), (4, .int 0), (0, .ref (q 48)), (1, .int p), (2, .int y), (3, .ref (q 51))] : List (Nat × Value))) (show (0 : Int32) = (nI 0) from rfl)) ?_
  refine i_Leq (congrArg (fun z_9 => ([(5, .int (nI 0)), (4, .int z_9), (0, .ref (q 48)), (1, .int p), (2, .int y), (3, .ref (q 51))] : List (Nat × Value))) (show (0 : Int32) = (nI (plc a (t 51) p y 0).1) from rfl)) ?_
  refine i_world (ws' := (sM E q g a s (va_up t 51 (plc a (t 51) p y 0).2))) (rfl) ?_
  exact la (nm + 1) 0 (by omega) (Nat.zero_le _)

set_option maxHeartbeats 4000000 in
set_option maxRecDepth 100000 in
theorem k_X4_sort52 (l : Launch) (E : ED) (q : Nat → Nat) (g : Nat → Int32) (a : Nat → Nat → Int32) (s : Nat → Int32) (t : Nat → Nat → Int32) (nm : Nat) (hm : g 24 = nI nm) (hnm : nm ≤ 40) (p y : Int32) : WR l E yX4_sortPlaces cX4_sortPlaces 7 .int 1 23 0 0 [.ref (q 48), .int p, .int y, .ref (q 52)] (sM E q g a s t) (fun r (_ : Unit) => r = nI (plc a (t 52) p y nm).1) (fun _ => sM E q g a s (va_up t 52 (plc a (t 52) p y nm).2)) := by
  refine WR.mk (by decide) (Nat.le_of_ble_eq_true rfl) [(0, .ref (q 48)), (1, .int p), (2, .int y), (3, .ref (q 52))] rfl (fun Z B ret => ?_)
  have la : ∀ (n_la : Nat) (i : Nat), (nm - i < n_la) → (i ≤ nm) → J Z 0 0 (sM E q g a s (va_up t 52 (plc a (t 52) p y i).2)) 6 [(5, .int (nI i)), (4, .int (nI (plc a (t 52) p y i).1)), (0, .ref (q 48)), (1, .int p), (2, .int y), (3, .ref (q 52))] [] := by
    intro n_la
    induction n_la with
    | zero => intro i hf_la hi; omega
    | succ n_la ih_la =>
      intro i hf_la hi
      refine i_iload B 0 dX4_sortPlaces_6 rfl ?_
      refine i_aload_n B 2 dX4_sortPlaces_8 rfl ?_
      refine i_get (v := .int (g 24)) B flX4_37 0 rfl rfl dX4_sortPlaces_9 ?_
      refine i_icmp_ge B 87 dX4_sortPlaces_12 (by decide) (fun h1 => ?_) (fun h1 => ?_)
      · replace h1 := q_n32.mpr h1
        rw [hm, nI_ltI (by omega) (by omega)] at h1
        refine i_world (ws' := sM E q g a s (va_up t 52 (plc a (t 52) p y nm).2)) (by rw [show nm = i by omega]) ?_
        refine i_iload B 1 dX4_sortPlaces_87 rfl ?_
        exact ret _ _ _ () rfl dX4_sortPlaces_89 (by rw [show nm = i by omega])
      · replace h1 := q_m32.mp h1
        rw [hm, nI_ltI (by omega) (by omega)] at h1
        refine i_aload_n B 2 dX4_sortPlaces_15 rfl ?_
        refine i_iload B 0 dX4_sortPlaces_16 rfl ?_
        refine i_iload_n B 3 dX4_sortPlaces_18 rfl ?_
        refine i_iload_n B 4 dX4_sortPlaces_19 rfl ?_
        refine c_roV (rest := []) (As := [.int (nI i), .int p, .int y]) B (k_X4_isOf l E q g a s (va_up t 52 (plc a (t 52) p y i).2) i (by omega) p y) cal_yX4_isOf iv_yX4_isOf mlX4_41 rfl 0 rfl (by decide) (by decide) rfl (Nat.le_of_ble_eq_true rfl) Has.rf _ rfl dX4_sortPlaces_20 (fun r hr => ?_)
        subst hr
        refine i_val (v' := .int (bI (onF a i p y))) rfl ?_
        refine i_val (v' := .int (bI (onF a i p y))) (congrArg Value.int (rfl)) ?_
        refine i_if_eq B 81 dX4_sortPlaces_23 (by decide) (fun h2 => ?_) (fun h2 => ?_)
        · replace h2 := bI_0.mp h2
          refine i_iinc (v := (nI (i + 1))) B 0 [(5, .int (nI (i + 1))), (4, .int (nI (plc a (t 52) p y i).1)), (0, .ref (q 48)), (1, .int p), (2, .int y), (3, .ref (q 52))] dX4_sortPlaces_81 rfl ((nI_1 _)) (by decide) rfl ?_
          refine i_goto B 6 dX4_sortPlaces_84 (by decide) ?_
          refine i_Leq (congrArg (fun z_9 => ([(5, .int (nI (i + 1))), (4, .int z_9), (0, .ref (q 48)), (1, .int p), (2, .int y), (3, .ref (q 52))] : List (Nat × Value))) (show ((nI (plc a (t 52) p y i).1) : Int32) = (nI (plc a (t 52) p y (i + 1)).1) from by rw [plc, h2, if_neg (by decide)])) ?_
          refine i_world (ws' := (sM E q g a s (va_up t 52 (plc a (t 52) p y (i + 1)).2))) (by rw [plc, h2, if_neg (by decide)]) ?_
          exact ih_la (i + 1) (by omega) (by omega)
        · replace h2 := bI_n.mp h2
          refine i_iload B 1 dX4_sortPlaces_26 rfl ?_
          refine i_istore B [(6, .int (nI (plc a (t 52) p y i).1)), (5, .int (nI i)), (4, .int (nI (plc a (t 52) p y i).1)), (0, .ref (q 48)), (1, .int p), (2, .int y), (3, .ref (q 52))] dX4_sortPlaces_28 (by decide) rfl ?_
          have lb : ∀ (n_lb : Nat) (k : Nat) (r : Nat → Int32), (k < n_lb) → (k ≤ (plc a (t 52) p y i).1) → (insr ((a 26) i) (plc a (t 52) p y i).1 (plc a (t 52) p y i).2 = insr ((a 26) i) k r) → J Z 0 0 (sM E q g a s (va_up t 52 r)) 30 [(6, .int (nI k)), (5, .int (nI i)), (4, .int (nI (plc a (t 52) p y i).1)), (0, .ref (q 48)), (1, .int p), (2, .int y), (3, .ref (q 52))] [] := by
            intro n_lb
            induction n_lb with
            | zero => intro k r hf_lb hk hin; omega
            | succ n_lb ih_lb =>
              intro k r hf_lb hk hin
              refine i_iload B 0 dX4_sortPlaces_30 rfl ?_
              refine i_if_le B 67 dX4_sortPlaces_32 (by decide) (fun h3 => ?_) (fun h3 => ?_)
              · replace h3 := q_n32.mpr h3
                have hpl := plc_le a (t 52) p y i
                rw [show (0 : Int32) = nI 0 from rfl, nI_ltI (by omega) (by omega)] at h3
                obtain rfl : k = 0 := by omega
                rw [insr] at hin
                refine i_aload_n B 6 dX4_sortPlaces_67 rfl ?_
                refine i_iload B 0 dX4_sortPlaces_68 rfl ?_
                refine i_aload_n B 3 dX4_sortPlaces_70 rfl ?_
                refine i_get (v := .ref (q 26)) B flX4_15 0 rfl rfl dX4_sortPlaces_71 ?_
                refine i_iload B 1 dX4_sortPlaces_74 rfl ?_
                refine i_ialdN B 2 i rfl rfl (by omega) (by decide) dX4_sortPlaces_76 ?_
                refine i_iastN (f := r) B 7 0 (sM E q g a s (va_up t 52 (upd r 0 ((a 26) i)))) rfl rfl (by omega) (by decide) rfl dX4_sortPlaces_77 ?_
                refine i_iinc (v := (nI ((plc a (t 52) p y i).1 + 1))) B 2 [(4, .int (nI ((plc a (t 52) p y i).1 + 1))), (6, .int (nI 0)), (5, .int (nI i)), (0, .ref (q 48)), (1, .int p), (2, .int y), (3, .ref (q 52))] dX4_sortPlaces_78 rfl ((nI_1 _)) (by decide) rfl ?_
                refine i_iinc (v := (nI (i + 1))) B 2 [(5, .int (nI (i + 1))), (4, .int (nI ((plc a (t 52) p y i).1 + 1))), (6, .int (nI 0)), (0, .ref (q 48)), (1, .int p), (2, .int y), (3, .ref (q 52))] dX4_sortPlaces_81 rfl ((nI_1 _)) (by decide) rfl ?_
                refine i_goto B 6 dX4_sortPlaces_84 (by decide) ?_
                refine i_locals [0, 1, 3, 4, 5, 6] (L' := [(5, .int (nI (i + 1))), (4, .int (nI ((plc a (t 52) p y i).1 + 1))), (0, .ref (q 48)), (1, .int p), (2, .int y), (3, .ref (q 52))]) rfl ?_
                refine i_Leq (congrArg (fun z_9 => ([(5, .int (nI (i + 1))), (4, .int z_9), (0, .ref (q 48)), (1, .int p), (2, .int y), (3, .ref (q 52))] : List (Nat × Value))) (show ((nI ((plc a (t 52) p y i).1 + 1)) : Int32) = (nI (plc a (t 52) p y (i + 1)).1) from by rw [plc, h2, if_pos rfl])) ?_
                refine i_world (ws' := (sM E q g a s (va_up t 52 (plc a (t 52) p y (i + 1)).2))) (by rw [plc, h2, if_pos rfl, hin]) ?_
                exact ih_la (i + 1) (by omega) (by omega)
              · replace h3 := q_m32.mp h3
                have hpl := plc_le a (t 52) p y i
                rw [show (0 : Int32) = nI 0 from rfl, nI_ltI (by omega) (by omega)] at h3
                obtain ⟨k, rfl⟩ : ∃ k9, k = k9 + 1 := ⟨k - 1, by omega⟩
                refine i_aload_n B 6 dX4_sortPlaces_35 rfl ?_
                refine i_iload B 0 dX4_sortPlaces_36 rfl ?_
                refine i_iconst (v := 1) B dX4_sortPlaces_38 (by decide) ?_
                refine i_isub B dX4_sortPlaces_39 ?_
                refine i_ialdN B 7 k rfl (nI_pred k) (by omega) (by decide) dX4_sortPlaces_40 ?_
                refine i_val (v' := .int (r k)) rfl ?_
                refine i_aload_n B 3 dX4_sortPlaces_41 rfl ?_
                refine i_get (v := .ref (q 26)) B flX4_15 0 rfl rfl dX4_sortPlaces_42 ?_
                refine i_iload B 1 dX4_sortPlaces_45 rfl ?_
                refine i_ialdN B 2 i rfl rfl (by omega) (by decide) dX4_sortPlaces_47 ?_
                refine i_icmp_le B 67 dX4_sortPlaces_48 (by decide) (fun h4 => ?_) (fun h4 => ?_)
                · replace h4 := q_n32.mpr h4
                  rw [insr, if_neg h4] at hin
                  refine i_aload_n B 6 dX4_sortPlaces_67 rfl ?_
                  refine i_iload B 0 dX4_sortPlaces_68 rfl ?_
                  refine i_aload_n B 3 dX4_sortPlaces_70 rfl ?_
                  refine i_get (v := .ref (q 26)) B flX4_15 0 rfl rfl dX4_sortPlaces_71 ?_
                  refine i_iload B 1 dX4_sortPlaces_74 rfl ?_
                  refine i_ialdN B 2 i rfl rfl (by omega) (by decide) dX4_sortPlaces_76 ?_
                  refine i_iastN (f := r) B 7 (k + 1) (sM E q g a s (va_up t 52 (upd r (k + 1) ((a 26) i)))) rfl rfl (by omega) (by decide) rfl dX4_sortPlaces_77 ?_
                  refine i_iinc (v := (nI ((plc a (t 52) p y i).1 + 1))) B 2 [(4, .int (nI ((plc a (t 52) p y i).1 + 1))), (6, .int (nI (k + 1))), (5, .int (nI i)), (0, .ref (q 48)), (1, .int p), (2, .int y), (3, .ref (q 52))] dX4_sortPlaces_78 rfl ((nI_1 _)) (by decide) rfl ?_
                  refine i_iinc (v := (nI (i + 1))) B 2 [(5, .int (nI (i + 1))), (4, .int (nI ((plc a (t 52) p y i).1 + 1))), (6, .int (nI (k + 1))), (0, .ref (q 48)), (1, .int p), (2, .int y), (3, .ref (q 52))] dX4_sortPlaces_81 rfl ((nI_1 _)) (by decide) rfl ?_
                  refine i_goto B 6 dX4_sortPlaces_84 (by decide) ?_
                  refine i_locals [0, 1, 3, 4, 5, 6] (L' := [(5, .int (nI (i + 1))), (4, .int (nI ((plc a (t 52) p y i).1 + 1))), (0, .ref (q 48)), (1, .int p), (2, .int y), (3, .ref (q 52))]) rfl ?_
                  refine i_Leq (congrArg (fun z_9 => ([(5, .int (nI (i + 1))), (4, .int z_9), (0, .ref (q 48)), (1, .int p), (2, .int y), (3, .ref (q 52))] : List (Nat × Value))) (show ((nI ((plc a (t 52) p y i).1 + 1)) : Int32) = (nI (plc a (t 52) p y (i + 1)).1) from by rw [plc, h2, if_pos rfl])) ?_
                  refine i_world (ws' := (sM E q g a s (va_up t 52 (plc a (t 52) p y (i + 1)).2))) (by rw [plc, h2, if_pos rfl, hin]) ?_
                  exact ih_la (i + 1) (by omega) (by omega)
                · replace h4 := q_m32.mp h4
                  refine i_aload_n B 6 dX4_sortPlaces_51 rfl ?_
                  refine i_iload B 0 dX4_sortPlaces_52 rfl ?_
                  refine i_aload_n B 6 dX4_sortPlaces_54 rfl ?_
                  refine i_iload B 0 dX4_sortPlaces_55 rfl ?_
                  refine i_iconst (v := 1) B dX4_sortPlaces_57 (by decide) ?_
                  refine i_isub B dX4_sortPlaces_58 ?_
                  refine i_ialdN B 7 k rfl (nI_pred k) (by omega) (by decide) dX4_sortPlaces_59 ?_
                  refine i_val (v' := .int (r k)) rfl ?_
                  refine i_iastN (f := r) B 7 (k + 1) (sM E q g a s (va_up t 52 (upd r (k + 1) (r k)))) rfl rfl (by omega) (by decide) rfl dX4_sortPlaces_60 ?_
                  refine i_iinc (v := (nI k)) B 0 [(6, .int (nI k)), (5, .int (nI i)), (4, .int (nI (plc a (t 52) p y i).1)), (0, .ref (q 48)), (1, .int p), (2, .int y), (3, .ref (q 52))] dX4_sortPlaces_61 rfl ((dec1 _).trans (nI_pred k)) (by decide) rfl ?_
                  refine i_goto B 30 dX4_sortPlaces_64 (by decide) ?_
                  exact ih_lb k (upd r (k + 1) (r k)) (by omega) (by omega) (hin.trans (by rw [insr, if_pos h4]))
          exact lb ((plc a (t 52) p y i).1 + 1) (plc a (t 52) p y i).1 (plc a (t 52) p y i).2 (by omega) (Nat.le_refl _) rfl
  refine i_iconst (v := 0) B dX4_sortPlaces_0 (by decide) ?_
  refine i_istore B [(4, .int 0), (0, .ref (q 48)), (1, .int p), (2, .int y), (3, .ref (q 52))] dX4_sortPlaces_1 (by decide) rfl ?_
  refine i_iconst (v := 0) B dX4_sortPlaces_3 (by decide) ?_
  refine i_istore B [(5, .int 0), (4, .int 0), (0, .ref (q 48)), (1, .int p), (2, .int y), (3, .ref (q 52))] dX4_sortPlaces_4 (by decide) rfl ?_
  refine i_Leq (congrArg (fun z_9 => ([(5, .int z_9), (4, .int 0), (0, .ref (q 48)), (1, .int p), (2, .int y), (3, .ref (q 52))] : List (Nat × Value))) (show (0 : Int32) = (nI 0) from rfl)) ?_
  refine i_Leq (congrArg (fun z_9 => ([(5, .int (nI 0)), (4, .int z_9), (0, .ref (q 48)), (1, .int p), (2, .int y), (3, .ref (q 52))] : List (Nat × Value))) (show (0 : Int32) = (nI (plc a (t 52) p y 0).1) from rfl)) ?_
  refine i_world (ws' := (sM E q g a s (va_up t 52 (plc a (t 52) p y 0).2))) (rfl) ?_
  exact la (nm + 1) 0 (by omega) (Nat.zero_le _)

/-- one more place of the one year: the worths against the first j of the other -/
def nwr (y : Nat → Int32) (at_ tol : Int32) (w : Nat → Int32) : Nat → Int32
  | 0 => w 0
  | j + 1 => if tol < abz (at_ - y j) then mx (w (j + 1)) (nwr y at_ tol w j) else mx (mx (w (j + 1)) (nwr y at_ tol w j)) (w j + 100000 - abz (at_ - y j))
def wrr (x y : Nat → Int32) (tol : Int32) : Nat → Nat → Int32
  | 0 => fun _ => 0
  | i + 1 => nwr y (x i) tol (wrr x y tol i)
theorem nwr_cg {y y' : Nat → Int32} {at_ tol : Int32} {w w' : Nat → Int32} : ∀ j, (∀ k, k < j → y k = y' k) → (∀ k, k ≤ j → w k = w' k) → nwr y at_ tol w j = nwr y' at_ tol w' j := by
  intro j
  induction j with
  | zero => intro hy hw; rw [nwr, nwr, hw 0 (by omega)]
  | succ j ih => intro hy hw; rw [nwr, nwr, ih (fun k hk => hy k (by omega)) (fun k hk => hw k (by omega)), hy j (by omega), hw (j + 1) (by omega), hw j (by omega)]
theorem wrr_cg {x x' y y' : Nat → Int32} {tol : Int32} : ∀ i j, (∀ k, k < i → x k = x' k) → (∀ k, k < j → y k = y' k) → wrr x y tol i j = wrr x' y' tol i j := by
  intro i
  induction i with
  | zero => intro j hx hy; rfl
  | succ i ih =>
    intro j hx hy
    rw [wrr, wrr, hx i (by omega)]
    exact nwr_cg j hy (fun k hk => ih k (fun m hm => hx m (by omega)) (fun m hm => hy m (by omega)))

set_option maxHeartbeats 4000000 in
set_option maxRecDepth 100000 in
theorem k_X4_addPlace (l : Launch) (E : ED) (q : Nat → Nat) (g : Nat → Int32) (a : Nat → Nat → Int32) (s : Nat → Int32) (t : Nat → Nat → Int32) (nb : Nat) (hnb : nb ≤ 40) (at_ tol : Int32) : WV l E yX4_addPlace cX4_addPlace 8 1 21 0 0 [.ref (q 48), .int at_, .int (nI nb), .int tol] (sM E q g a s t) (fun u : Nat → Int32 => ∀ k : Nat, k ≤ nb → u k = nwr (t 52) at_ tol (t 53) k) (fun u => sM E q g a s (va_up t 53 u)) := by
  refine WV.mk (by decide) (Nat.le_of_ble_eq_true rfl) [(0, .ref (q 48)), (1, .int at_), (2, .int (nI nb)), (3, .int tol)] rfl (fun Z B hI ret => ?_)
  have lp : ∀ (n_lp : Nat) (j : Nat) (r : Nat → Int32), (nb + 1 - j < n_lp) → (1 ≤ j) → (j ≤ nb + 1) → ((∀ k : Nat, k < j → r k = nwr (t 52) at_ tol (t 53) k) ∧ (∀ k : Nat, j ≤ k → r k = t 53 k)) → J Z 0 0 (sM E q g a s (va_up t 53 r)) 11 [(5, .int (nI j)), (4, .int (t 53 (j - 1))), (0, .ref (q 48)), (1, .int at_), (2, .int (nI nb)), (3, .int tol)] [] := by
    intro n_lp
    induction n_lp with
    | zero => intro j r hf_lp h1j hj hI; omega
    | succ n_lp ih_lp =>
      intro j r hf_lp h1j hj hI
      refine i_iload B 0 dX4_addPlace_11 rfl ?_
      refine i_iload_n B 4 dX4_addPlace_13 rfl ?_
      refine i_icmp_gt B 104 dX4_addPlace_14 (by decide) (fun h1 => ?_) (fun h1 => ?_)
      · rw [nI_ltI (by omega) (by omega)] at h1
        exact ret _ _ r dX4_addPlace_104 (fun k hk => hI.1 k (by omega))
      · rw [nI_ltI (by omega) (by omega)] at h1
        refine i_aload_n B 2 dX4_addPlace_17 rfl ?_
        refine i_get (v := .ref (q 53)) B flX4_34 0 rfl rfl dX4_addPlace_18 ?_
        refine i_iload B 0 dX4_addPlace_21 rfl ?_
        refine i_ialdN B 8 j rfl rfl (by omega) (by decide) dX4_addPlace_23 ?_
        refine i_val (v' := .int (r j)) rfl ?_
        refine i_val (v' := .int (t 53 j)) (congrArg Value.int (hI.2 j (by omega))) ?_
        refine i_istore B [(6, .int (t 53 j)), (5, .int (nI j)), (4, .int (t 53 (j - 1))), (0, .ref (q 48)), (1, .int at_), (2, .int (nI nb)), (3, .int tol)] dX4_addPlace_24 (by decide) rfl ?_
        refine i_iload_n B 4 dX4_addPlace_26 rfl ?_
        refine i_aload_n B 3 dX4_addPlace_27 rfl ?_
        refine i_get (v := .ref (q 52)) B flX4_31 0 rfl rfl dX4_addPlace_28 ?_
        refine i_iload B 1 dX4_addPlace_31 rfl ?_
        refine i_iconst (v := 1) B dX4_addPlace_33 (by decide) ?_
        refine i_isub B dX4_addPlace_34 ?_
        refine i_ialdN B 7 (j - 1) rfl (pk_sub (a := j) (b := 1) (by omega)) (by omega) (by decide) dX4_addPlace_35 ?_
        refine i_val (v' := .int ((t 52) (j - 1))) rfl ?_
        refine i_isub B dX4_addPlace_36 ?_
        refine i_abs B mlX4_60 is_Mabs ini_java_lang_Math cd_Mabs (by decide) (Nat.le_of_ble_eq_true rfl) (by decide) dX4_addPlace_37 ?_
        refine i_val (v' := .int (abz (at_ - ((t 52) (j - 1))))) rfl ?_
        refine i_istore B [(7, .int (abz (at_ - ((t 52) (j - 1))))), (6, .int (t 53 j)), (5, .int (nI j)), (4, .int (t 53 (j - 1))), (0, .ref (q 48)), (1, .int at_), (2, .int (nI nb)), (3, .int tol)] dX4_addPlace_40 (by decide) rfl ?_
        refine i_aload_n B 4 dX4_addPlace_42 rfl ?_
        refine i_get (v := .ref (q 53)) B flX4_34 0 rfl rfl dX4_addPlace_43 ?_
        refine i_iload B 2 dX4_addPlace_46 rfl ?_
        refine i_iload B 1 dX4_addPlace_48 rfl ?_
        refine i_aload_n B 4 dX4_addPlace_50 rfl ?_
        refine i_get (v := .ref (q 53)) B flX4_34 0 rfl rfl dX4_addPlace_51 ?_
        refine i_iload B 2 dX4_addPlace_54 rfl ?_
        refine i_iconst (v := 1) B dX4_addPlace_56 (by decide) ?_
        refine i_isub B dX4_addPlace_57 ?_
        refine i_ialdN B 8 (j - 1) rfl (pk_sub (a := j) (b := 1) (by omega)) (by omega) (by decide) dX4_addPlace_58 ?_
        refine i_val (v' := .int (r (j - 1))) rfl ?_
        refine i_val (v' := .int (nwr (t 52) at_ tol (t 53) (j - 1))) (congrArg Value.int (hI.1 (j - 1) (by omega))) ?_
        refine i_max B mlX4_66 is_Mmax ini_java_lang_Math cd_Mmax (by decide) (Nat.le_of_ble_eq_true rfl) (by decide) dX4_addPlace_59 ?_
        refine i_val (v' := .int (mx (t 53 j) (nwr (t 52) at_ tol (t 53) (j - 1)))) rfl ?_
        refine j_nameI (fun w1 ew1 => ?_)
        refine i_iastN (f := r) B 8 j (sM E q g a s (va_up t 53 (upd r j w1))) rfl rfl (by omega) (by decide) rfl dX4_addPlace_62 ?_
        refine i_iload B 0 dX4_addPlace_63 rfl ?_
        refine i_iload_n B 7 dX4_addPlace_65 rfl ?_
        refine i_icmp_gt B 94 dX4_addPlace_66 (by decide) (fun h2 => ?_) (fun h2 => ?_)
        · refine i_iload B 1 dX4_addPlace_94 rfl ?_
          refine i_istore B [(4, .int (t 53 j)), (7, .int (abz (at_ - ((t 52) (j - 1))))), (6, .int (t 53 j)), (5, .int (nI j)), (0, .ref (q 48)), (1, .int at_), (2, .int (nI nb)), (3, .int tol)] dX4_addPlace_96 (by decide) rfl ?_
          refine i_iinc (v := (nI (j + 1))) B 3 [(5, .int (nI (j + 1))), (4, .int (t 53 j)), (7, .int (abz (at_ - ((t 52) (j - 1))))), (6, .int (t 53 j)), (0, .ref (q 48)), (1, .int at_), (2, .int (nI nb)), (3, .int tol)] dX4_addPlace_98 rfl ((nI_1 _)) (by decide) rfl ?_
          refine i_goto B 11 dX4_addPlace_101 (by decide) ?_
          refine i_locals [0, 1, 4, 5, 6, 7] (L' := [(5, .int (nI (j + 1))), (4, .int (t 53 j)), (0, .ref (q 48)), (1, .int at_), (2, .int (nI nb)), (3, .int tol)]) rfl ?_
          refine i_Leq (congrArg (fun z_9 => ([(5, .int (nI (j + 1))), (4, .int z_9), (0, .ref (q 48)), (1, .int at_), (2, .int (nI nb)), (3, .int tol)] : List (Nat × Value))) (show ((t 53 j) : Int32) = (t 53 ((j + 1) - 1)) from rfl)) ?_
          exact ih_lp (j + 1) (upd r j w1) (by omega) (by omega) (by omega) (⟨fun k hk => by (by_cases e : k = j; (subst e; obtain ⟨j0, rfl⟩ : ∃ j0, k = j0 + 1 := ⟨k - 1, by omega⟩; simp only [pk_us, Nat.add_sub_cancel] at *; rw [nwr]; simp only [h2, if_true, if_false]; exact ew1); (simp only [pk_un e]; exact hI.1 k (by omega))), fun k hk => by (simp only [pk_un (show k ≠ j by omega)]; exact hI.2 k (by omega))⟩)
        · refine i_aload_n B 4 dX4_addPlace_69 rfl ?_
          refine i_get (v := .ref (q 53)) B flX4_34 0 rfl rfl dX4_addPlace_70 ?_
          refine i_iload B 2 dX4_addPlace_73 rfl ?_
          refine i_aload_n B 4 dX4_addPlace_75 rfl ?_
          refine i_get (v := .ref (q 53)) B flX4_34 0 rfl rfl dX4_addPlace_76 ?_
          refine i_iload B 2 dX4_addPlace_79 rfl ?_
          refine i_ialdN B 8 j rfl rfl (by omega) (by decide) dX4_addPlace_81 ?_
          refine i_val (v' := .int ((upd r j w1) j)) rfl ?_
          refine i_val (v' := .int (mx (t 53 j) (nwr (t 52) at_ tol (t 53) (j - 1)))) (congrArg Value.int (by rw [pk_us, ew1])) ?_
          refine i_iload B 3 dX4_addPlace_82 rfl ?_
          refine i_ldc B ckX4_53 dX4_addPlace_84 ?_
          refine i_iadd B dX4_addPlace_86 ?_
          refine i_iload B 0 dX4_addPlace_87 rfl ?_
          refine i_isub B dX4_addPlace_89 ?_
          refine i_max B mlX4_66 is_Mmax ini_java_lang_Math cd_Mmax (by decide) (Nat.le_of_ble_eq_true rfl) (by decide) dX4_addPlace_90 ?_
          refine i_val (v' := .int (mx (mx (t 53 j) (nwr (t 52) at_ tol (t 53) (j - 1))) (((t 53 (j - 1)) + 100000) - (abz (at_ - ((t 52) (j - 1))))))) rfl ?_
          refine j_nameI (fun w2 ew2 => ?_)
          refine i_iastN (f := (upd r j w1)) B 8 j (sM E q g a s (va_up t 53 (upd (upd r j w1) j w2))) rfl rfl (by omega) (by decide) rfl dX4_addPlace_93 ?_
          refine i_iload B 1 dX4_addPlace_94 rfl ?_
          refine i_istore B [(4, .int (t 53 j)), (7, .int (abz (at_ - ((t 52) (j - 1))))), (6, .int (t 53 j)), (5, .int (nI j)), (0, .ref (q 48)), (1, .int at_), (2, .int (nI nb)), (3, .int tol)] dX4_addPlace_96 (by decide) rfl ?_
          refine i_iinc (v := (nI (j + 1))) B 3 [(5, .int (nI (j + 1))), (4, .int (t 53 j)), (7, .int (abz (at_ - ((t 52) (j - 1))))), (6, .int (t 53 j)), (0, .ref (q 48)), (1, .int at_), (2, .int (nI nb)), (3, .int tol)] dX4_addPlace_98 rfl ((nI_1 _)) (by decide) rfl ?_
          refine i_goto B 11 dX4_addPlace_101 (by decide) ?_
          refine i_locals [0, 1, 4, 5, 6, 7] (L' := [(5, .int (nI (j + 1))), (4, .int (t 53 j)), (0, .ref (q 48)), (1, .int at_), (2, .int (nI nb)), (3, .int tol)]) rfl ?_
          refine i_Leq (congrArg (fun z_9 => ([(5, .int (nI (j + 1))), (4, .int z_9), (0, .ref (q 48)), (1, .int at_), (2, .int (nI nb)), (3, .int tol)] : List (Nat × Value))) (show ((t 53 j) : Int32) = (t 53 ((j + 1) - 1)) from rfl)) ?_
          exact ih_lp (j + 1) (upd (upd r j w1) j w2) (by omega) (by omega) (by omega) (⟨fun k hk => by (by_cases e : k = j; (subst e; obtain ⟨j0, rfl⟩ : ∃ j0, k = j0 + 1 := ⟨k - 1, by omega⟩; simp only [pk_us, Nat.add_sub_cancel] at *; rw [nwr]; simp only [h2, if_true, if_false]; exact ew2); (simp only [pk_un e]; exact hI.1 k (by omega))), fun k hk => by (simp only [pk_un (show k ≠ j by omega)]; exact hI.2 k (by omega))⟩)
  refine i_aload_n B 0 dX4_addPlace_0 rfl ?_
  refine i_get (v := .ref (q 53)) B flX4_34 0 rfl rfl dX4_addPlace_1 ?_
  refine i_iconst (v := 0) B dX4_addPlace_4 (by decide) ?_
  refine i_ialdN B 8 0 rfl rfl (by decide) (by decide) dX4_addPlace_5 ?_
  refine i_val (v' := .int ((t 53) 0)) rfl ?_
  refine i_istore B [(4, .int ((t 53) 0)), (0, .ref (q 48)), (1, .int at_), (2, .int (nI nb)), (3, .int tol)] dX4_addPlace_6 (by decide) rfl ?_
  refine i_iconst (v := 1) B dX4_addPlace_8 (by decide) ?_
  refine i_istore B [(5, .int 1), (4, .int ((t 53) 0)), (0, .ref (q 48)), (1, .int at_), (2, .int (nI nb)), (3, .int tol)] dX4_addPlace_9 (by decide) rfl ?_
  refine i_Leq (congrArg (fun z_9 => ([(5, .int z_9), (4, .int ((t 53) 0)), (0, .ref (q 48)), (1, .int at_), (2, .int (nI nb)), (3, .int tol)] : List (Nat × Value))) (show (1 : Int32) = (nI 1) from rfl)) ?_
  refine i_Leq (congrArg (fun z_9 => ([(5, .int (nI 1)), (4, .int z_9), (0, .ref (q 48)), (1, .int at_), (2, .int (nI nb)), (3, .int tol)] : List (Nat × Value))) (show (((t 53) 0) : Int32) = (t 53 (1 - 1)) from rfl)) ?_
  refine i_world (ws' := (sM E q g a s (va_up t 53 (t 53)))) (rfl) ?_
  exact lp (nb + 2) 1 (t 53) (by omega) (by omega) (by omega) (⟨fun k hk => by rw [show k = 0 by omega]; rfl, fun k hk => rfl⟩)
