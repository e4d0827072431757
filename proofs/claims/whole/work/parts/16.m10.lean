/-- a place put among sorted ones -/
def insr (at_ : Int32) : Nat → (Nat → Int32) → (Nat → Int32)
  | 0, r => upd r 0 at_
  | k + 1, r => if at_ < r k then insr at_ k (upd r (k + 1) (r k)) else upd r (k + 1) at_
def plc (a : Nat → Nat → Int32) (r0 : Nat → Int32) (p y : Int32) : Nat → Nat × (Nat → Int32)
  | 0 => (0, r0)
  | m + 1 => if onF a m p y = true then ((plc a r0 p y m).1 + 1, insr (a 26 m) (plc a r0 p y m).1 (plc a r0 p y m).2) else plc a r0 p y m
theorem plc_le (a : Nat → Nat → Int32) (r0 : Nat → Int32) (p y : Int32) (m : Nat) : (plc a r0 p y m).1 ≤ m := by
  induction m with
  | zero => exact Nat.le_refl _
  | succ m ih =>
    rw [plc]
    split
    · show (plc a r0 p y m).1 + 1 ≤ m + 1
      omega
    · omega
def tkf (P D : Nat → Int32) (at_ fr : Nat) (more ap : Int32) : (Nat → Int32) × (Nat → Int32) := if (decide (P at_ < P fr + more) || (decide (P fr + more = P at_) && decide (D fr + ap < D at_))) = true then (upd P at_ (P fr + more), upd D at_ (D fr + ap)) else (P, D)
def bet (c n : Int32 × Int32) : Int32 × Int32 := if (decide (c.1 < n.1) || (decide (n.1 = c.1) && decide (n.2 < c.2))) = true then n else c
theorem tk_at (P D : Nat → Int32) (at_ fr : Nat) (more ap : Int32) : ((tkf P D at_ fr more ap).1 at_, (tkf P D at_ fr more ap).2 at_) = bet (P at_, D at_) (P fr + more, D fr + ap) := by
  rw [tkf, bet]
  split
  · show (upd P at_ _ at_, upd D at_ _ at_) = _
    rw [pk_us, pk_us]
  · rfl
theorem tk_ne {P D : Nat → Int32} {at_ fr : Nat} {more ap : Int32} {k : Nat} (h : k ≠ at_) : (tkf P D at_ fr more ap).1 k = P k ∧ (tkf P D at_ fr more ap).2 k = D k := by
  rw [tkf]
  split
  · exact ⟨pk_un h, pk_un h⟩
  · exact ⟨rfl, rfl⟩
def apa (u v : Int32) : Int32 := if u - v < 0 then -(u - v) else u - v
/-- the best MATCH of the first i and the first j places -/
def MT (x y : Nat → Int32) (tol : Int32) : Nat → Nat → Int32 × Int32
  | 0, 0 => (0, 0)
  | 0, j + 1 => bet (0, 0) (MT x y tol 0 j)
  | i + 1, 0 => bet (0, 0) (MT x y tol i 0)
  | i + 1, j + 1 => if tol < apa (x i) (y j) then bet (bet (0, 0) (MT x y tol i (j + 1))) (MT x y tol (i + 1) j) else bet (bet (bet (0, 0) (MT x y tol i (j + 1))) (MT x y tol (i + 1) j)) ((MT x y tol i j).1 + 1, (MT x y tol i j).2 + apa (x i) (y j))

set_option maxHeartbeats 4000000 in
set_option maxRecDepth 100000 in
theorem k_X9_placed34 (l : Launch) (E : ED) (h : Nat) (q : Nat → Nat) (g : Nat → Int32) (a : Nat → Nat → Int32) (nm : Nat) (hm : g 24 = nI nm) (hnm : nm ≤ 40) (p y : Int32) : WR l E yX9_placed cX9_placed 7 .int 1 23 0 0 [.ref h, .int p, .int y, .ref (q 34)] (mW E h q g a) (fun r (_ : Unit) => r = nI (plc a (a 34) p y nm).1) (fun _ => mW E h q g (va_up a 34 (plc a (a 34) p y nm).2)) := by
  refine WR.mk (by decide) (Nat.le_of_ble_eq_true rfl) [(0, .ref h), (1, .int p), (2, .int y), (3, .ref (q 34))] rfl (fun Z B ret => ?_)
  have la : ∀ (n_la : Nat) (i : Nat), (nm - i < n_la) → (i ≤ nm) → J Z 0 0 (mW E h q g (va_up a 34 (plc a (a 34) p y i).2)) 6 [(5, .int (nI i)), (4, .int (nI (plc a (a 34) p y i).1)), (0, .ref h), (1, .int p), (2, .int y), (3, .ref (q 34))] [] := by
    intro n_la
    induction n_la with
    | zero => intro i hf_la hi; omega
    | succ n_la ih_la =>
      intro i hf_la hi
      refine i_iload B 0 dX9_placed_6 rfl ?_
      refine i_aload_n B 2 dX9_placed_8 rfl ?_
      refine i_get (v := .int (g 24)) B flX9_215 0 rfl rfl dX9_placed_9 ?_
      refine i_icmp_ge B 87 dX9_placed_12 (by decide) (fun h1 => ?_) (fun h1 => ?_)
      · replace h1 := q_n32.mpr h1
        rw [hm, nI_ltI (by omega) (by omega)] at h1
        refine i_world (ws' := mW E h q g (va_up a 34 (plc a (a 34) p y nm).2)) (by rw [show nm = i by omega]) ?_
        refine i_iload B 1 dX9_placed_87 rfl ?_
        exact ret _ _ _ () rfl dX9_placed_89 (by rw [show nm = i by omega])
      · replace h1 := q_m32.mp h1
        rw [hm, nI_ltI (by omega) (by omega)] at h1
        refine i_aload_n B 2 dX9_placed_15 rfl ?_
        refine i_iload B 0 dX9_placed_16 rfl ?_
        refine i_iload_n B 3 dX9_placed_18 rfl ?_
        refine i_iload_n B 4 dX9_placed_19 rfl ?_
        refine c_roV (rest := []) (As := [.int (nI i), .int p, .int y]) B (k_X9_isOn l E h q g (va_up a 34 (plc a (a 34) p y i).2) i (by omega) p y) cal_yX9_isOn iv_yX9_isOn mlX9_218 rfl 0 rfl (by decide) (by decide) rfl (Nat.le_of_ble_eq_true rfl) Has.rf _ rfl dX9_placed_20 (fun r hr => ?_)
        subst hr
        refine i_val (v' := .int (bI (onF (va_up a 34 (plc a (a 34) p y i).2) i p y))) rfl ?_
        refine i_val (v' := .int (bI (onF a i p y))) (congrArg Value.int (rfl)) ?_
        refine i_if_eq B 81 dX9_placed_23 (by decide) (fun h2 => ?_) (fun h2 => ?_)
        · replace h2 := bI_0.mp h2
          refine i_iinc (v := (nI (i + 1))) B 0 [(5, .int (nI (i + 1))), (4, .int (nI (plc a (a 34) p y i).1)), (0, .ref h), (1, .int p), (2, .int y), (3, .ref (q 34))] dX9_placed_81 rfl ((nI_1 _)) (by decide) rfl ?_
          refine i_goto B 6 dX9_placed_84 (by decide) ?_
          refine i_Leq (congrArg (fun z_9 => ([(5, .int (nI (i + 1))), (4, .int z_9), (0, .ref h), (1, .int p), (2, .int y), (3, .ref (q 34))] : List (Nat × Value))) (show ((nI (plc a (a 34) p y i).1) : Int32) = (nI (plc a (a 34) p y (i + 1)).1) from by rw [plc, h2, if_neg (by decide)])) ?_
          refine i_world (ws' := (mW E h q g (va_up a 34 (plc a (a 34) p y (i + 1)).2))) (by rw [plc, h2, if_neg (by decide)]) ?_
          exact ih_la (i + 1) (by omega) (by omega)
        · replace h2 := bI_n.mp h2
          refine i_iload B 1 dX9_placed_26 rfl ?_
          refine i_istore B [(6, .int (nI (plc a (a 34) p y i).1)), (5, .int (nI i)), (4, .int (nI (plc a (a 34) p y i).1)), (0, .ref h), (1, .int p), (2, .int y), (3, .ref (q 34))] dX9_placed_28 (by decide) rfl ?_
          have lb : ∀ (n_lb : Nat) (k : Nat) (r : Nat → Int32), (k < n_lb) → (k ≤ (plc a (a 34) p y i).1) → (insr ((a 26) i) (plc a (a 34) p y i).1 (plc a (a 34) p y i).2 = insr ((a 26) i) k r) → J Z 0 0 (mW E h q g (va_up a 34 r)) 30 [(6, .int (nI k)), (5, .int (nI i)), (4, .int (nI (plc a (a 34) p y i).1)), (0, .ref h), (1, .int p), (2, .int y), (3, .ref (q 34))] [] := by
            intro n_lb
            induction n_lb with
            | zero => intro k r hf_lb hk hin; omega
            | succ n_lb ih_lb =>
              intro k r hf_lb hk hin
              refine i_iload B 0 dX9_placed_30 rfl ?_
              refine i_if_le B 67 dX9_placed_32 (by decide) (fun h3 => ?_) (fun h3 => ?_)
              · replace h3 := q_n32.mpr h3
                have hpl := plc_le a (a 34) p y i
                rw [show (0 : Int32) = nI 0 from rfl, nI_ltI (by omega) (by omega)] at h3
                obtain rfl : k = 0 := by omega
                rw [insr] at hin
                refine i_aload_n B 6 dX9_placed_67 rfl ?_
                refine i_iload B 0 dX9_placed_68 rfl ?_
                refine i_aload_n B 3 dX9_placed_70 rfl ?_
                refine i_get (v := .ref (q 26)) B flX9_62 0 rfl rfl dX9_placed_71 ?_
                refine i_iload B 1 dX9_placed_74 rfl ?_
                refine i_ialdN B 15 i rfl rfl (by omega) (by decide) dX9_placed_76 ?_
                refine i_val (v' := .int ((a 26) i)) rfl ?_
                refine i_iastN B 23 0 (mW E h q g (va_up a 34 (upd r 0 ((a 26) i)))) rfl rfl (by omega) (by decide) rfl dX9_placed_77 ?_
                refine i_iinc (v := (nI ((plc a (a 34) p y i).1 + 1))) B 2 [(4, .int (nI ((plc a (a 34) p y i).1 + 1))), (6, .int (nI 0)), (5, .int (nI i)), (0, .ref h), (1, .int p), (2, .int y), (3, .ref (q 34))] dX9_placed_78 rfl ((nI_1 _)) (by decide) rfl ?_
                refine i_iinc (v := (nI (i + 1))) B 2 [(5, .int (nI (i + 1))), (4, .int (nI ((plc a (a 34) p y i).1 + 1))), (6, .int (nI 0)), (0, .ref h), (1, .int p), (2, .int y), (3, .ref (q 34))] dX9_placed_81 rfl ((nI_1 _)) (by decide) rfl ?_
                refine i_goto B 6 dX9_placed_84 (by decide) ?_
                refine i_locals [0, 1, 3, 4, 5, 6] (L' := [(5, .int (nI (i + 1))), (4, .int (nI ((plc a (a 34) p y i).1 + 1))), (0, .ref h), (1, .int p), (2, .int y), (3, .ref (q 34))]) rfl ?_
                refine i_Leq (congrArg (fun z_9 => ([(5, .int (nI (i + 1))), (4, .int z_9), (0, .ref h), (1, .int p), (2, .int y), (3, .ref (q 34))] : List (Nat × Value))) (show ((nI ((plc a (a 34) p y i).1 + 1)) : Int32) = (nI (plc a (a 34) p y (i + 1)).1) from by rw [plc, h2, if_pos rfl])) ?_
                refine i_world (ws' := (mW E h q g (va_up a 34 (plc a (a 34) p y (i + 1)).2))) (by rw [plc, h2, if_pos rfl, hin]) ?_
                exact ih_la (i + 1) (by omega) (by omega)
              · replace h3 := q_m32.mp h3
                have hpl := plc_le a (a 34) p y i
                rw [show (0 : Int32) = nI 0 from rfl, nI_ltI (by omega) (by omega)] at h3
                obtain ⟨k, rfl⟩ : ∃ k9, k = k9 + 1 := ⟨k - 1, by omega⟩
                refine i_aload_n B 6 dX9_placed_35 rfl ?_
                refine i_iload B 0 dX9_placed_36 rfl ?_
                refine i_iconst (v := 1) B dX9_placed_38 (by decide) ?_
                refine i_isub B dX9_placed_39 ?_
                refine i_ialdN B 23 k rfl (nI_pred k) (by omega) (by decide) dX9_placed_40 ?_
                refine i_val (v' := .int (r k)) rfl ?_
                refine i_aload_n B 3 dX9_placed_41 rfl ?_
                refine i_get (v := .ref (q 26)) B flX9_62 0 rfl rfl dX9_placed_42 ?_
                refine i_iload B 1 dX9_placed_45 rfl ?_
                refine i_ialdN B 15 i rfl rfl (by omega) (by decide) dX9_placed_47 ?_
                refine i_val (v' := .int ((a 26) i)) rfl ?_
                refine i_icmp_le B 67 dX9_placed_48 (by decide) (fun h4 => ?_) (fun h4 => ?_)
                · replace h4 := q_n32.mpr h4
                  rw [insr, if_neg h4] at hin
                  refine i_aload_n B 6 dX9_placed_67 rfl ?_
                  refine i_iload B 0 dX9_placed_68 rfl ?_
                  refine i_aload_n B 3 dX9_placed_70 rfl ?_
                  refine i_get (v := .ref (q 26)) B flX9_62 0 rfl rfl dX9_placed_71 ?_
                  refine i_iload B 1 dX9_placed_74 rfl ?_
                  refine i_ialdN B 15 i rfl rfl (by omega) (by decide) dX9_placed_76 ?_
                  refine i_val (v' := .int ((a 26) i)) rfl ?_
                  refine i_iastN B 23 (k + 1) (mW E h q g (va_up a 34 (upd r (k + 1) ((a 26) i)))) rfl rfl (by omega) (by decide) rfl dX9_placed_77 ?_
                  refine i_iinc (v := (nI ((plc a (a 34) p y i).1 + 1))) B 2 [(4, .int (nI ((plc a (a 34) p y i).1 + 1))), (6, .int (nI (k + 1))), (5, .int (nI i)), (0, .ref h), (1, .int p), (2, .int y), (3, .ref (q 34))] dX9_placed_78 rfl ((nI_1 _)) (by decide) rfl ?_
                  refine i_iinc (v := (nI (i + 1))) B 2 [(5, .int (nI (i + 1))), (4, .int (nI ((plc a (a 34) p y i).1 + 1))), (6, .int (nI (k + 1))), (0, .ref h), (1, .int p), (2, .int y), (3, .ref (q 34))] dX9_placed_81 rfl ((nI_1 _)) (by decide) rfl ?_
                  refine i_goto B 6 dX9_placed_84 (by decide) ?_
                  refine i_locals [0, 1, 3, 4, 5, 6] (L' := [(5, .int (nI (i + 1))), (4, .int (nI ((plc a (a 34) p y i).1 + 1))), (0, .ref h), (1, .int p), (2, .int y), (3, .ref (q 34))]) rfl ?_
                  refine i_Leq (congrArg (fun z_9 => ([(5, .int (nI (i + 1))), (4, .int z_9), (0, .ref h), (1, .int p), (2, .int y), (3, .ref (q 34))] : List (Nat × Value))) (show ((nI ((plc a (a 34) p y i).1 + 1)) : Int32) = (nI (plc a (a 34) p y (i + 1)).1) from by rw [plc, h2, if_pos rfl])) ?_
                  refine i_world (ws' := (mW E h q g (va_up a 34 (plc a (a 34) p y (i + 1)).2))) (by rw [plc, h2, if_pos rfl, hin]) ?_
                  exact ih_la (i + 1) (by omega) (by omega)
                · replace h4 := q_m32.mp h4
                  refine i_aload_n B 6 dX9_placed_51 rfl ?_
                  refine i_iload B 0 dX9_placed_52 rfl ?_
                  refine i_aload_n B 6 dX9_placed_54 rfl ?_
                  refine i_iload B 0 dX9_placed_55 rfl ?_
                  refine i_iconst (v := 1) B dX9_placed_57 (by decide) ?_
                  refine i_isub B dX9_placed_58 ?_
                  refine i_ialdN B 23 k rfl (nI_pred k) (by omega) (by decide) dX9_placed_59 ?_
                  refine i_val (v' := .int (r k)) rfl ?_
                  refine i_iastN B 23 (k + 1) (mW E h q g (va_up a 34 (upd r (k + 1) (r k)))) rfl rfl (by omega) (by decide) rfl dX9_placed_60 ?_
                  refine i_iinc (v := (nI k)) B 0 [(6, .int (nI k)), (5, .int (nI i)), (4, .int (nI (plc a (a 34) p y i).1)), (0, .ref h), (1, .int p), (2, .int y), (3, .ref (q 34))] dX9_placed_61 rfl ((dec1 _).trans (nI_pred k)) (by decide) rfl ?_
                  refine i_goto B 30 dX9_placed_64 (by decide) ?_
                  exact ih_lb k (upd r (k + 1) (r k)) (by omega) (by omega) (hin.trans (by rw [insr, if_pos h4]))
          exact lb ((plc a (a 34) p y i).1 + 1) (plc a (a 34) p y i).1 (plc a (a 34) p y i).2 (by omega) (Nat.le_refl _) rfl
  refine i_iconst (v := 0) B dX9_placed_0 (by decide) ?_
  refine i_istore B [(4, .int 0), (0, .ref h), (1, .int p), (2, .int y), (3, .ref (q 34))] dX9_placed_1 (by decide) rfl ?_
  refine i_iconst (v := 0) B dX9_placed_3 (by decide) ?_
  refine i_istore B [(5, .int 0), (4, .int 0), (0, .ref h), (1, .int p), (2, .int y), (3, .ref (q 34))] dX9_placed_4 (by decide) rfl ?_
  refine i_Leq (congrArg (fun z_9 => ([(5, .int z_9), (4, .int 0), (0, .ref h), (1, .int p), (2, .int y), (3, .ref (q 34))] : List (Nat × Value))) (show (0 : Int32) = (nI 0) from rfl)) ?_
  refine i_Leq (congrArg (fun z_9 => ([(5, .int (nI 0)), (4, .int z_9), (0, .ref h), (1, .int p), (2, .int y), (3, .ref (q 34))] : List (Nat × Value))) (show (0 : Int32) = (nI (plc a (a 34) p y 0).1) from rfl)) ?_
  refine i_world (ws' := (mW E h q g (va_up a 34 (plc a (a 34) p y 0).2))) (rfl) ?_
  exact la (nm + 1) 0 (by omega) (Nat.zero_le _)

set_option maxHeartbeats 4000000 in
set_option maxRecDepth 100000 in
theorem k_X9_placed35 (l : Launch) (E : ED) (h : Nat) (q : Nat → Nat) (g : Nat → Int32) (a : Nat → Nat → Int32) (nm : Nat) (hm : g 24 = nI nm) (hnm : nm ≤ 40) (p y : Int32) : WR l E yX9_placed cX9_placed 7 .int 1 23 0 0 [.ref h, .int p, .int y, .ref (q 35)] (mW E h q g a) (fun r (_ : Unit) => r = nI (plc a (a 35) p y nm).1) (fun _ => mW E h q g (va_up a 35 (plc a (a 35) p y nm).2)) := by
  refine WR.mk (by decide) (Nat.le_of_ble_eq_true rfl) [(0, .ref h), (1, .int p), (2, .int y), (3, .ref (q 35))] rfl (fun Z B ret => ?_)
  have la : ∀ (n_la : Nat) (i : Nat), (nm - i < n_la) → (i ≤ nm) → J Z 0 0 (mW E h q g (va_up a 35 (plc a (a 35) p y i).2)) 6 [(5, .int (nI i)), (4, .int (nI (plc a (a 35) p y i).1)), (0, .ref h), (1, .int p), (2, .int y), (3, .ref (q 35))] [] := by
    intro n_la
    induction n_la with
    | zero => intro i hf_la hi; omega
    | succ n_la ih_la =>
      intro i hf_la hi
      refine i_iload B 0 dX9_placed_6 rfl ?_
      refine i_aload_n B 2 dX9_placed_8 rfl ?_
      refine i_get (v := .int (g 24)) B flX9_215 0 rfl rfl dX9_placed_9 ?_
      refine i_icmp_ge B 87 dX9_placed_12 (by decide) (fun h1 => ?_) (fun h1 => ?_)
      · replace h1 := q_n32.mpr h1
        rw [hm, nI_ltI (by omega) (by omega)] at h1
        refine i_world (ws' := mW E h q g (va_up a 35 (plc a (a 35) p y nm).2)) (by rw [show nm = i by omega]) ?_
        refine i_iload B 1 dX9_placed_87 rfl ?_
        exact ret _ _ _ () rfl dX9_placed_89 (by rw [show nm = i by omega])
      · replace h1 := q_m32.mp h1
        rw [hm, nI_ltI (by omega) (by omega)] at h1
        refine i_aload_n B 2 dX9_placed_15 rfl ?_
        refine i_iload B 0 dX9_placed_16 rfl ?_
        refine i_iload_n B 3 dX9_placed_18 rfl ?_
        refine i_iload_n B 4 dX9_placed_19 rfl ?_
        refine c_roV (rest := []) (As := [.int (nI i), .int p, .int y]) B (k_X9_isOn l E h q g (va_up a 35 (plc a (a 35) p y i).2) i (by omega) p y) cal_yX9_isOn iv_yX9_isOn mlX9_218 rfl 0 rfl (by decide) (by decide) rfl (Nat.le_of_ble_eq_true rfl) Has.rf _ rfl dX9_placed_20 (fun r hr => ?_)
        subst hr
        refine i_val (v' := .int (bI (onF (va_up a 35 (plc a (a 35) p y i).2) i p y))) rfl ?_
        refine i_val (v' := .int (bI (onF a i p y))) (congrArg Value.int (rfl)) ?_
        refine i_if_eq B 81 dX9_placed_23 (by decide) (fun h2 => ?_) (fun h2 => ?_)
        · replace h2 := bI_0.mp h2
          refine i_iinc (v := (nI (i + 1))) B 0 [(5, .int (nI (i + 1))), (4, .int (nI (plc a (a 35) p y i).1)), (0, .ref h), (1, .int p), (2, .int y), (3, .ref (q 35))] dX9_placed_81 rfl ((nI_1 _)) (by decide) rfl ?_
          refine i_goto B 6 dX9_placed_84 (by decide) ?_
          refine i_Leq (congrArg (fun z_9 => ([(5, .int (nI (i + 1))), (4, .int z_9), (0, .ref h), (1, .int p), (2, .int y), (3, .ref (q 35))] : List (Nat × Value))) (show ((nI (plc a (a 35) p y i).1) : Int32) = (nI (plc a (a 35) p y (i + 1)).1) from by rw [plc, h2, if_neg (by decide)])) ?_
          refine i_world (ws' := (mW E h q g (va_up a 35 (plc a (a 35) p y (i + 1)).2))) (by rw [plc, h2, if_neg (by decide)]) ?_
          exact ih_la (i + 1) (by omega) (by omega)
        · replace h2 := bI_n.mp h2
          refine i_iload B 1 dX9_placed_26 rfl ?_
          refine i_istore B [(6, .int (nI (plc a (a 35) p y i).1)), (5, .int (nI i)), (4, .int (nI (plc a (a 35) p y i).1)), (0, .ref h), (1, .int p), (2, .int y), (3, .ref (q 35))] dX9_placed_28 (by decide) rfl ?_
          have lb : ∀ (n_lb : Nat) (k : Nat) (r : Nat → Int32), (k < n_lb) → (k ≤ (plc a (a 35) p y i).1) → (insr ((a 26) i) (plc a (a 35) p y i).1 (plc a (a 35) p y i).2 = insr ((a 26) i) k r) → J Z 0 0 (mW E h q g (va_up a 35 r)) 30 [(6, .int (nI k)), (5, .int (nI i)), (4, .int (nI (plc a (a 35) p y i).1)), (0, .ref h), (1, .int p), (2, .int y), (3, .ref (q 35))] [] := by
            intro n_lb
            induction n_lb with
            | zero => intro k r hf_lb hk hin; omega
            | succ n_lb ih_lb =>
              intro k r hf_lb hk hin
              refine i_iload B 0 dX9_placed_30 rfl ?_
              refine i_if_le B 67 dX9_placed_32 (by decide) (fun h3 => ?_) (fun h3 => ?_)
              · replace h3 := q_n32.mpr h3
                have hpl := plc_le a (a 35) p y i
                rw [show (0 : Int32) = nI 0 from rfl, nI_ltI (by omega) (by omega)] at h3
                obtain rfl : k = 0 := by omega
                rw [insr] at hin
                refine i_aload_n B 6 dX9_placed_67 rfl ?_
                refine i_iload B 0 dX9_placed_68 rfl ?_
                refine i_aload_n B 3 dX9_placed_70 rfl ?_
                refine i_get (v := .ref (q 26)) B flX9_62 0 rfl rfl dX9_placed_71 ?_
                refine i_iload B 1 dX9_placed_74 rfl ?_
                refine i_ialdN B 15 i rfl rfl (by omega) (by decide) dX9_placed_76 ?_
                refine i_val (v' := .int ((a 26) i)) rfl ?_
                refine i_iastN B 24 0 (mW E h q g (va_up a 35 (upd r 0 ((a 26) i)))) rfl rfl (by omega) (by decide) rfl dX9_placed_77 ?_
                refine i_iinc (v := (nI ((plc a (a 35) p y i).1 + 1))) B 2 [(4, .int (nI ((plc a (a 35) p y i).1 + 1))), (6, .int (nI 0)), (5, .int (nI i)), (0, .ref h), (1, .int p), (2, .int y), (3, .ref (q 35))] dX9_placed_78 rfl ((nI_1 _)) (by decide) rfl ?_
                refine i_iinc (v := (nI (i + 1))) B 2 [(5, .int (nI (i + 1))), (4, .int (nI ((plc a (a 35) p y i).1 + 1))), (6, .int (nI 0)), (0, .ref h), (1, .int p), (2, .int y), (3, .ref (q 35))] dX9_placed_81 rfl ((nI_1 _)) (by decide) rfl ?_
                refine i_goto B 6 dX9_placed_84 (by decide) ?_
                refine i_locals [0, 1, 3, 4, 5, 6] (L' := [(5, .int (nI (i + 1))), (4, .int (nI ((plc a (a 35) p y i).1 + 1))), (0, .ref h), (1, .int p), (2, .int y), (3, .ref (q 35))]) rfl ?_
                refine i_Leq (congrArg (fun z_9 => ([(5, .int (nI (i + 1))), (4, .int z_9), (0, .ref h), (1, .int p), (2, .int y), (3, .ref (q 35))] : List (Nat × Value))) (show ((nI ((plc a (a 35) p y i).1 + 1)) : Int32) = (nI (plc a (a 35) p y (i + 1)).1) from by rw [plc, h2, if_pos rfl])) ?_
                refine i_world (ws' := (mW E h q g (va_up a 35 (plc a (a 35) p y (i + 1)).2))) (by rw [plc, h2, if_pos rfl, hin]) ?_
                exact ih_la (i + 1) (by omega) (by omega)
              · replace h3 := q_m32.mp h3
                have hpl := plc_le a (a 35) p y i
                rw [show (0 : Int32) = nI 0 from rfl, nI_ltI (by omega) (by omega)] at h3
                obtain ⟨k, rfl⟩ : ∃ k9, k = k9 + 1 := ⟨k - 1, by omega⟩
                refine i_aload_n B 6 dX9_placed_35 rfl ?_
                refine i_iload B 0 dX9_placed_36 rfl ?_
                refine i_iconst (v := 1) B dX9_placed_38 (by decide) ?_
                refine i_isub B dX9_placed_39 ?_
                refine i_ialdN B 24 k rfl (nI_pred k) (by omega) (by decide) dX9_placed_40 ?_
                refine i_val (v' := .int (r k)) rfl ?_
                refine i_aload_n B 3 dX9_placed_41 rfl ?_
                refine i_get (v := .ref (q 26)) B flX9_62 0 rfl rfl dX9_placed_42 ?_
                refine i_iload B 1 dX9_placed_45 rfl ?_
                refine i_ialdN B 15 i rfl rfl (by omega) (by decide) dX9_placed_47 ?_
                refine i_val (v' := .int ((a 26) i)) rfl ?_
                refine i_icmp_le B 67 dX9_placed_48 (by decide) (fun h4 => ?_) (fun h4 => ?_)
                · replace h4 := q_n32.mpr h4
                  rw [insr, if_neg h4] at hin
                  refine i_aload_n B 6 dX9_placed_67 rfl ?_
                  refine i_iload B 0 dX9_placed_68 rfl ?_
                  refine i_aload_n B 3 dX9_placed_70 rfl ?_
                  refine i_get (v := .ref (q 26)) B flX9_62 0 rfl rfl dX9_placed_71 ?_
                  refine i_iload B 1 dX9_placed_74 rfl ?_
                  refine i_ialdN B 15 i rfl rfl (by omega) (by decide) dX9_placed_76 ?_
                  refine i_val (v' := .int ((a 26) i)) rfl ?_
                  refine i_iastN B 24 (k + 1) (mW E h q g (va_up a 35 (upd r (k + 1) ((a 26) i)))) rfl rfl (by omega) (by decide) rfl dX9_placed_77 ?_
                  refine i_iinc (v := (nI ((plc a (a 35) p y i).1 + 1))) B 2 [(4, .int (nI ((plc a (a 35) p y i).1 + 1))), (6, .int (nI (k + 1))), (5, .int (nI i)), (0, .ref h), (1, .int p), (2, .int y), (3, .ref (q 35))] dX9_placed_78 rfl ((nI_1 _)) (by decide) rfl ?_
                  refine i_iinc (v := (nI (i + 1))) B 2 [(5, .int (nI (i + 1))), (4, .int (nI ((plc a (a 35) p y i).1 + 1))), (6, .int (nI (k + 1))), (0, .ref h), (1, .int p), (2, .int y), (3, .ref (q 35))] dX9_placed_81 rfl ((nI_1 _)) (by decide) rfl ?_
                  refine i_goto B 6 dX9_placed_84 (by decide) ?_
                  refine i_locals [0, 1, 3, 4, 5, 6] (L' := [(5, .int (nI (i + 1))), (4, .int (nI ((plc a (a 35) p y i).1 + 1))), (0, .ref h), (1, .int p), (2, .int y), (3, .ref (q 35))]) rfl ?_
                  refine i_Leq (congrArg (fun z_9 => ([(5, .int (nI (i + 1))), (4, .int z_9), (0, .ref h), (1, .int p), (2, .int y), (3, .ref (q 35))] : List (Nat × Value))) (show ((nI ((plc a (a 35) p y i).1 + 1)) : Int32) = (nI (plc a (a 35) p y (i + 1)).1) from by rw [plc, h2, if_pos rfl])) ?_
                  refine i_world (ws' := (mW E h q g (va_up a 35 (plc a (a 35) p y (i + 1)).2))) (by rw [plc, h2, if_pos rfl, hin]) ?_
                  exact ih_la (i + 1) (by omega) (by omega)
                · replace h4 := q_m32.mp h4
                  refine i_aload_n B 6 dX9_placed_51 rfl ?_
                  refine i_iload B 0 dX9_placed_52 rfl ?_
                  refine i_aload_n B 6 dX9_placed_54 rfl ?_
                  refine i_iload B 0 dX9_placed_55 rfl ?_
                  refine i_iconst (v := 1) B dX9_placed_57 (by decide) ?_
                  refine i_isub B dX9_placed_58 ?_
                  refine i_ialdN B 24 k rfl (nI_pred k) (by omega) (by decide) dX9_placed_59 ?_
                  refine i_val (v' := .int (r k)) rfl ?_
                  refine i_iastN B 24 (k + 1) (mW E h q g (va_up a 35 (upd r (k + 1) (r k)))) rfl rfl (by omega) (by decide) rfl dX9_placed_60 ?_
                  refine i_iinc (v := (nI k)) B 0 [(6, .int (nI k)), (5, .int (nI i)), (4, .int (nI (plc a (a 35) p y i).1)), (0, .ref h), (1, .int p), (2, .int y), (3, .ref (q 35))] dX9_placed_61 rfl ((dec1 _).trans (nI_pred k)) (by decide) rfl ?_
                  refine i_goto B 30 dX9_placed_64 (by decide) ?_
                  exact ih_lb k (upd r (k + 1) (r k)) (by omega) (by omega) (hin.trans (by rw [insr, if_pos h4]))
          exact lb ((plc a (a 35) p y i).1 + 1) (plc a (a 35) p y i).1 (plc a (a 35) p y i).2 (by omega) (Nat.le_refl _) rfl
  refine i_iconst (v := 0) B dX9_placed_0 (by decide) ?_
  refine i_istore B [(4, .int 0), (0, .ref h), (1, .int p), (2, .int y), (3, .ref (q 35))] dX9_placed_1 (by decide) rfl ?_
  refine i_iconst (v := 0) B dX9_placed_3 (by decide) ?_
  refine i_istore B [(5, .int 0), (4, .int 0), (0, .ref h), (1, .int p), (2, .int y), (3, .ref (q 35))] dX9_placed_4 (by decide) rfl ?_
  refine i_Leq (congrArg (fun z_9 => ([(5, .int z_9), (4, .int 0), (0, .ref h), (1, .int p), (2, .int y), (3, .ref (q 35))] : List (Nat × Value))) (show (0 : Int32) = (nI 0) from rfl)) ?_
  refine i_Leq (congrArg (fun z_9 => ([(5, .int (nI 0)), (4, .int z_9), (0, .ref h), (1, .int p), (2, .int y), (3, .ref (q 35))] : List (Nat × Value))) (show (0 : Int32) = (nI (plc a (a 35) p y 0).1) from rfl)) ?_
  refine i_world (ws' := (mW E h q g (va_up a 35 (plc a (a 35) p y 0).2))) (rfl) ?_
  exact la (nm + 1) 0 (by omega) (Nat.zero_le _)

set_option maxHeartbeats 4000000 in
set_option maxRecDepth 100000 in
theorem k_X9_take (l : Launch) (E : ED) (h : Nat) (q : Nat → Nat) (g : Nat → Int32) (a : Nat → Nat → Int32) (at_ fr : Nat) (hat : at_ < 1681) (hfr : fr < 1681) (more ap : Int32) : WV l E yX9_take cX9_take 7 0 0 0 0 [.ref h, .int (nI at_), .int (nI fr), .int more, .int ap] (mW E h q g a) (fun u : (Nat → Int32) × (Nat → Int32) => u = tkf (a 36) (a 37) at_ fr more ap) (fun u => mW E h q g (va_up (va_up a 36 u.1) 37 u.2)) := by
  refine WV.mk (by decide) (Nat.le_of_ble_eq_true rfl) [(0, .ref h), (1, .int (nI at_)), (2, .int (nI fr)), (3, .int more), (4, .int ap)] rfl (fun Z B hI ret => ?_)
  refine i_aload_n B 0 dX9_take_0 rfl ?_
  refine i_get (v := .ref (q 36)) B flX9_93 0 rfl rfl dX9_take_1 ?_
  refine i_iload_n B 2 dX9_take_4 rfl ?_
  refine i_ialdN B 25 fr rfl rfl (by omega) (by decide) dX9_take_5 ?_
  refine i_iload_n B 3 dX9_take_6 rfl ?_
  refine i_iadd B dX9_take_7 ?_
  refine i_istore B [(5, .int (((a 36) fr) + more)), (0, .ref h), (1, .int (nI at_)), (2, .int (nI fr)), (3, .int more), (4, .int ap)] dX9_take_8 (by decide) rfl ?_
  refine i_aload_n B 1 dX9_take_10 rfl ?_
  refine i_get (v := .ref (q 37)) B flX9_96 0 rfl rfl dX9_take_11 ?_
  refine i_iload_n B 3 dX9_take_14 rfl ?_
  refine i_ialdN B 26 fr rfl rfl (by omega) (by decide) dX9_take_15 ?_
  refine i_iload B 5 dX9_take_16 rfl ?_
  refine i_iadd B dX9_take_18 ?_
  refine i_istore B [(6, .int (((a 37) fr) + ap)), (5, .int (((a 36) fr) + more)), (0, .ref h), (1, .int (nI at_)), (2, .int (nI fr)), (3, .int more), (4, .int ap)] dX9_take_19 (by decide) rfl ?_
  refine i_iload B 1 dX9_take_21 rfl ?_
  refine i_aload_n B 2 dX9_take_23 rfl ?_
  refine i_get (v := .ref (q 36)) B flX9_93 0 rfl rfl dX9_take_24 ?_
  refine i_iload_n B 3 dX9_take_27 rfl ?_
  refine i_ialdN B 25 at_ rfl rfl (by omega) (by decide) dX9_take_28 ?_
  refine i_icmp_gt B 54 dX9_take_29 (by decide) (fun h1 => ?_) (fun h1 => ?_)
  · refine i_aload_n B 2 dX9_take_54 rfl ?_
    refine i_get (v := .ref (q 36)) B flX9_93 0 rfl rfl dX9_take_55 ?_
    refine i_iload_n B 3 dX9_take_58 rfl ?_
    refine i_iload B 1 dX9_take_59 rfl ?_
    refine i_iastN B 25 at_ (mW E h q g (va_up a 36 (upd (a 36) at_ (((a 36) fr) + more)))) rfl rfl (by omega) (by decide) rfl dX9_take_61 ?_
    refine i_aload_n B 2 dX9_take_62 rfl ?_
    refine i_get (v := .ref (q 37)) B flX9_96 0 rfl rfl dX9_take_63 ?_
    refine i_iload_n B 3 dX9_take_66 rfl ?_
    refine i_iload B 0 dX9_take_67 rfl ?_
    refine i_iastN B 26 at_ (mW E h q g (va_up (va_up a 36 (upd (a 36) at_ (((a 36) fr) + more))) 37 (upd (a 37) at_ (((a 37) fr) + ap)))) rfl rfl (by omega) (by decide) rfl dX9_take_69 ?_
    exact ret _ _ ((upd (a 36) at_ (((a 36) fr) + more)), (upd (a 37) at_ (((a 37) fr) + ap))) dX9_take_70 (by simp only [tkf, h1, decide_true, decide_false, Bool.not_true, Bool.not_false, Bool.true_and, Bool.false_and, Bool.and_true, Bool.and_false, Bool.true_or, Bool.or_true, Bool.false_or, Bool.or_false, Bool.and_self, Bool.or_self, bI_t, bI_f, if_true, if_false, ite_true, ite_false, Bool.false_eq_true, Bool.true_eq_false, eq_self, reduceIte, true_or, or_true, false_or, or_false, and_true, true_and, and_false, false_and, not_true_eq_false, not_false_eq_true, decide_eq_true_eq, decide_eq_false_iff_not])
  · refine i_iload B 1 dX9_take_32 rfl ?_
    refine i_aload_n B 2 dX9_take_34 rfl ?_
    refine i_get (v := .ref (q 36)) B flX9_93 0 rfl rfl dX9_take_35 ?_
    refine i_iload_n B 3 dX9_take_38 rfl ?_
    refine i_ialdN B 25 at_ rfl rfl (by omega) (by decide) dX9_take_39 ?_
    refine i_icmp_ne B 70 dX9_take_40 (by decide) (fun h2 => ?_) (fun h2 => ?_)
    · have h2d := decide_eq_false h2
      exact ret _ _ ((a 36), (a 37)) dX9_take_70 (by simp only [tkf, h1, h2d, decide_true, decide_false, Bool.not_true, Bool.not_false, Bool.true_and, Bool.false_and, Bool.and_true, Bool.and_false, Bool.true_or, Bool.or_true, Bool.false_or, Bool.or_false, Bool.and_self, Bool.or_self, bI_t, bI_f, if_true, if_false, ite_true, ite_false, Bool.false_eq_true, Bool.true_eq_false, eq_self, reduceIte, true_or, or_true, false_or, or_false, and_true, true_and, and_false, false_and, not_true_eq_false, not_false_eq_true, decide_eq_true_eq, decide_eq_false_iff_not])
    · have h2d := decide_eq_true h2
      refine i_iload B 0 dX9_take_43 rfl ?_
      refine i_aload_n B 2 dX9_take_45 rfl ?_
      refine i_get (v := .ref (q 37)) B flX9_96 0 rfl rfl dX9_take_46 ?_
      refine i_iload_n B 3 dX9_take_49 rfl ?_
      refine i_ialdN B 26 at_ rfl rfl (by omega) (by decide) dX9_take_50 ?_
      refine i_icmp_ge B 70 dX9_take_51 (by decide) (fun h3 => ?_) (fun h3 => ?_)
      · replace h3 := q_n32.mpr h3
        exact ret _ _ ((a 36), (a 37)) dX9_take_70 (by simp only [tkf, h1, h2d, h3, decide_true, decide_false, Bool.not_true, Bool.not_false, Bool.true_and, Bool.false_and, Bool.and_true, Bool.and_false, Bool.true_or, Bool.or_true, Bool.false_or, Bool.or_false, Bool.and_self, Bool.or_self, bI_t, bI_f, if_true, if_false, ite_true, ite_false, Bool.false_eq_true, Bool.true_eq_false, eq_self, reduceIte, true_or, or_true, false_or, or_false, and_true, true_and, and_false, false_and, not_true_eq_false, not_false_eq_true, decide_eq_true_eq, decide_eq_false_iff_not])
      · replace h3 := q_m32.mp h3
        refine i_aload_n B 2 dX9_take_54 rfl ?_
        refine i_get (v := .ref (q 36)) B flX9_93 0 rfl rfl dX9_take_55 ?_
        refine i_iload_n B 3 dX9_take_58 rfl ?_
        refine i_iload B 1 dX9_take_59 rfl ?_
        refine i_iastN B 25 at_ (mW E h q g (va_up a 36 (upd (a 36) at_ (((a 36) fr) + more)))) rfl rfl (by omega) (by decide) rfl dX9_take_61 ?_
        refine i_aload_n B 2 dX9_take_62 rfl ?_
        refine i_get (v := .ref (q 37)) B flX9_96 0 rfl rfl dX9_take_63 ?_
        refine i_iload_n B 3 dX9_take_66 rfl ?_
        refine i_iload B 0 dX9_take_67 rfl ?_
        refine i_iastN B 26 at_ (mW E h q g (va_up (va_up a 36 (upd (a 36) at_ (((a 36) fr) + more))) 37 (upd (a 37) at_ (((a 37) fr) + ap)))) rfl rfl (by omega) (by decide) rfl dX9_take_69 ?_
        exact ret _ _ ((upd (a 36) at_ (((a 36) fr) + more)), (upd (a 37) at_ (((a 37) fr) + ap))) dX9_take_70 (by simp only [tkf, h1, h2d, h3, decide_true, decide_false, Bool.not_true, Bool.not_false, Bool.true_and, Bool.false_and, Bool.and_true, Bool.and_false, Bool.true_or, Bool.or_true, Bool.false_or, Bool.or_false, Bool.and_self, Bool.or_self, bI_t, bI_f, if_true, if_false, ite_true, ite_false, Bool.false_eq_true, Bool.true_eq_false, eq_self, reduceIte, true_or, or_true, false_or, or_false, and_true, true_and, and_false, false_and, not_true_eq_false, not_false_eq_true, decide_eq_true_eq, decide_eq_false_iff_not])
