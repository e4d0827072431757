def pin (v a b : Int64) : Bool := !decide (v < a) && !decide (b < v)
def sgn (v : Int32) : Int32 := if 0 < v then 1 else if v < 0 then -1 else 0
def wit (x a b : Int32) : Bool := !decide (x < a) && !decide (b < x)
theorem q64 {a b : Int32} : a.toInt64 < b.toInt64 ↔ a < b := by
  rw [Int64.lt_iff_toInt_lt, Int32.lt_iff_toInt_lt, Int32.toInt_toInt64, Int32.toInt_toInt64]
theorem pin_i (x a b : Int32) : pin x.toInt64 a.toInt64 b.toInt64 = wit x a b := by
  unfold pin wit
  rw [decide_eq_decide.mpr (q64 (a := x) (b := a)), decide_eq_decide.mpr (q64 (a := b) (b := x))]
def pt (x y : Int32) : Bool := wit x 0 60 && wit y 0 60
def bt1 (a b c : Int32) : Bool := if a < b then wit c a b else wit c b a
def btw (ax ay bx by_ cx cy : Int32) : Bool := bt1 ax bx cx && bt1 ay by_ cy
def crs (ax ay bx by_ : Int32) : Int32 := ax * by_ - ay * bx
def mtt (a b c d : Int32) (p q r s : Bool) : Bool := (decide (a * b < 0) && decide (c * d < 0)) || (decide (a = 0) && p) || (decide (b = 0) && q) || (decide (c = 0) && r) || (decide (d = 0) && s)
/-- the reference's test of two ways -/
def mt (ax ay bx by_ cx cy dx dy : Int32) : Bool := mtt (sgn (crs (dx - cx) (dy - cy) (ax - cx) (ay - cy))) (sgn (crs (dx - cx) (dy - cy) (bx - cx) (by_ - cy))) (sgn (crs (bx - ax) (by_ - ay) (cx - ax) (cy - ay))) (sgn (crs (bx - ax) (by_ - ay) (dx - ax) (dy - ay))) (btw cx cy dx dy ax ay) (btw cx cy dx dy bx by_) (btw ax ay bx by_ cx cy) (btw ax ay bx by_ dx dy)

set_option maxHeartbeats 4000000 in
set_option maxRecDepth 100000 in
theorem k_X9_in (l : Launch) (E : ED) (v a b : Int64) : RO l E yX9_in cX9_in 6 .boolean 0 0 [.long v, .long a, .long b] [] (fun r => r = bI (pin v a b)) := by
  refine RO.mk (by decide) (Nat.le_of_ble_eq_true rfl) [(0, .long v), (2, .long a), (4, .long b)] rfl (fun Z B ret => ?_)
  refine i_lload_n B 0 dX9_in_0 rfl ?_
  refine i_lload_n B 1 dX9_in_1 rfl ?_
  refine i_lc_lt B 17 dX9_in_2 dX9_in_3 (by decide) (fun h1 => ?_) (fun h1 => ?_)
  · refine i_iconst (v := 0) B dX9_in_17 (by decide) ?_
    exact ret _ _ _ (by decide) dX9_in_18 (by simp only [pin, h1, decide_true, decide_false, Bool.not_true, Bool.not_false, Bool.true_and, Bool.false_and, Bool.and_true, Bool.and_false, Bool.true_or, Bool.or_true, Bool.false_or, Bool.or_false, Bool.and_self, Bool.or_self, bI_t, bI_f, if_true, if_false, ite_true, ite_false, Bool.false_eq_true, Bool.true_eq_false, eq_self, reduceIte, true_or, or_true, false_or, or_false, and_true, true_and, and_false, false_and, not_true_eq_false, not_false_eq_true, decide_eq_true_eq, decide_eq_false_iff_not])
  · refine i_lload_n B 0 dX9_in_6 rfl ?_
    refine i_lload B 2 dX9_in_7 rfl ?_
    refine i_lc_gt B 17 dX9_in_9 dX9_in_10 (by decide) (fun h2 => ?_) (fun h2 => ?_)
    · refine i_iconst (v := 0) B dX9_in_17 (by decide) ?_
      exact ret _ _ _ (by decide) dX9_in_18 (by simp only [pin, h1, h2, decide_true, decide_false, Bool.not_true, Bool.not_false, Bool.true_and, Bool.false_and, Bool.and_true, Bool.and_false, Bool.true_or, Bool.or_true, Bool.false_or, Bool.or_false, Bool.and_self, Bool.or_self, bI_t, bI_f, if_true, if_false, ite_true, ite_false, Bool.false_eq_true, Bool.true_eq_false, eq_self, reduceIte, true_or, or_true, false_or, or_false, and_true, true_and, and_false, false_and, not_true_eq_false, not_false_eq_true, decide_eq_true_eq, decide_eq_false_iff_not])
    · refine i_iconst (v := 1) B dX9_in_13 (by decide) ?_
      refine i_goto B 18 dX9_in_14 (by decide) ?_
      exact ret _ _ _ (by decide) dX9_in_18 (by simp only [pin, h1, h2, decide_true, decide_false, Bool.not_true, Bool.not_false, Bool.true_and, Bool.false_and, Bool.and_true, Bool.and_false, Bool.true_or, Bool.or_true, Bool.false_or, Bool.or_false, Bool.and_self, Bool.or_self, bI_t, bI_f, if_true, if_false, ite_true, ite_false, Bool.false_eq_true, Bool.true_eq_false, eq_self, reduceIte, true_or, or_true, false_or, or_false, and_true, true_and, and_false, false_and, not_true_eq_false, not_false_eq_true, decide_eq_true_eq, decide_eq_false_iff_not])

set_option maxHeartbeats 4000000 in
set_option maxRecDepth 100000 in
theorem k_X9_noPoint (l : Launch) (E : ED) (x y : Int32) : RO l E yX9_noPoint cX9_noPoint 2 .boolean 1 25 [.int x, .int y] [] (fun r => r = bI (!pt x y)) := by
  refine RO.mk (by decide) (Nat.le_of_ble_eq_true rfl) [(0, .int x), (1, .int y)] rfl (fun Z B ret => ?_)
  refine i_iload_n B 0 dX9_noPoint_0 rfl ?_
  refine i_i2l B dX9_noPoint_1 ?_
  refine i_lconst (v := 0) B dX9_noPoint_2 (by decide) ?_
  refine i_ldc2 B ckX9_102 dX9_noPoint_3 ?_
  refine c_roS (rest := []) (As := [.long (Int32.toInt64 x), .long 0, .long 60]) B (k_X9_in l E (Int32.toInt64 x) 0 60) cal_yX9_in is_yX9_in mlX9_104 (by decide) (by decide) rfl (Nat.le_of_ble_eq_true rfl) Has.nil _ rfl dX9_noPoint_6 (fun r hr => ?_)
  subst hr
  refine i_val (v' := .int (bI (wit x 0 60))) (congrArg (fun z => Value.int (bI z)) (pin_i x 0 60)) ?_
  refine i_if_eq B 24 dX9_noPoint_9 (by decide) (fun h1 => ?_) (fun h1 => ?_)
  · replace h1 := bI_0.mp h1
    refine i_iconst (v := 1) B dX9_noPoint_24 (by decide) ?_
    refine i_goto B 29 dX9_noPoint_25 (by decide) ?_
    exact ret _ _ _ (by decide) dX9_noPoint_29 (by simp only [pt, h1, decide_true, decide_false, Bool.not_true, Bool.not_false, Bool.true_and, Bool.false_and, Bool.and_true, Bool.and_false, Bool.true_or, Bool.or_true, Bool.false_or, Bool.or_false, Bool.and_self, Bool.or_self, bI_t, bI_f, if_true, if_false, ite_true, ite_false, Bool.false_eq_true, Bool.true_eq_false, eq_self, reduceIte, true_or, or_true, false_or, or_false, and_true, true_and, and_false, false_and, not_true_eq_false, not_false_eq_true, decide_eq_true_eq, decide_eq_false_iff_not])
  · replace h1 := bI_n.mp h1
    refine i_iload_n B 1 dX9_noPoint_12 rfl ?_
    refine i_i2l B dX9_noPoint_13 ?_
    refine i_lconst (v := 0) B dX9_noPoint_14 (by decide) ?_
    refine i_ldc2 B ckX9_102 dX9_noPoint_15 ?_
    refine c_roS (rest := []) (As := [.long (Int32.toInt64 y), .long 0, .long 60]) B (k_X9_in l E (Int32.toInt64 y) 0 60) cal_yX9_in is_yX9_in mlX9_104 (by decide) (by decide) rfl (Nat.le_of_ble_eq_true rfl) Has.nil _ rfl dX9_noPoint_18 (fun r hr => ?_)
    subst hr
    refine i_val (v' := .int (bI (wit y 0 60))) (congrArg (fun z => Value.int (bI z)) (pin_i y 0 60)) ?_
    refine i_if_ne B 28 dX9_noPoint_21 (by decide) (fun h2 => ?_) (fun h2 => ?_)
    · replace h2 := bI_n.mp h2
      refine i_iconst (v := 0) B dX9_noPoint_28 (by decide) ?_
      exact ret _ _ _ (by decide) dX9_noPoint_29 (by simp only [pt, h1, h2, decide_true, decide_false, Bool.not_true, Bool.not_false, Bool.true_and, Bool.false_and, Bool.and_true, Bool.and_false, Bool.true_or, Bool.or_true, Bool.false_or, Bool.or_false, Bool.and_self, Bool.or_self, bI_t, bI_f, if_true, if_false, ite_true, ite_false, Bool.false_eq_true, Bool.true_eq_false, eq_self, reduceIte, true_or, or_true, false_or, or_false, and_true, true_and, and_false, false_and, not_true_eq_false, not_false_eq_true, decide_eq_true_eq, decide_eq_false_iff_not])
    · replace h2 := bI_0.mp h2
      refine i_iconst (v := 1) B dX9_noPoint_24 (by decide) ?_
      refine i_goto B 29 dX9_noPoint_25 (by decide) ?_
      exact ret _ _ _ (by decide) dX9_noPoint_29 (by simp only [pt, h1, h2, decide_true, decide_false, Bool.not_true, Bool.not_false, Bool.true_and, Bool.false_and, Bool.and_true, Bool.and_false, Bool.true_or, Bool.or_true, Bool.false_or, Bool.or_false, Bool.and_self, Bool.or_self, bI_t, bI_f, if_true, if_false, ite_true, ite_false, Bool.false_eq_true, Bool.true_eq_false, eq_self, reduceIte, true_or, or_true, false_or, or_false, and_true, true_and, and_false, false_and, not_true_eq_false, not_false_eq_true, decide_eq_true_eq, decide_eq_false_iff_not])

set_option maxHeartbeats 4000000 in
set_option maxRecDepth 100000 in
theorem k_X9_cross (l : Launch) (E : ED) (ax ay bx by_ : Int32) : RO l E yX9_cross cX9_cross 4 .int 0 0 [.int ax, .int ay, .int bx, .int by_] [] (fun r => r = crs ax ay bx by_) := by
  refine RO.mk (by decide) (Nat.le_of_ble_eq_true rfl) [(0, .int ax), (1, .int ay), (2, .int bx), (3, .int by_)] rfl (fun Z B ret => ?_)
  refine i_iload_n B 0 dX9_cross_0 rfl ?_
  refine i_iload_n B 3 dX9_cross_1 rfl ?_
  refine i_imul B dX9_cross_2 ?_
  refine i_iload_n B 1 dX9_cross_3 rfl ?_
  refine i_iload_n B 2 dX9_cross_4 rfl ?_
  refine i_imul B dX9_cross_5 ?_
  refine i_isub B dX9_cross_6 ?_
  exact ret _ _ _ rfl dX9_cross_7 (rfl)

set_option maxHeartbeats 4000000 in
set_option maxRecDepth 100000 in
theorem k_X9_sign (l : Launch) (E : ED) (v : Int32) : RO l E yX9_sign cX9_sign 1 .int 0 0 [.int v] [] (fun r => r = sgn v) := by
  refine RO.mk (by decide) (Nat.le_of_ble_eq_true rfl) [(0, .int v)] rfl (fun Z B ret => ?_)
  refine i_iload_n B 0 dX9_sign_0 rfl ?_
  refine i_if_le B 8 dX9_sign_1 (by decide) (fun h1 => ?_) (fun h1 => ?_)
  · replace h1 := q_n32.mpr h1
    refine i_iload_n B 0 dX9_sign_8 rfl ?_
    refine i_if_ge B 16 dX9_sign_9 (by decide) (fun h2 => ?_) (fun h2 => ?_)
    · replace h2 := q_n32.mpr h2
      refine i_iconst (v := 0) B dX9_sign_16 (by decide) ?_
      exact ret _ _ _ rfl dX9_sign_17 (by simp only [sgn]; simp [h1, h2])
    · replace h2 := q_m32.mp h2
      refine i_iconst (v := (-1)) B dX9_sign_12 (by decide) ?_
      refine i_goto B 17 dX9_sign_13 (by decide) ?_
      exact ret _ _ _ rfl dX9_sign_17 (by simp only [sgn]; simp [h1, h2])
  · replace h1 := q_m32.mp h1
    refine i_iconst (v := 1) B dX9_sign_4 (by decide) ?_
    refine i_goto B 17 dX9_sign_5 (by decide) ?_
    exact ret _ _ _ rfl dX9_sign_17 (by simp only [sgn]; simp [h1])

set_option maxHeartbeats 4000000 in
set_option maxRecDepth 100000 in
theorem k_X9_isBetween (l : Launch) (E : ED) (ax ay bx by_ cx cy : Int32) : RO l E yX9_isBetween cX9_isBetween 8 .boolean 1 25 [.int ax, .int ay, .int bx, .int by_, .int cx, .int cy] [] (fun r => r = bI (btw ax ay bx by_ cx cy)) := by
  refine RO.mk (by decide) (Nat.le_of_ble_eq_true rfl) [(0, .int ax), (1, .int ay), (2, .int bx), (3, .int by_), (4, .int cx), (5, .int cy)] rfl (fun Z B ret => ?_)
  refine i_iload_n B 0 dX9_isBetween_0 rfl ?_
  refine i_iload_n B 2 dX9_isBetween_1 rfl ?_
  refine i_icmp_ge B 18 dX9_isBetween_2 (by decide) (fun h1 => ?_) (fun h1 => ?_)
  · replace h1 := q_n32.mpr h1
    refine i_iload B 4 dX9_isBetween_18 rfl ?_
    refine i_i2l B dX9_isBetween_20 ?_
    refine i_iload_n B 2 dX9_isBetween_21 rfl ?_
    refine i_i2l B dX9_isBetween_22 ?_
    refine i_iload_n B 0 dX9_isBetween_23 rfl ?_
    refine i_i2l B dX9_isBetween_24 ?_
    refine c_roS (rest := []) (As := [.long (Int32.toInt64 cx), .long (Int32.toInt64 bx), .long (Int32.toInt64 ax)]) B (k_X9_in l E (Int32.toInt64 cx) (Int32.toInt64 bx) (Int32.toInt64 ax)) cal_yX9_in is_yX9_in mlX9_104 (by decide) (by decide) rfl (Nat.le_of_ble_eq_true rfl) Has.nil _ rfl dX9_isBetween_25 (fun r hr => ?_)
    subst hr
    refine i_val (v' := .int (bI (wit cx bx ax))) (congrArg (fun z => Value.int (bI z)) (pin_i cx bx ax)) ?_
    refine i_istore B [(6, .int (bI (wit cx bx ax))), (0, .int ax), (1, .int ay), (2, .int bx), (3, .int by_), (4, .int cx), (5, .int cy)] dX9_isBetween_28 (by decide) rfl ?_
    refine i_iload_n B 2 dX9_isBetween_30 rfl ?_
    refine i_iload_n B 4 dX9_isBetween_31 rfl ?_
    refine i_icmp_ge B 48 dX9_isBetween_32 (by decide) (fun h2 => ?_) (fun h2 => ?_)
    · replace h2 := q_n32.mpr h2
      refine i_iload B 6 dX9_isBetween_48 rfl ?_
      refine i_i2l B dX9_isBetween_50 ?_
      refine i_iload_n B 4 dX9_isBetween_51 rfl ?_
      refine i_i2l B dX9_isBetween_52 ?_
      refine i_iload_n B 2 dX9_isBetween_53 rfl ?_
      refine i_i2l B dX9_isBetween_54 ?_
      refine c_roS (rest := []) (As := [.long (Int32.toInt64 cy), .long (Int32.toInt64 by_), .long (Int32.toInt64 ay)]) B (k_X9_in l E (Int32.toInt64 cy) (Int32.toInt64 by_) (Int32.toInt64 ay)) cal_yX9_in is_yX9_in mlX9_104 (by decide) (by decide) rfl (Nat.le_of_ble_eq_true rfl) Has.nil _ rfl dX9_isBetween_55 (fun r hr => ?_)
      subst hr
      refine i_val (v' := .int (bI (wit cy by_ ay))) (congrArg (fun z => Value.int (bI z)) (pin_i cy by_ ay)) ?_
      refine i_istore B [(7, .int (bI (wit cy by_ ay))), (6, .int (bI (wit cx bx ax))), (0, .int ax), (1, .int ay), (2, .int bx), (3, .int by_), (4, .int cx), (5, .int cy)] dX9_isBetween_58 (by decide) rfl ?_
      refine i_iload B 1 dX9_isBetween_60 rfl ?_
      refine i_if_eq B 74 dX9_isBetween_62 (by decide) (fun h3 => ?_) (fun h3 => ?_)
      · replace h3 := bI_0.mp h3
        refine i_iconst (v := 0) B dX9_isBetween_74 (by decide) ?_
        exact ret _ _ _ (by decide) dX9_isBetween_75 (by simp only [btw, bt1]; simp [bI, h1, h2, h3])
      · replace h3 := bI_n.mp h3
        refine i_iload B 0 dX9_isBetween_65 rfl ?_
        refine i_if_eq B 74 dX9_isBetween_67 (by decide) (fun h4 => ?_) (fun h4 => ?_)
        · replace h4 := bI_0.mp h4
          refine i_iconst (v := 0) B dX9_isBetween_74 (by decide) ?_
          exact ret _ _ _ (by decide) dX9_isBetween_75 (by simp only [btw, bt1]; simp [bI, h1, h2, h3, h4])
        · replace h4 := bI_n.mp h4
          refine i_iconst (v := 1) B dX9_isBetween_70 (by decide) ?_
          refine i_goto B 75 dX9_isBetween_71 (by decide) ?_
          exact ret _ _ _ (by decide) dX9_isBetween_75 (by simp only [btw, bt1]; simp [bI, h1, h2, h3, h4])
    · replace h2 := q_m32.mp h2
      refine i_iload B 6 dX9_isBetween_35 rfl ?_
      refine i_i2l B dX9_isBetween_37 ?_
      refine i_iload_n B 2 dX9_isBetween_38 rfl ?_
      refine i_i2l B dX9_isBetween_39 ?_
      refine i_iload_n B 4 dX9_isBetween_40 rfl ?_
      refine i_i2l B dX9_isBetween_41 ?_
      refine c_roS (rest := []) (As := [.long (Int32.toInt64 cy), .long (Int32.toInt64 ay), .long (Int32.toInt64 by_)]) B (k_X9_in l E (Int32.toInt64 cy) (Int32.toInt64 ay) (Int32.toInt64 by_)) cal_yX9_in is_yX9_in mlX9_104 (by decide) (by decide) rfl (Nat.le_of_ble_eq_true rfl) Has.nil _ rfl dX9_isBetween_42 (fun r hr => ?_)
      subst hr
      refine i_val (v' := .int (bI (wit cy ay by_))) (congrArg (fun z => Value.int (bI z)) (pin_i cy ay by_)) ?_
      refine i_goto B 58 dX9_isBetween_45 (by decide) ?_
      refine i_istore B [(7, .int (bI (wit cy ay by_))), (6, .int (bI (wit cx bx ax))), (0, .int ax), (1, .int ay), (2, .int bx), (3, .int by_), (4, .int cx), (5, .int cy)] dX9_isBetween_58 (by decide) rfl ?_
      refine i_iload B 1 dX9_isBetween_60 rfl ?_
      refine i_if_eq B 74 dX9_isBetween_62 (by decide) (fun h5 => ?_) (fun h5 => ?_)
      · replace h5 := bI_0.mp h5
        refine i_iconst (v := 0) B dX9_isBetween_74 (by decide) ?_
        exact ret _ _ _ (by decide) dX9_isBetween_75 (by simp only [btw, bt1]; simp [bI, h1, h2, h5])
      · replace h5 := bI_n.mp h5
        refine i_iload B 0 dX9_isBetween_65 rfl ?_
        refine i_if_eq B 74 dX9_isBetween_67 (by decide) (fun h6 => ?_) (fun h6 => ?_)
        · replace h6 := bI_0.mp h6
          refine i_iconst (v := 0) B dX9_isBetween_74 (by decide) ?_
          exact ret _ _ _ (by decide) dX9_isBetween_75 (by simp only [btw, bt1]; simp [bI, h1, h2, h5, h6])
        · replace h6 := bI_n.mp h6
          refine i_iconst (v := 1) B dX9_isBetween_70 (by decide) ?_
          refine i_goto B 75 dX9_isBetween_71 (by decide) ?_
          exact ret _ _ _ (by decide) dX9_isBetween_75 (by simp only [btw, bt1]; simp [bI, h1, h2, h5, h6])
  · replace h1 := q_m32.mp h1
    refine i_iload B 4 dX9_isBetween_5 rfl ?_
    refine i_i2l B dX9_isBetween_7 ?_
    refine i_iload_n B 0 dX9_isBetween_8 rfl ?_
    refine i_i2l B dX9_isBetween_9 ?_
    refine i_iload_n B 2 dX9_isBetween_10 rfl ?_
    refine i_i2l B dX9_isBetween_11 ?_
    refine c_roS (rest := []) (As := [.long (Int32.toInt64 cx), .long (Int32.toInt64 ax), .long (Int32.toInt64 bx)]) B (k_X9_in l E (Int32.toInt64 cx) (Int32.toInt64 ax) (Int32.toInt64 bx)) cal_yX9_in is_yX9_in mlX9_104 (by decide) (by decide) rfl (Nat.le_of_ble_eq_true rfl) Has.nil _ rfl dX9_isBetween_12 (fun r hr => ?_)
    subst hr
    refine i_val (v' := .int (bI (wit cx ax bx))) (congrArg (fun z => Value.int (bI z)) (pin_i cx ax bx)) ?_
    refine i_goto B 28 dX9_isBetween_15 (by decide) ?_
    refine i_istore B [(6, .int (bI (wit cx ax bx))), (0, .int ax), (1, .int ay), (2, .int bx), (3, .int by_), (4, .int cx), (5, .int cy)] dX9_isBetween_28 (by decide) rfl ?_
    refine i_iload_n B 2 dX9_isBetween_30 rfl ?_
    refine i_iload_n B 4 dX9_isBetween_31 rfl ?_
    refine i_icmp_ge B 48 dX9_isBetween_32 (by decide) (fun h7 => ?_) (fun h7 => ?_)
    · replace h7 := q_n32.mpr h7
      refine i_iload B 6 dX9_isBetween_48 rfl ?_
      refine i_i2l B dX9_isBetween_50 ?_
      refine i_iload_n B 4 dX9_isBetween_51 rfl ?_
      refine i_i2l B dX9_isBetween_52 ?_
      refine i_iload_n B 2 dX9_isBetween_53 rfl ?_
      refine i_i2l B dX9_isBetween_54 ?_
      refine c_roS (rest := []) (As := [.long (Int32.toInt64 cy), .long (Int32.toInt64 by_), .long (Int32.toInt64 ay)]) B (k_X9_in l E (Int32.toInt64 cy) (Int32.toInt64 by_) (Int32.toInt64 ay)) cal_yX9_in is_yX9_in mlX9_104 (by decide) (by decide) rfl (Nat.le_of_ble_eq_true rfl) Has.nil _ rfl dX9_isBetween_55 (fun r hr => ?_)
      subst hr
      refine i_val (v' := .int (bI (wit cy by_ ay))) (congrArg (fun z => Value.int (bI z)) (pin_i cy by_ ay)) ?_
      refine i_istore B [(7, .int (bI (wit cy by_ ay))), (6, .int (bI (wit cx ax bx))), (0, .int ax), (1, .int ay), (2, .int bx), (3, .int by_), (4, .int cx), (5, .int cy)] dX9_isBetween_58 (by decide) rfl ?_
      refine i_iload B 1 dX9_isBetween_60 rfl ?_
      refine i_if_eq B 74 dX9_isBetween_62 (by decide) (fun h8 => ?_) (fun h8 => ?_)
      · replace h8 := bI_0.mp h8
        refine i_iconst (v := 0) B dX9_isBetween_74 (by decide) ?_
        exact ret _ _ _ (by decide) dX9_isBetween_75 (by simp only [btw, bt1]; simp [bI, h1, h7, h8])
      · replace h8 := bI_n.mp h8
        refine i_iload B 0 dX9_isBetween_65 rfl ?_
        refine i_if_eq B 74 dX9_isBetween_67 (by decide) (fun h9 => ?_) (fun h9 => ?_)
        · replace h9 := bI_0.mp h9
          refine i_iconst (v := 0) B dX9_isBetween_74 (by decide) ?_
          exact ret _ _ _ (by decide) dX9_isBetween_75 (by simp only [btw, bt1]; simp [bI, h1, h7, h8, h9])
        · replace h9 := bI_n.mp h9
          refine i_iconst (v := 1) B dX9_isBetween_70 (by decide) ?_
          refine i_goto B 75 dX9_isBetween_71 (by decide) ?_
          exact ret _ _ _ (by decide) dX9_isBetween_75 (by simp only [btw, bt1]; simp [bI, h1, h7, h8, h9])
    · replace h7 := q_m32.mp h7
      refine i_iload B 6 dX9_isBetween_35 rfl ?_
      refine i_i2l B dX9_isBetween_37 ?_
      refine i_iload_n B 2 dX9_isBetween_38 rfl ?_
      refine i_i2l B dX9_isBetween_39 ?_
      refine i_iload_n B 4 dX9_isBetween_40 rfl ?_
      refine i_i2l B dX9_isBetween_41 ?_
      refine c_roS (rest := []) (As := [.long (Int32.toInt64 cy), .long (Int32.toInt64 ay), .long (Int32.toInt64 by_)]) B (k_X9_in l E (Int32.toInt64 cy) (Int32.toInt64 ay) (Int32.toInt64 by_)) cal_yX9_in is_yX9_in mlX9_104 (by decide) (by decide) rfl (Nat.le_of_ble_eq_true rfl) Has.nil _ rfl dX9_isBetween_42 (fun r hr => ?_)
      subst hr
      refine i_val (v' := .int (bI (wit cy ay by_))) (congrArg (fun z => Value.int (bI z)) (pin_i cy ay by_)) ?_
      refine i_goto B 58 dX9_isBetween_45 (by decide) ?_
      refine i_istore B [(7, .int (bI (wit cy ay by_))), (6, .int (bI (wit cx ax bx))), (0, .int ax), (1, .int ay), (2, .int bx), (3, .int by_), (4, .int cx), (5, .int cy)] dX9_isBetween_58 (by decide) rfl ?_
      refine i_iload B 1 dX9_isBetween_60 rfl ?_
      refine i_if_eq B 74 dX9_isBetween_62 (by decide) (fun h10 => ?_) (fun h10 => ?_)
      · replace h10 := bI_0.mp h10
        refine i_iconst (v := 0) B dX9_isBetween_74 (by decide) ?_
        exact ret _ _ _ (by decide) dX9_isBetween_75 (by simp only [btw, bt1]; simp [bI, h1, h7, h10])
      · replace h10 := bI_n.mp h10
        refine i_iload B 0 dX9_isBetween_65 rfl ?_
        refine i_if_eq B 74 dX9_isBetween_67 (by decide) (fun h11 => ?_) (fun h11 => ?_)
        · replace h11 := bI_0.mp h11
          refine i_iconst (v := 0) B dX9_isBetween_74 (by decide) ?_
          exact ret _ _ _ (by decide) dX9_isBetween_75 (by simp only [btw, bt1]; simp [bI, h1, h7, h10, h11])
        · replace h11 := bI_n.mp h11
          refine i_iconst (v := 1) B dX9_isBetween_70 (by decide) ?_
          refine i_goto B 75 dX9_isBetween_71 (by decide) ?_
          exact ret _ _ _ (by decide) dX9_isBetween_75 (by simp only [btw, bt1]; simp [bI, h1, h7, h10, h11])

set_option maxHeartbeats 4000000 in
set_option maxRecDepth 100000 in
theorem k_X9_meet (l : Launch) (E : ED) (ax ay bx by_ cx cy dx dy : Int32) : RO l E yX9_meet cX9_meet 12 .boolean 2 52 [.int ax, .int ay, .int bx, .int by_, .int cx, .int cy, .int dx, .int dy] [] (fun r => r = bI (mt ax ay bx by_ cx cy dx dy)) := by
  refine RO.mk (by decide) (Nat.le_of_ble_eq_true rfl) [(0, .int ax), (1, .int ay), (2, .int bx), (3, .int by_), (4, .int cx), (5, .int cy), (6, .int dx), (7, .int dy)] rfl (fun Z B ret => ?_)
  have j175 : ∀ (a : Int32) (b : Int32) (c : Int32) (d : Int32), ((decide (a * b < 0) && decide (c * d < 0)) = false) → ((decide (a = 0) && btw cx cy dx dy ax ay) = false) → ((decide (b = 0) && btw cx cy dx dy bx by_) = false) → ((decide (c = 0) && btw ax ay bx by_ cx cy) = false) → (a = sgn (crs (dx - cx) (dy - cy) (ax - cx) (ay - cy))) → (b = sgn (crs (dx - cx) (dy - cy) (bx - cx) (by_ - cy))) → (c = sgn (crs (bx - ax) (by_ - ay) (cx - ax) (cy - ay))) → (d = sgn (crs (bx - ax) (by_ - ay) (dx - ax) (dy - ay))) → J Z 0 0 [] 175 [(0, .int ax), (1, .int ay), (2, .int bx), (3, .int by_), (4, .int cx), (5, .int cy), (6, .int dx), (7, .int dy), (8, .int a), (9, .int b), (10, .int c), (11, .int d)] [] := by
    intro a b c d f0 f1 f2 f3 ea eb ec ed
    refine i_iload B 11 dX9_meet_175 rfl ?_
    refine i_if_ne B 198 dX9_meet_177 (by decide) (fun h1 => ?_) (fun h1 => ?_)
    · have h1d := decide_eq_false h1
      refine i_iconst (v := 0) B dX9_meet_198 (by decide) ?_
      exact ret _ _ _ (by decide) dX9_meet_199 (by rw [mt, ← ea, ← eb, ← ec, ← ed, mtt]; simp [bI, f0, f1, f2, f3, h1])
    · have h1d := decide_eq_true h1
      refine i_iload_n B 0 dX9_meet_180 rfl ?_
      refine i_iload_n B 1 dX9_meet_181 rfl ?_
      refine i_iload_n B 2 dX9_meet_182 rfl ?_
      refine i_iload_n B 3 dX9_meet_183 rfl ?_
      refine i_iload B 6 dX9_meet_184 rfl ?_
      refine i_iload B 7 dX9_meet_186 rfl ?_
      refine c_roS (rest := []) (As := [.int ax, .int ay, .int bx, .int by_, .int dx, .int dy]) B (k_X9_isBetween l E ax ay bx by_ dx dy) cal_yX9_isBetween is_yX9_isBetween mlX9_122 (by decide) (by decide) rfl (Nat.le_of_ble_eq_true rfl) Has.nil _ rfl dX9_meet_188 (fun r hr => ?_)
      subst hr
      refine i_val (v' := .int (bI (btw ax ay bx by_ dx dy))) rfl ?_
      refine i_if_eq B 198 dX9_meet_191 (by decide) (fun h2 => ?_) (fun h2 => ?_)
      · replace h2 := bI_0.mp h2
        refine i_iconst (v := 0) B dX9_meet_198 (by decide) ?_
        exact ret _ _ _ (by decide) dX9_meet_199 (by rw [mt, ← ea, ← eb, ← ec, ← ed, mtt]; simp [bI, f0, f1, f2, f3, h1, h2])
      · replace h2 := bI_n.mp h2
        refine i_iconst (v := 1) B dX9_meet_194 (by decide) ?_
        refine i_goto B 199 dX9_meet_195 (by decide) ?_
        exact ret _ _ _ (by decide) dX9_meet_199 (by rw [mt, ← ea, ← eb, ← ec, ← ed, mtt]; simp [bI, f0, f1, f2, f3, h1, h2])
  have j156 : ∀ (a : Int32) (b : Int32) (c : Int32) (d : Int32), ((decide (a * b < 0) && decide (c * d < 0)) = false) → ((decide (a = 0) && btw cx cy dx dy ax ay) = false) → ((decide (b = 0) && btw cx cy dx dy bx by_) = false) → (a = sgn (crs (dx - cx) (dy - cy) (ax - cx) (ay - cy))) → (b = sgn (crs (dx - cx) (dy - cy) (bx - cx) (by_ - cy))) → (c = sgn (crs (bx - ax) (by_ - ay) (cx - ax) (cy - ay))) → (d = sgn (crs (bx - ax) (by_ - ay) (dx - ax) (dy - ay))) → J Z 0 0 [] 156 [(0, .int ax), (1, .int ay), (2, .int bx), (3, .int by_), (4, .int cx), (5, .int cy), (6, .int dx), (7, .int dy), (8, .int a), (9, .int b), (10, .int c), (11, .int d)] [] := by
    intro a b c d f0 f1 f2 ea eb ec ed
    refine i_iload B 10 dX9_meet_156 rfl ?_
    refine i_if_ne B 175 dX9_meet_158 (by decide) (fun h3 => ?_) (fun h3 => ?_)
    · have h3d := decide_eq_false h3
      exact j175 a b c d f0 f1 f2 (by simp [h3]) ea eb ec ed
    · have h3d := decide_eq_true h3
      refine i_iload_n B 0 dX9_meet_161 rfl ?_
      refine i_iload_n B 1 dX9_meet_162 rfl ?_
      refine i_iload_n B 2 dX9_meet_163 rfl ?_
      refine i_iload_n B 3 dX9_meet_164 rfl ?_
      refine i_iload B 4 dX9_meet_165 rfl ?_
      refine i_iload B 5 dX9_meet_167 rfl ?_
      refine c_roS (rest := []) (As := [.int ax, .int ay, .int bx, .int by_, .int cx, .int cy]) B (k_X9_isBetween l E ax ay bx by_ cx cy) cal_yX9_isBetween is_yX9_isBetween mlX9_122 (by decide) (by decide) rfl (Nat.le_of_ble_eq_true rfl) Has.nil _ rfl dX9_meet_169 (fun r hr => ?_)
      subst hr
      refine i_val (v' := .int (bI (btw ax ay bx by_ cx cy))) rfl ?_
      refine i_if_ne B 194 dX9_meet_172 (by decide) (fun h4 => ?_) (fun h4 => ?_)
      · replace h4 := bI_n.mp h4
        refine i_iconst (v := 1) B dX9_meet_194 (by decide) ?_
        refine i_goto B 199 dX9_meet_195 (by decide) ?_
        exact ret _ _ _ (by decide) dX9_meet_199 (by rw [mt, ← ea, ← eb, ← ec, ← ed, mtt]; simp [bI, f0, f1, f2, h3, h4])
      · replace h4 := bI_0.mp h4
        exact j175 a b c d f0 f1 f2 (by simp [h3, h4]) ea eb ec ed
  have j135 : ∀ (a : Int32) (b : Int32) (c : Int32) (d : Int32), ((decide (a * b < 0) && decide (c * d < 0)) = false) → ((decide (a = 0) && btw cx cy dx dy ax ay) = false) → (a = sgn (crs (dx - cx) (dy - cy) (ax - cx) (ay - cy))) → (b = sgn (crs (dx - cx) (dy - cy) (bx - cx) (by_ - cy))) → (c = sgn (crs (bx - ax) (by_ - ay) (cx - ax) (cy - ay))) → (d = sgn (crs (bx - ax) (by_ - ay) (dx - ax) (dy - ay))) → J Z 0 0 [] 135 [(0, .int ax), (1, .int ay), (2, .int bx), (3, .int by_), (4, .int cx), (5, .int cy), (6, .int dx), (7, .int dy), (8, .int a), (9, .int b), (10, .int c), (11, .int d)] [] := by
    intro a b c d f0 f1 ea eb ec ed
    refine i_iload B 9 dX9_meet_135 rfl ?_
    refine i_if_ne B 156 dX9_meet_137 (by decide) (fun h5 => ?_) (fun h5 => ?_)
    · have h5d := decide_eq_false h5
      exact j156 a b c d f0 f1 (by simp [h5]) ea eb ec ed
    · have h5d := decide_eq_true h5
      refine i_iload B 4 dX9_meet_140 rfl ?_
      refine i_iload B 5 dX9_meet_142 rfl ?_
      refine i_iload B 6 dX9_meet_144 rfl ?_
      refine i_iload B 7 dX9_meet_146 rfl ?_
      refine i_iload_n B 2 dX9_meet_148 rfl ?_
      refine i_iload_n B 3 dX9_meet_149 rfl ?_
      refine c_roS (rest := []) (As := [.int cx, .int cy, .int dx, .int dy, .int bx, .int by_]) B (k_X9_isBetween l E cx cy dx dy bx by_) cal_yX9_isBetween is_yX9_isBetween mlX9_122 (by decide) (by decide) rfl (Nat.le_of_ble_eq_true rfl) Has.nil _ rfl dX9_meet_150 (fun r hr => ?_)
      subst hr
      refine i_val (v' := .int (bI (btw cx cy dx dy bx by_))) rfl ?_
      refine i_if_ne B 194 dX9_meet_153 (by decide) (fun h6 => ?_) (fun h6 => ?_)
      · replace h6 := bI_n.mp h6
        refine i_iconst (v := 1) B dX9_meet_194 (by decide) ?_
        refine i_goto B 199 dX9_meet_195 (by decide) ?_
        exact ret _ _ _ (by decide) dX9_meet_199 (by rw [mt, ← ea, ← eb, ← ec, ← ed, mtt]; simp [bI, f0, f1, h5, h6])
      · replace h6 := bI_0.mp h6
        exact j156 a b c d f0 f1 (by simp [h5, h6]) ea eb ec ed
  have j114 : ∀ (a : Int32) (b : Int32) (c : Int32) (d : Int32), ((decide (a * b < 0) && decide (c * d < 0)) = false) → (a = sgn (crs (dx - cx) (dy - cy) (ax - cx) (ay - cy))) → (b = sgn (crs (dx - cx) (dy - cy) (bx - cx) (by_ - cy))) → (c = sgn (crs (bx - ax) (by_ - ay) (cx - ax) (cy - ay))) → (d = sgn (crs (bx - ax) (by_ - ay) (dx - ax) (dy - ay))) → J Z 0 0 [] 114 [(0, .int ax), (1, .int ay), (2, .int bx), (3, .int by_), (4, .int cx), (5, .int cy), (6, .int dx), (7, .int dy), (8, .int a), (9, .int b), (10, .int c), (11, .int d)] [] := by
    intro a b c d f0 ea eb ec ed
    refine i_iload B 8 dX9_meet_114 rfl ?_
    refine i_if_ne B 135 dX9_meet_116 (by decide) (fun h7 => ?_) (fun h7 => ?_)
    · have h7d := decide_eq_false h7
      exact j135 a b c d f0 (by simp [h7]) ea eb ec ed
    · have h7d := decide_eq_true h7
      refine i_iload B 4 dX9_meet_119 rfl ?_
      refine i_iload B 5 dX9_meet_121 rfl ?_
      refine i_iload B 6 dX9_meet_123 rfl ?_
      refine i_iload B 7 dX9_meet_125 rfl ?_
      refine i_iload_n B 0 dX9_meet_127 rfl ?_
      refine i_iload_n B 1 dX9_meet_128 rfl ?_
      refine c_roS (rest := []) (As := [.int cx, .int cy, .int dx, .int dy, .int ax, .int ay]) B (k_X9_isBetween l E cx cy dx dy ax ay) cal_yX9_isBetween is_yX9_isBetween mlX9_122 (by decide) (by decide) rfl (Nat.le_of_ble_eq_true rfl) Has.nil _ rfl dX9_meet_129 (fun r hr => ?_)
      subst hr
      refine i_val (v' := .int (bI (btw cx cy dx dy ax ay))) rfl ?_
      refine i_if_ne B 194 dX9_meet_132 (by decide) (fun h8 => ?_) (fun h8 => ?_)
      · replace h8 := bI_n.mp h8
        refine i_iconst (v := 1) B dX9_meet_194 (by decide) ?_
        refine i_goto B 199 dX9_meet_195 (by decide) ?_
        exact ret _ _ _ (by decide) dX9_meet_199 (by rw [mt, ← ea, ← eb, ← ec, ← ed, mtt]; simp [bI, f0, h7, h8])
      · replace h8 := bI_0.mp h8
        exact j135 a b c d f0 (by simp [h7, h8]) ea eb ec ed
  refine i_iload B 6 dX9_meet_0 rfl ?_
  refine i_iload B 4 dX9_meet_2 rfl ?_
  refine i_isub B dX9_meet_4 ?_
  refine i_iload B 7 dX9_meet_5 rfl ?_
  refine i_iload B 5 dX9_meet_7 rfl ?_
  refine i_isub B dX9_meet_9 ?_
  refine i_iload_n B 0 dX9_meet_10 rfl ?_
  refine i_iload B 4 dX9_meet_11 rfl ?_
  refine i_isub B dX9_meet_13 ?_
  refine i_iload_n B 1 dX9_meet_14 rfl ?_
  refine i_iload B 5 dX9_meet_15 rfl ?_
  refine i_isub B dX9_meet_17 ?_
  refine c_roS (rest := []) (As := [.int (dx - cx), .int (dy - cy), .int (ax - cx), .int (ay - cy)]) B (k_X9_cross l E (dx - cx) (dy - cy) (ax - cx) (ay - cy)) cal_yX9_cross is_yX9_cross mlX9_114 (by decide) (by decide) rfl (Nat.le_of_ble_eq_true rfl) Has.nil _ rfl dX9_meet_18 (fun r hr => ?_)
  subst hr
  refine i_val (v' := .int (crs (dx - cx) (dy - cy) (ax - cx) (ay - cy))) rfl ?_
  refine c_roS (rest := []) (As := [.int (crs (dx - cx) (dy - cy) (ax - cx) (ay - cy))]) B (k_X9_sign l E (crs (dx - cx) (dy - cy) (ax - cx) (ay - cy))) cal_yX9_sign is_yX9_sign mlX9_118 (by decide) (by decide) rfl (Nat.le_of_ble_eq_true rfl) Has.nil _ rfl dX9_meet_21 (fun r hr => ?_)
  subst hr
  refine i_val (v' := .int (sgn (crs (dx - cx) (dy - cy) (ax - cx) (ay - cy)))) rfl ?_
  refine j_nameI (fun a ea => ?_)
  refine i_istore B [(8, .int a), (0, .int ax), (1, .int ay), (2, .int bx), (3, .int by_), (4, .int cx), (5, .int cy), (6, .int dx), (7, .int dy)] dX9_meet_24 (by decide) rfl ?_
  refine i_iload B 7 dX9_meet_26 rfl ?_
  refine i_iload B 5 dX9_meet_28 rfl ?_
  refine i_isub B dX9_meet_30 ?_
  refine i_iload B 8 dX9_meet_31 rfl ?_
  refine i_iload B 6 dX9_meet_33 rfl ?_
  refine i_isub B dX9_meet_35 ?_
  refine i_iload_n B 3 dX9_meet_36 rfl ?_
  refine i_iload B 5 dX9_meet_37 rfl ?_
  refine i_isub B dX9_meet_39 ?_
  refine i_iload_n B 4 dX9_meet_40 rfl ?_
  refine i_iload B 6 dX9_meet_41 rfl ?_
  refine i_isub B dX9_meet_43 ?_
  refine c_roS (rest := []) (As := [.int (dx - cx), .int (dy - cy), .int (bx - cx), .int (by_ - cy)]) B (k_X9_cross l E (dx - cx) (dy - cy) (bx - cx) (by_ - cy)) cal_yX9_cross is_yX9_cross mlX9_114 (by decide) (by decide) rfl (Nat.le_of_ble_eq_true rfl) Has.nil _ rfl dX9_meet_44 (fun r hr => ?_)
  subst hr
  refine i_val (v' := .int (crs (dx - cx) (dy - cy) (bx - cx) (by_ - cy))) rfl ?_
  refine c_roS (rest := []) (As := [.int (crs (dx - cx) (dy - cy) (bx - cx) (by_ - cy))]) B (k_X9_sign l E (crs (dx - cx) (dy - cy) (bx - cx) (by_ - cy))) cal_yX9_sign is_yX9_sign mlX9_118 (by decide) (by decide) rfl (Nat.le_of_ble_eq_true rfl) Has.nil _ rfl dX9_meet_47 (fun r hr => ?_)
  subst hr
  refine i_val (v' := .int (sgn (crs (dx - cx) (dy - cy) (bx - cx) (by_ - cy)))) rfl ?_
  refine j_nameI (fun b eb => ?_)
  refine i_istore B [(9, .int b), (8, .int a), (0, .int ax), (1, .int ay), (2, .int bx), (3, .int by_), (4, .int cx), (5, .int cy), (6, .int dx), (7, .int dy)] dX9_meet_50 (by decide) rfl ?_
  refine i_iload_n B 4 dX9_meet_52 rfl ?_
  refine i_iload_n B 2 dX9_meet_53 rfl ?_
  refine i_isub B dX9_meet_54 ?_
  refine i_iload_n B 5 dX9_meet_55 rfl ?_
  refine i_iload_n B 3 dX9_meet_56 rfl ?_
  refine i_isub B dX9_meet_57 ?_
  refine i_iload B 6 dX9_meet_58 rfl ?_
  refine i_iload_n B 2 dX9_meet_60 rfl ?_
  refine i_isub B dX9_meet_61 ?_
  refine i_iload B 7 dX9_meet_62 rfl ?_
  refine i_iload_n B 3 dX9_meet_64 rfl ?_
  refine i_isub B dX9_meet_65 ?_
  refine c_roS (rest := []) (As := [.int (bx - ax), .int (by_ - ay), .int (cx - ax), .int (cy - ay)]) B (k_X9_cross l E (bx - ax) (by_ - ay) (cx - ax) (cy - ay)) cal_yX9_cross is_yX9_cross mlX9_114 (by decide) (by decide) rfl (Nat.le_of_ble_eq_true rfl) Has.nil _ rfl dX9_meet_66 (fun r hr => ?_)
  subst hr
  refine i_val (v' := .int (crs (bx - ax) (by_ - ay) (cx - ax) (cy - ay))) rfl ?_
  refine c_roS (rest := []) (As := [.int (crs (bx - ax) (by_ - ay) (cx - ax) (cy - ay))]) B (k_X9_sign l E (crs (bx - ax) (by_ - ay) (cx - ax) (cy - ay))) cal_yX9_sign is_yX9_sign mlX9_118 (by decide) (by decide) rfl (Nat.le_of_ble_eq_true rfl) Has.nil _ rfl dX9_meet_69 (fun r hr => ?_)
  subst hr
  refine i_val (v' := .int (sgn (crs (bx - ax) (by_ - ay) (cx - ax) (cy - ay)))) rfl ?_
  refine j_nameI (fun c ec => ?_)
  refine i_istore B [(10, .int c), (9, .int b), (8, .int a), (0, .int ax), (1, .int ay), (2, .int bx), (3, .int by_), (4, .int cx), (5, .int cy), (6, .int dx), (7, .int dy)] dX9_meet_72 (by decide) rfl ?_
  refine i_iload_n B 5 dX9_meet_74 rfl ?_
  refine i_iload_n B 3 dX9_meet_75 rfl ?_
  refine i_isub B dX9_meet_76 ?_
  refine i_iload_n B 6 dX9_meet_77 rfl ?_
  refine i_iload_n B 4 dX9_meet_78 rfl ?_
  refine i_isub B dX9_meet_79 ?_
  refine i_iload B 9 dX9_meet_80 rfl ?_
  refine i_iload_n B 3 dX9_meet_82 rfl ?_
  refine i_isub B dX9_meet_83 ?_
  refine i_iload B 10 dX9_meet_84 rfl ?_
  refine i_iload_n B 4 dX9_meet_86 rfl ?_
  refine i_isub B dX9_meet_87 ?_
  refine c_roS (rest := []) (As := [.int (bx - ax), .int (by_ - ay), .int (dx - ax), .int (dy - ay)]) B (k_X9_cross l E (bx - ax) (by_ - ay) (dx - ax) (dy - ay)) cal_yX9_cross is_yX9_cross mlX9_114 (by decide) (by decide) rfl (Nat.le_of_ble_eq_true rfl) Has.nil _ rfl dX9_meet_88 (fun r hr => ?_)
  subst hr
  refine i_val (v' := .int (crs (bx - ax) (by_ - ay) (dx - ax) (dy - ay))) rfl ?_
  refine c_roS (rest := []) (As := [.int (crs (bx - ax) (by_ - ay) (dx - ax) (dy - ay))]) B (k_X9_sign l E (crs (bx - ax) (by_ - ay) (dx - ax) (dy - ay))) cal_yX9_sign is_yX9_sign mlX9_118 (by decide) (by decide) rfl (Nat.le_of_ble_eq_true rfl) Has.nil _ rfl dX9_meet_91 (fun r hr => ?_)
  subst hr
  refine i_val (v' := .int (sgn (crs (bx - ax) (by_ - ay) (dx - ax) (dy - ay)))) rfl ?_
  refine j_nameI (fun d ed => ?_)
  refine i_istore B [(11, .int d), (10, .int c), (9, .int b), (8, .int a), (0, .int ax), (1, .int ay), (2, .int bx), (3, .int by_), (4, .int cx), (5, .int cy), (6, .int dx), (7, .int dy)] dX9_meet_94 (by decide) rfl ?_
  refine i_iload B 3 dX9_meet_96 rfl ?_
  refine i_iload B 2 dX9_meet_98 rfl ?_
  refine i_imul B dX9_meet_100 ?_
  refine i_if_ge B 114 dX9_meet_101 (by decide) (fun h9 => ?_) (fun h9 => ?_)
  · replace h9 := q_n32.mpr h9
    refine i_locals [4, 5, 6, 7, 8, 9, 10, 11, 3, 2, 1, 0] (L' := [(0, .int ax), (1, .int ay), (2, .int bx), (3, .int by_), (4, .int cx), (5, .int cy), (6, .int dx), (7, .int dy), (8, .int a), (9, .int b), (10, .int c), (11, .int d)]) rfl ?_
    exact j114 a b c d (by simp [h9]) ea eb ec ed
  · replace h9 := q_m32.mp h9
    refine i_iload B 1 dX9_meet_104 rfl ?_
    refine i_iload B 0 dX9_meet_106 rfl ?_
    refine i_imul B dX9_meet_108 ?_
    refine i_if_ge B 114 dX9_meet_109 (by decide) (fun h10 => ?_) (fun h10 => ?_)
    · replace h10 := q_n32.mpr h10
      refine i_locals [4, 5, 6, 7, 8, 9, 10, 11, 3, 2, 1, 0] (L' := [(0, .int ax), (1, .int ay), (2, .int bx), (3, .int by_), (4, .int cx), (5, .int cy), (6, .int dx), (7, .int dy), (8, .int a), (9, .int b), (10, .int c), (11, .int d)]) rfl ?_
      exact j114 a b c d (by simp [h9, h10]) ea eb ec ed
    · replace h10 := q_m32.mp h10
      refine i_iconst (v := 1) B dX9_meet_112 (by decide) ?_
      exact ret _ _ _ (by decide) dX9_meet_113 (by rw [mt, ← ea, ← eb, ← ec, ← ed, mtt]; simp [bI, h9, h10])
