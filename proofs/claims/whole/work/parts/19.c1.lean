def sW (E : ED) (q : Nat → Nat) (g : Nat → Int32) (a : Nat → Nat → Int32) : va_W := [(q 41, .inr (7, [.ref (q 2), .ref (q 3), .ref (q 4), .ref (q 5), .int (g 1), .int (g 6), .int (g 7)])), (q 2, .inl (E.2.1, 12, .inl (a 2))), (q 3, .inl (E.2.1, 12, .inl (a 3))), (q 4, .inl (E.2.1, 12, .inl (a 4))), (q 5, .inl (E.2.1, 12, .inl (a 5)))]
def sV (E : ED) (q : Nat → Nat) (g : Nat → Int32) (a : Nat → Nat → Int32) : va_W := [(q 42, .inr (5, [.ref (q 9), .ref (q 10), .int (g 8)])), (q 9, .inl (E.2.1, 10, .inl (a 9))), (q 10, .inl (E.2.1, 10, .inl (a 10)))]
def sL (E : ED) (q : Nat → Nat) (s : Nat → Int32) (t : Nat → Nat → Int32) : va_W := [(q 43, .inr (3, [.ref (q 50), .int (s 60)])), (q 50, .inl (E.2.1, 12, .inl (t 50)))]
def sA (E : ED) (q : Nat → Nat) (g : Nat → Int32) (a : Nat → Nat → Int32) : va_W := [(q 44, .inr (0, [.ref (q 12), .ref (q 13), .ref (q 14), .ref (q 15), .int (g 11), .int (g 16), .int (g 17)])), (q 12, .inl (E.2.1, 4, .inl (a 12))), (q 13, .inl (E.2.1, 4, .inl (a 13))), (q 14, .inl (E.2.1, 4, .inl (a 14))), (q 15, .inl (E.2.1, 4, .inl (a 15)))]
def sC (E : ED) (q : Nat → Nat) (g : Nat → Int32) (a : Nat → Nat → Int32) : va_W := [(q 45, .inr (1, [.int (g 90), .int (g 91), .int (g 18), .int (g 19)]))]
def sB (E : ED) (q : Nat → Nat) (g : Nat → Int32) (a : Nat → Nat → Int32) : va_W := [(q 46, .inr (2, [.ref (q 47), .ref (q 23)])), (q 47, .inr (5, [.ref (q 21), .ref (q 22), .int (g 20)])), (q 21, .inl (E.2.1, 20, .inl (a 21))), (q 22, .inl (E.2.1, 20, .inl (a 22))), (q 23, .inl (E.2.1, 20, .inl (a 23)))]
def sM (E : ED) (q : Nat → Nat) (g : Nat → Int32) (a : Nat → Nat → Int32) (s : Nat → Int32) (t : Nat → Nat → Int32) : va_W := [(q 48, .inr (4, [.ref (q 25), .ref (q 26), .ref (q 27), .ref (q 28), .ref (q 29), .int (g 24), .ref (q 51), .ref (q 52), .ref (q 53), .int (s 61), .int (s 62)])), (q 25, .inl (E.2.1, 40, .inl (a 25))), (q 26, .inl (E.2.1, 40, .inl (a 26))), (q 27, .inl (E.2.1, 40, .inl (a 27))), (q 28, .inl (E.2.1, 40, .inl (a 28))), (q 29, .inl (E.2.2, 40, .inl (a 29))), (q 51, .inl (E.2.1, 40, .inl (t 51))), (q 52, .inl (E.2.1, 40, .inl (t 52))), (q 53, .inl (E.2.1, 41, .inl (t 53)))]
def sR (E : ED) (q : Nat → Nat) (s : Nat → Int32) (t : Nat → Nat → Int32) : va_W := [(q 49, .inr (6, [.ref (q 42), .ref (q 44), .ref (q 45), .ref (q 54), .ref (q 55), .ref (q 56), .ref (q 57), .int (s 63), .int (s 64)])), (q 54, .inl (E.2.1, 121, .inl (t 54))), (q 55, .inl (E.2.1, 10240, .inl (t 55))), (q 56, .inl (E.2.1, 1024, .inl (t 56))), (q 57, .inl (E.2.1, 1024, .inl (t 57)))]
/-- the class: its object at q 40, all that it holds; RV: its Routes, X: their cells -/
def cW (E : ED) (q : Nat → Nat) (g : Nat → Int32) (a : Nat → Nat → Int32) (s : Nat → Int32) (t : Nat → Nat → Int32) (RV : Value) (X : va_W) : va_W := (q 40, .inr (8, [.ref (q 41), .ref (q 42), .ref (q 43), .ref (q 44), .ref (q 45), .ref (q 46), .ref (q 48), RV])) :: (sW E q g a ++ (sV E q g a ++ (sL E q s t ++ (sA E q g a ++ (sC E q g a ++ (sB E q g a ++ (sM E q g a s t ++ X)))))))

def mx (a b : Int32) : Int32 := if a < b then b else a
def mn (a b : Int32) : Int32 := if b < a then b else a
def abz (a : Int32) : Int32 := if 0 ≤ a then a else 0 - a
def asn (x : Int32) : Int32 := if decide (x = 0) = true then 0 else 1
theorem asn_bI (b : Bool) : asn (bI b) = bI b := by cases b <;> rfl
def trn (ax ay bx by_ cx cy : Int32) : Int32 := (bx - ax) * (cy - ay) - (by_ - ay) * (cx - ax)
def hsb (s m : Int32) : Bool := !decide (s >>> (m &&& 31) &&& 1 = 0)
def ovl (a b c d : Int32) : Bool := !decide (mx a b < mn c d) && !decide (mx c d < mn a b)
def apt (u v : Int32) : Bool := !decide (0 < mn u v) && !decide (mx u v < 0)
def tch (ax ay bx by_ cx cy dx dy : Int32) : Bool := ovl ax bx cx dx && (ovl ay by_ cy dy && (apt (trn ax ay bx by_ cx cy) (trn ax ay bx by_ dx dy) && apt (trn cx cy dx dy ax ay) (trn cx cy dx dy bx by_)))

set_option maxHeartbeats 4000000 in
set_option maxRecDepth 100000 in
theorem k_X8_isWithin (l : Launch) (E : ED) (x a b : Int32) : RO l E yX8_isWithin cX8_isWithin 3 .boolean 0 0 [.int x, .int a, .int b] [] (fun r => r = bI (wit x a b)) := by
  refine RO.mk (by decide) (Nat.le_of_ble_eq_true rfl) [(0, .int x), (1, .int a), (2, .int b)] rfl (fun Z B ret => ?_)
  refine i_iload_n B 0 dX8_isWithin_0 rfl ?_
  refine i_iload_n B 1 dX8_isWithin_1 rfl ?_
  refine i_icmp_lt B 14 dX8_isWithin_2 (by decide) (fun h1 => ?_) (fun h1 => ?_)
  · refine i_iconst (v := 0) B dX8_isWithin_14 (by decide) ?_
    exact ret _ _ _ (by decide) dX8_isWithin_15 (by simp only [wit, h1, decide_true, decide_false, Bool.not_true, Bool.not_false, Bool.true_and, Bool.false_and, Bool.and_true, Bool.and_false, Bool.true_or, Bool.or_true, Bool.false_or, Bool.or_false, Bool.and_self, Bool.or_self, bI_t, bI_f, if_true, if_false, ite_true, ite_false, Bool.false_eq_true, Bool.true_eq_false, eq_self, reduceIte, true_or, or_true, false_or, or_false, and_true, true_and, and_false, false_and, not_true_eq_false, not_false_eq_true, decide_eq_true_eq, decide_eq_false_iff_not])
  · refine i_iload_n B 0 dX8_isWithin_5 rfl ?_
    refine i_iload_n B 2 dX8_isWithin_6 rfl ?_
    refine i_icmp_gt B 14 dX8_isWithin_7 (by decide) (fun h2 => ?_) (fun h2 => ?_)
    · refine i_iconst (v := 0) B dX8_isWithin_14 (by decide) ?_
      exact ret _ _ _ (by decide) dX8_isWithin_15 (by simp only [wit, h1, h2, decide_true, decide_false, Bool.not_true, Bool.not_false, Bool.true_and, Bool.false_and, Bool.and_true, Bool.and_false, Bool.true_or, Bool.or_true, Bool.false_or, Bool.or_false, Bool.and_self, Bool.or_self, bI_t, bI_f, if_true, if_false, ite_true, ite_false, Bool.false_eq_true, Bool.true_eq_false, eq_self, reduceIte, true_or, or_true, false_or, or_false, and_true, true_and, and_false, false_and, not_true_eq_false, not_false_eq_true, decide_eq_true_eq, decide_eq_false_iff_not])
    · refine i_iconst (v := 1) B dX8_isWithin_10 (by decide) ?_
      refine i_goto B 15 dX8_isWithin_11 (by decide) ?_
      exact ret _ _ _ (by decide) dX8_isWithin_15 (by simp only [wit, h1, h2, decide_true, decide_false, Bool.not_true, Bool.not_false, Bool.true_and, Bool.false_and, Bool.and_true, Bool.and_false, Bool.true_or, Bool.or_true, Bool.false_or, Bool.or_false, Bool.and_self, Bool.or_self, bI_t, bI_f, if_true, if_false, ite_true, ite_false, Bool.false_eq_true, Bool.true_eq_false, eq_self, reduceIte, true_or, or_true, false_or, or_false, and_true, true_and, and_false, false_and, not_true_eq_false, not_false_eq_true, decide_eq_true_eq, decide_eq_false_iff_not])

set_option maxHeartbeats 4000000 in
set_option maxRecDepth 100000 in
theorem k_X8_isPoint (l : Launch) (E : ED) (x y : Int32) : RO l E yX8_isPoint cX8_isPoint 2 .boolean 1 22 [.int x, .int y] [] (fun r => r = bI (pt x y)) := by
  refine RO.mk (by decide) (Nat.le_of_ble_eq_true rfl) [(0, .int x), (1, .int y)] rfl (fun Z B ret => ?_)
  refine i_iload_n B 0 dX8_isPoint_0 rfl ?_
  refine i_iconst (v := 0) B dX8_isPoint_1 (by decide) ?_
  refine i_bipush (v := 60) B dX8_isPoint_2 (by decide) ?_
  refine c_roS (rest := []) (As := [.int x, .int 0, .int 60]) B (k_X8_isWithin l E x 0 60) cal_yX8_isWithin is_yX8_isWithin mlX8_72 (by decide) (by decide) rfl (Nat.le_of_ble_eq_true rfl) Has.nil _ rfl dX8_isPoint_4 (fun r hr => ?_)
  subst hr
  refine i_val (v' := .int (bI (wit x 0 60))) rfl ?_
  refine i_if_eq B 24 dX8_isPoint_7 (by decide) (fun h1 => ?_) (fun h1 => ?_)
  · replace h1 := bI_0.mp h1
    refine i_iconst (v := 0) B dX8_isPoint_24 (by decide) ?_
    exact ret _ _ _ (by decide) dX8_isPoint_25 (by simp only [pt, h1, decide_true, decide_false, Bool.not_true, Bool.not_false, Bool.true_and, Bool.false_and, Bool.and_true, Bool.and_false, Bool.true_or, Bool.or_true, Bool.false_or, Bool.or_false, Bool.and_self, Bool.or_self, bI_t, bI_f, if_true, if_false, ite_true, ite_false, Bool.false_eq_true, Bool.true_eq_false, eq_self, reduceIte, true_or, or_true, false_or, or_false, and_true, true_and, and_false, false_and, not_true_eq_false, not_false_eq_true, decide_eq_true_eq, decide_eq_false_iff_not])
  · replace h1 := bI_n.mp h1
    refine i_iload_n B 1 dX8_isPoint_10 rfl ?_
    refine i_iconst (v := 0) B dX8_isPoint_11 (by decide) ?_
    refine i_bipush (v := 60) B dX8_isPoint_12 (by decide) ?_
    refine c_roS (rest := []) (As := [.int y, .int 0, .int 60]) B (k_X8_isWithin l E y 0 60) cal_yX8_isWithin is_yX8_isWithin mlX8_72 (by decide) (by decide) rfl (Nat.le_of_ble_eq_true rfl) Has.nil _ rfl dX8_isPoint_14 (fun r hr => ?_)
    subst hr
    refine i_val (v' := .int (bI (wit y 0 60))) rfl ?_
    refine i_if_eq B 24 dX8_isPoint_17 (by decide) (fun h2 => ?_) (fun h2 => ?_)
    · replace h2 := bI_0.mp h2
      refine i_iconst (v := 0) B dX8_isPoint_24 (by decide) ?_
      exact ret _ _ _ (by decide) dX8_isPoint_25 (by simp only [pt, h1, h2, decide_true, decide_false, Bool.not_true, Bool.not_false, Bool.true_and, Bool.false_and, Bool.and_true, Bool.and_false, Bool.true_or, Bool.or_true, Bool.false_or, Bool.or_false, Bool.and_self, Bool.or_self, bI_t, bI_f, if_true, if_false, ite_true, ite_false, Bool.false_eq_true, Bool.true_eq_false, eq_self, reduceIte, true_or, or_true, false_or, or_false, and_true, true_and, and_false, false_and, not_true_eq_false, not_false_eq_true, decide_eq_true_eq, decide_eq_false_iff_not])
    · replace h2 := bI_n.mp h2
      refine i_iconst (v := 1) B dX8_isPoint_20 (by decide) ?_
      refine i_goto B 25 dX8_isPoint_21 (by decide) ?_
      exact ret _ _ _ (by decide) dX8_isPoint_25 (by simp only [pt, h1, h2, decide_true, decide_false, Bool.not_true, Bool.not_false, Bool.true_and, Bool.false_and, Bool.and_true, Bool.and_false, Bool.true_or, Bool.or_true, Bool.false_or, Bool.or_false, Bool.and_self, Bool.or_self, bI_t, bI_f, if_true, if_false, ite_true, ite_false, Bool.false_eq_true, Bool.true_eq_false, eq_self, reduceIte, true_or, or_true, false_or, or_false, and_true, true_and, and_false, false_and, not_true_eq_false, not_false_eq_true, decide_eq_true_eq, decide_eq_false_iff_not])

set_option maxHeartbeats 4000000 in
set_option maxRecDepth 100000 in
theorem k_X8_isYear (l : Launch) (E : ED) (x : Int32) : RO l E yX8_isYear cX8_isYear 1 .boolean 1 22 [.int x] [] (fun r => r = bI (wit x 0 9)) := by
  refine RO.mk (by decide) (Nat.le_of_ble_eq_true rfl) [(0, .int x)] rfl (fun Z B ret => ?_)
  refine i_iload_n B 0 dX8_isYear_0 rfl ?_
  refine i_iconst (v := 0) B dX8_isYear_1 (by decide) ?_
  refine i_bipush (v := 9) B dX8_isYear_2 (by decide) ?_
  refine c_roS (rest := []) (As := [.int x, .int 0, .int 9]) B (k_X8_isWithin l E x 0 9) cal_yX8_isWithin is_yX8_isWithin mlX8_72 (by decide) (by decide) rfl (Nat.le_of_ble_eq_true rfl) Has.nil _ rfl dX8_isYear_4 (fun r hr => ?_)
  subst hr
  refine i_val (v' := .int (bI (wit x 0 9))) rfl ?_
  exact ret _ _ _ (bI_z _) dX8_isYear_7 (rfl)

set_option maxHeartbeats 4000000 in
set_option maxRecDepth 100000 in
theorem k_X8_asNumber (l : Launch) (E : ED) (x : Int32) : RO l E yX8_asNumber cX8_asNumber 1 .int 0 0 [.int x] [] (fun r => r = asn x) := by
  refine RO.mk (by decide) (Nat.le_of_ble_eq_true rfl) [(0, .int x)] rfl (fun Z B ret => ?_)
  refine i_iload_n B 0 dX8_asNumber_0 rfl ?_
  refine i_if_eq B 8 dX8_asNumber_1 (by decide) (fun h1 => ?_) (fun h1 => ?_)
  · have h1d := decide_eq_true h1
    refine i_iconst (v := 0) B dX8_asNumber_8 (by decide) ?_
    exact ret _ _ _ rfl dX8_asNumber_9 (by simp only [asn, h1d, decide_true, decide_false, Bool.not_true, Bool.not_false, Bool.true_and, Bool.false_and, Bool.and_true, Bool.and_false, Bool.true_or, Bool.or_true, Bool.false_or, Bool.or_false, Bool.and_self, Bool.or_self, bI_t, bI_f, if_true, if_false, ite_true, ite_false, Bool.false_eq_true, Bool.true_eq_false, eq_self, reduceIte, true_or, or_true, false_or, or_false, and_true, true_and, and_false, false_and, not_true_eq_false, not_false_eq_true, decide_eq_true_eq, decide_eq_false_iff_not])
  · have h1d := decide_eq_false h1
    refine i_iconst (v := 1) B dX8_asNumber_4 (by decide) ?_
    refine i_goto B 9 dX8_asNumber_5 (by decide) ?_
    exact ret _ _ _ rfl dX8_asNumber_9 (by simp only [asn, h1d, decide_true, decide_false, Bool.not_true, Bool.not_false, Bool.true_and, Bool.false_and, Bool.and_true, Bool.and_false, Bool.true_or, Bool.or_true, Bool.false_or, Bool.or_false, Bool.and_self, Bool.or_self, bI_t, bI_f, if_true, if_false, ite_true, ite_false, Bool.false_eq_true, Bool.true_eq_false, eq_self, reduceIte, true_or, or_true, false_or, or_false, and_true, true_and, and_false, false_and, not_true_eq_false, not_false_eq_true, decide_eq_true_eq, decide_eq_false_iff_not])

set_option maxHeartbeats 4000000 in
set_option maxRecDepth 100000 in
theorem k_X8_has (l : Launch) (E : ED) (x m : Int32) : RO l E yX8_has cX8_has 2 .boolean 0 0 [.int x, .int m] [] (fun r => r = bI (hsb x m)) := by
  refine RO.mk (by decide) (Nat.le_of_ble_eq_true rfl) [(0, .int x), (1, .int m)] rfl (fun Z B ret => ?_)
  refine i_iload_n B 0 dX8_has_0 rfl ?_
  refine i_iload_n B 1 dX8_has_1 rfl ?_
  refine i_ishr B dX8_has_2 ?_
  refine i_iconst (v := 1) B dX8_has_3 (by decide) ?_
  refine i_iand B dX8_has_4 ?_
  refine i_if_eq B 12 dX8_has_5 (by decide) (fun h1 => ?_) (fun h1 => ?_)
  · have h1d := decide_eq_true h1
    refine i_iconst (v := 0) B dX8_has_12 (by decide) ?_
    exact ret _ _ _ (by decide) dX8_has_13 (by simp only [hsb, h1d, decide_true, decide_false, Bool.not_true, Bool.not_false, Bool.true_and, Bool.false_and, Bool.and_true, Bool.and_false, Bool.true_or, Bool.or_true, Bool.false_or, Bool.or_false, Bool.and_self, Bool.or_self, bI_t, bI_f, if_true, if_false, ite_true, ite_false, Bool.false_eq_true, Bool.true_eq_false, eq_self, reduceIte, true_or, or_true, false_or, or_false, and_true, true_and, and_false, false_and, not_true_eq_false, not_false_eq_true, decide_eq_true_eq, decide_eq_false_iff_not])
  · have h1d := decide_eq_false h1
    refine i_iconst (v := 1) B dX8_has_8 (by decide) ?_
    refine i_goto B 13 dX8_has_9 (by decide) ?_
    exact ret _ _ _ (by decide) dX8_has_13 (by simp only [hsb, h1d, decide_true, decide_false, Bool.not_true, Bool.not_false, Bool.true_and, Bool.false_and, Bool.and_true, Bool.and_false, Bool.true_or, Bool.or_true, Bool.false_or, Bool.or_false, Bool.and_self, Bool.or_self, bI_t, bI_f, if_true, if_false, ite_true, ite_false, Bool.false_eq_true, Bool.true_eq_false, eq_self, reduceIte, true_or, or_true, false_or, or_false, and_true, true_and, and_false, false_and, not_true_eq_false, not_false_eq_true, decide_eq_true_eq, decide_eq_false_iff_not])

set_option maxHeartbeats 4000000 in
set_option maxRecDepth 100000 in
theorem k_X8_turn (l : Launch) (E : ED) (ax ay bx by_ cx cy : Int32) : RO l E yX8_turn cX8_turn 6 .int 0 0 [.int ax, .int ay, .int bx, .int by_, .int cx, .int cy] [] (fun r => r = trn ax ay bx by_ cx cy) := by
  refine RO.mk (by decide) (Nat.le_of_ble_eq_true rfl) [(0, .int ax), (1, .int ay), (2, .int bx), (3, .int by_), (4, .int cx), (5, .int cy)] rfl (fun Z B ret => ?_)
  refine i_iload_n B 2 dX8_turn_0 rfl ?_
  refine i_iload_n B 0 dX8_turn_1 rfl ?_
  refine i_isub B dX8_turn_2 ?_
  refine i_iload B 5 dX8_turn_3 rfl ?_
  refine i_iload_n B 1 dX8_turn_5 rfl ?_
  refine i_isub B dX8_turn_6 ?_
  refine i_imul B dX8_turn_7 ?_
  refine i_iload_n B 3 dX8_turn_8 rfl ?_
  refine i_iload_n B 1 dX8_turn_9 rfl ?_
  refine i_isub B dX8_turn_10 ?_
  refine i_iload B 4 dX8_turn_11 rfl ?_
  refine i_iload_n B 0 dX8_turn_13 rfl ?_
  refine i_isub B dX8_turn_14 ?_
  refine i_imul B dX8_turn_15 ?_
  refine i_isub B dX8_turn_16 ?_
  exact ret _ _ _ rfl dX8_turn_17 (rfl)

set_option maxHeartbeats 4000000 in
set_option maxRecDepth 100000 in
theorem k_X7_doOverlap (l : Launch) (E : ED) (a b c d : Int32) : RO l E yX7_doOverlap cX7_doOverlap 4 .boolean 1 21 [.int a, .int b, .int c, .int d] [] (fun r => r = bI (ovl a b c d)) := by
  refine RO.mk (by decide) (Nat.le_of_ble_eq_true rfl) [(0, .int a), (1, .int b), (2, .int c), (3, .int d)] rfl (fun Z B ret => ?_)
  refine i_iload_n B 0 dX7_doOverlap_0 rfl ?_
  refine i_iload_n B 1 dX7_doOverlap_1 rfl ?_
  refine i_max B mlX7_56 is_Mmax ini_java_lang_Math cd_Mmax (by decide) (Nat.le_of_ble_eq_true rfl) (by decide) dX7_doOverlap_2 ?_
  refine i_val (v' := .int (mx a b)) rfl ?_
  refine i_iload_n B 2 dX7_doOverlap_5 rfl ?_
  refine i_iload_n B 3 dX7_doOverlap_6 rfl ?_
  refine i_min B mlX7_62 is_Mmin ini_java_lang_Math cd_Mmin (by decide) (Nat.le_of_ble_eq_true rfl) (by decide) dX7_doOverlap_7 ?_
  refine i_val (v' := .int (mn c d)) rfl ?_
  refine i_icmp_lt B 30 dX7_doOverlap_10 (by decide) (fun h1 => ?_) (fun h1 => ?_)
  · refine i_iconst (v := 0) B dX7_doOverlap_30 (by decide) ?_
    exact ret _ _ _ (by decide) dX7_doOverlap_31 (by simp only [ovl, h1, decide_true, decide_false, Bool.not_true, Bool.not_false, Bool.true_and, Bool.false_and, Bool.and_true, Bool.and_false, Bool.true_or, Bool.or_true, Bool.false_or, Bool.or_false, Bool.and_self, Bool.or_self, bI_t, bI_f, if_true, if_false, ite_true, ite_false, Bool.false_eq_true, Bool.true_eq_false, eq_self, reduceIte, true_or, or_true, false_or, or_false, and_true, true_and, and_false, false_and, not_true_eq_false, not_false_eq_true, decide_eq_true_eq, decide_eq_false_iff_not])
  · refine i_iload_n B 2 dX7_doOverlap_13 rfl ?_
    refine i_iload_n B 3 dX7_doOverlap_14 rfl ?_
    refine i_max B mlX7_56 is_Mmax ini_java_lang_Math cd_Mmax (by decide) (Nat.le_of_ble_eq_true rfl) (by decide) dX7_doOverlap_15 ?_
    refine i_val (v' := .int (mx c d)) rfl ?_
    refine i_iload_n B 0 dX7_doOverlap_18 rfl ?_
    refine i_iload_n B 1 dX7_doOverlap_19 rfl ?_
    refine i_min B mlX7_62 is_Mmin ini_java_lang_Math cd_Mmin (by decide) (Nat.le_of_ble_eq_true rfl) (by decide) dX7_doOverlap_20 ?_
    refine i_val (v' := .int (mn a b)) rfl ?_
    refine i_icmp_lt B 30 dX7_doOverlap_23 (by decide) (fun h2 => ?_) (fun h2 => ?_)
    · refine i_iconst (v := 0) B dX7_doOverlap_30 (by decide) ?_
      exact ret _ _ _ (by decide) dX7_doOverlap_31 (by simp only [ovl, h1, h2, decide_true, decide_false, Bool.not_true, Bool.not_false, Bool.true_and, Bool.false_and, Bool.and_true, Bool.and_false, Bool.true_or, Bool.or_true, Bool.false_or, Bool.or_false, Bool.and_self, Bool.or_self, bI_t, bI_f, if_true, if_false, ite_true, ite_false, Bool.false_eq_true, Bool.true_eq_false, eq_self, reduceIte, true_or, or_true, false_or, or_false, and_true, true_and, and_false, false_and, not_true_eq_false, not_false_eq_true, decide_eq_true_eq, decide_eq_false_iff_not])
    · refine i_iconst (v := 1) B dX7_doOverlap_26 (by decide) ?_
      refine i_goto B 31 dX7_doOverlap_27 (by decide) ?_
      exact ret _ _ _ (by decide) dX7_doOverlap_31 (by simp only [ovl, h1, h2, decide_true, decide_false, Bool.not_true, Bool.not_false, Bool.true_and, Bool.false_and, Bool.and_true, Bool.and_false, Bool.true_or, Bool.or_true, Bool.false_or, Bool.or_false, Bool.and_self, Bool.or_self, bI_t, bI_f, if_true, if_false, ite_true, ite_false, Bool.false_eq_true, Bool.true_eq_false, eq_self, reduceIte, true_or, or_true, false_or, or_false, and_true, true_and, and_false, false_and, not_true_eq_false, not_false_eq_true, decide_eq_true_eq, decide_eq_false_iff_not])

set_option maxHeartbeats 4000000 in
set_option maxRecDepth 100000 in
theorem k_X7_areApart (l : Launch) (E : ED) (u v : Int32) : RO l E yX7_areApart cX7_areApart 2 .boolean 1 21 [.int u, .int v] [] (fun r => r = bI (apt u v)) := by
  refine RO.mk (by decide) (Nat.le_of_ble_eq_true rfl) [(0, .int u), (1, .int v)] rfl (fun Z B ret => ?_)
  refine i_iload_n B 0 dX7_areApart_0 rfl ?_
  refine i_iload_n B 1 dX7_areApart_1 rfl ?_
  refine i_min B mlX7_62 is_Mmin ini_java_lang_Math cd_Mmin (by decide) (Nat.le_of_ble_eq_true rfl) (by decide) dX7_areApart_2 ?_
  refine i_val (v' := .int (mn u v)) rfl ?_
  refine i_if_gt B 20 dX7_areApart_5 (by decide) (fun h1 => ?_) (fun h1 => ?_)
  · refine i_iconst (v := 0) B dX7_areApart_20 (by decide) ?_
    exact ret _ _ _ (by decide) dX7_areApart_21 (by simp only [apt, h1, decide_true, decide_false, Bool.not_true, Bool.not_false, Bool.true_and, Bool.false_and, Bool.and_true, Bool.and_false, Bool.true_or, Bool.or_true, Bool.false_or, Bool.or_false, Bool.and_self, Bool.or_self, bI_t, bI_f, if_true, if_false, ite_true, ite_false, Bool.false_eq_true, Bool.true_eq_false, eq_self, reduceIte, true_or, or_true, false_or, or_false, and_true, true_and, and_false, false_and, not_true_eq_false, not_false_eq_true, decide_eq_true_eq, decide_eq_false_iff_not])
  · refine i_iload_n B 0 dX7_areApart_8 rfl ?_
    refine i_iload_n B 1 dX7_areApart_9 rfl ?_
    refine i_max B mlX7_56 is_Mmax ini_java_lang_Math cd_Mmax (by decide) (Nat.le_of_ble_eq_true rfl) (by decide) dX7_areApart_10 ?_
    refine i_val (v' := .int (mx u v)) rfl ?_
    refine i_if_lt B 20 dX7_areApart_13 (by decide) (fun h2 => ?_) (fun h2 => ?_)
    · refine i_iconst (v := 0) B dX7_areApart_20 (by decide) ?_
      exact ret _ _ _ (by decide) dX7_areApart_21 (by simp only [apt, h1, h2, decide_true, decide_false, Bool.not_true, Bool.not_false, Bool.true_and, Bool.false_and, Bool.and_true, Bool.and_false, Bool.true_or, Bool.or_true, Bool.false_or, Bool.or_false, Bool.and_self, Bool.or_self, bI_t, bI_f, if_true, if_false, ite_true, ite_false, Bool.false_eq_true, Bool.true_eq_false, eq_self, reduceIte, true_or, or_true, false_or, or_false, and_true, true_and, and_false, false_and, not_true_eq_false, not_false_eq_true, decide_eq_true_eq, decide_eq_false_iff_not])
    · refine i_iconst (v := 1) B dX7_areApart_16 (by decide) ?_
      refine i_goto B 21 dX7_areApart_17 (by decide) ?_
      exact ret _ _ _ (by decide) dX7_areApart_21 (by simp only [apt, h1, h2, decide_true, decide_false, Bool.not_true, Bool.not_false, Bool.true_and, Bool.false_and, Bool.and_true, Bool.and_false, Bool.true_or, Bool.or_true, Bool.false_or, Bool.or_false, Bool.and_self, Bool.or_self, bI_t, bI_f, if_true, if_false, ite_true, ite_false, Bool.false_eq_true, Bool.true_eq_false, eq_self, reduceIte, true_or, or_true, false_or, or_false, and_true, true_and, and_false, false_and, not_true_eq_false, not_false_eq_true, decide_eq_true_eq, decide_eq_false_iff_not])

set_option maxHeartbeats 4000000 in
set_option maxRecDepth 100000 in
theorem k_X7_isTouched (l : Launch) (E : ED) (q : Nat → Nat) (g : Nat → Int32) (a : Nat → Nat → Int32) (o : Nat) (ho : o < 12) (ax ay bx by_ : Int32) : RO l E yX7_isTouched cX7_isTouched 10 .boolean 2 44 [.ref (q 41), .int (nI o), .int ax, .int ay, .int bx, .int by_] (sW E q g a) (fun r => r = bI (tch ax ay bx by_ (2 * a 2 o) (2 * a 3 o) (2 * a 4 o) (2 * a 5 o))) := by
  refine RO.mk (by decide) (Nat.le_of_ble_eq_true rfl) [(0, .ref (q 41)), (1, .int (nI o)), (2, .int ax), (3, .int ay), (4, .int bx), (5, .int by_)] rfl (fun Z B ret => ?_)
  refine i_iconst (v := 2) B dX7_isTouched_0 (by decide) ?_
  refine i_aload_n B 0 dX7_isTouched_1 rfl ?_
  refine i_get (v := .ref (q 2)) B flX7_9 0 rfl rfl dX7_isTouched_2 ?_
  refine i_iload_n B 1 dX7_isTouched_5 rfl ?_
  refine i_ialdN B 1 o rfl rfl (by omega) (by decide) dX7_isTouched_6 ?_
  refine i_imul B dX7_isTouched_7 ?_
  refine i_istore B [(6, .int (2 * ((a 2) o))), (0, .ref (q 41)), (1, .int (nI o)), (2, .int ax), (3, .int ay), (4, .int bx), (5, .int by_)] dX7_isTouched_8 (by decide) rfl ?_
  refine i_iconst (v := 2) B dX7_isTouched_10 (by decide) ?_
  refine i_aload_n B 1 dX7_isTouched_11 rfl ?_
  refine i_get (v := .ref (q 3)) B flX7_15 0 rfl rfl dX7_isTouched_12 ?_
  refine i_iload_n B 2 dX7_isTouched_15 rfl ?_
  refine i_ialdN B 2 o rfl rfl (by omega) (by decide) dX7_isTouched_16 ?_
  refine i_imul B dX7_isTouched_17 ?_
  refine i_istore B [(7, .int (2 * ((a 3) o))), (6, .int (2 * ((a 2) o))), (0, .ref (q 41)), (1, .int (nI o)), (2, .int ax), (3, .int ay), (4, .int bx), (5, .int by_)] dX7_isTouched_18 (by decide) rfl ?_
  refine i_iconst (v := 2) B dX7_isTouched_20 (by decide) ?_
  refine i_aload_n B 2 dX7_isTouched_21 rfl ?_
  refine i_get (v := .ref (q 4)) B flX7_18 0 rfl rfl dX7_isTouched_22 ?_
  refine i_iload_n B 3 dX7_isTouched_25 rfl ?_
  refine i_ialdN B 3 o rfl rfl (by omega) (by decide) dX7_isTouched_26 ?_
  refine i_imul B dX7_isTouched_27 ?_
  refine i_istore B [(8, .int (2 * ((a 4) o))), (7, .int (2 * ((a 3) o))), (6, .int (2 * ((a 2) o))), (0, .ref (q 41)), (1, .int (nI o)), (2, .int ax), (3, .int ay), (4, .int bx), (5, .int by_)] dX7_isTouched_28 (by decide) rfl ?_
  refine i_iconst (v := 2) B dX7_isTouched_30 (by decide) ?_
  refine i_aload_n B 3 dX7_isTouched_31 rfl ?_
  refine i_get (v := .ref (q 5)) B flX7_21 0 rfl rfl dX7_isTouched_32 ?_
  refine i_iload_n B 4 dX7_isTouched_35 rfl ?_
  refine i_ialdN B 4 o rfl rfl (by omega) (by decide) dX7_isTouched_36 ?_
  refine i_imul B dX7_isTouched_37 ?_
  refine i_istore B [(9, .int (2 * ((a 5) o))), (8, .int (2 * ((a 4) o))), (7, .int (2 * ((a 3) o))), (6, .int (2 * ((a 2) o))), (0, .ref (q 41)), (1, .int (nI o)), (2, .int ax), (3, .int ay), (4, .int bx), (5, .int by_)] dX7_isTouched_38 (by decide) rfl ?_
  refine i_iload_n B 6 dX7_isTouched_40 rfl ?_
  refine i_iload B 8 dX7_isTouched_41 rfl ?_
  refine i_iload B 3 dX7_isTouched_43 rfl ?_
  refine i_iload B 1 dX7_isTouched_45 rfl ?_
  refine c_roS (rest := []) (As := [.int ax, .int bx, .int (2 * ((a 2) o)), .int (2 * ((a 4) o))]) B (k_X7_doOverlap l E ax bx (2 * ((a 2) o)) (2 * ((a 4) o))) cal_yX7_doOverlap is_yX7_doOverlap mlX7_44 (by decide) (by decide) rfl (Nat.le_of_ble_eq_true rfl) Has.nil _ rfl dX7_isTouched_47 (fun r hr => ?_)
  subst hr
  refine i_val (v' := .int (bI (ovl ax bx (2 * ((a 2) o)) (2 * ((a 4) o))))) rfl ?_
  refine i_if_eq B 136 dX7_isTouched_50 (by decide) (fun h1 => ?_) (fun h1 => ?_)
  · replace h1 := bI_0.mp h1
    refine i_iconst (v := 0) B dX7_isTouched_136 (by decide) ?_
    exact ret _ _ _ (by decide) dX7_isTouched_137 (by simp only [tch, h1, decide_true, decide_false, Bool.not_true, Bool.not_false, Bool.true_and, Bool.false_and, Bool.and_true, Bool.and_false, Bool.true_or, Bool.or_true, Bool.false_or, Bool.or_false, Bool.and_self, Bool.or_self, bI_t, bI_f, if_true, if_false, ite_true, ite_false, Bool.false_eq_true, Bool.true_eq_false, eq_self, reduceIte, true_or, or_true, false_or, or_false, and_true, true_and, and_false, false_and, not_true_eq_false, not_false_eq_true, decide_eq_true_eq, decide_eq_false_iff_not])
  · replace h1 := bI_n.mp h1
    refine i_iload_n B 7 dX7_isTouched_53 rfl ?_
    refine i_iload B 9 dX7_isTouched_54 rfl ?_
    refine i_iload B 2 dX7_isTouched_56 rfl ?_
    refine i_iload B 0 dX7_isTouched_58 rfl ?_
    refine c_roS (rest := []) (As := [.int ay, .int by_, .int (2 * ((a 3) o)), .int (2 * ((a 5) o))]) B (k_X7_doOverlap l E ay by_ (2 * ((a 3) o)) (2 * ((a 5) o))) cal_yX7_doOverlap is_yX7_doOverlap mlX7_44 (by decide) (by decide) rfl (Nat.le_of_ble_eq_true rfl) Has.nil _ rfl dX7_isTouched_60 (fun r hr => ?_)
    subst hr
    refine i_val (v' := .int (bI (ovl ay by_ (2 * ((a 3) o)) (2 * ((a 5) o))))) rfl ?_
    refine i_if_eq B 136 dX7_isTouched_63 (by decide) (fun h2 => ?_) (fun h2 => ?_)
    · replace h2 := bI_0.mp h2
      refine i_iconst (v := 0) B dX7_isTouched_136 (by decide) ?_
      exact ret _ _ _ (by decide) dX7_isTouched_137 (by simp only [tch, h1, h2, decide_true, decide_false, Bool.not_true, Bool.not_false, Bool.true_and, Bool.false_and, Bool.and_true, Bool.and_false, Bool.true_or, Bool.or_true, Bool.false_or, Bool.or_false, Bool.and_self, Bool.or_self, bI_t, bI_f, if_true, if_false, ite_true, ite_false, Bool.false_eq_true, Bool.true_eq_false, eq_self, reduceIte, true_or, or_true, false_or, or_false, and_true, true_and, and_false, false_and, not_true_eq_false, not_false_eq_true, decide_eq_true_eq, decide_eq_false_iff_not])
    · replace h2 := bI_n.mp h2
      refine i_iload_n B 6 dX7_isTouched_66 rfl ?_
      refine i_iload_n B 7 dX7_isTouched_67 rfl ?_
      refine i_iload B 8 dX7_isTouched_68 rfl ?_
      refine i_iload B 9 dX7_isTouched_70 rfl ?_
      refine i_iload B 3 dX7_isTouched_72 rfl ?_
      refine i_iload B 2 dX7_isTouched_74 rfl ?_
      refine c_roSN (rest := []) (As := [.int ax, .int ay, .int bx, .int by_, .int (2 * ((a 2) o)), .int (2 * ((a 3) o))]) B (k_X8_turn l E ax ay bx by_ (2 * ((a 2) o)) (2 * ((a 3) o))) cal_yX8_turn is_yX8_turn (fun U h => h.2.2.2.2.2.2.1) (by decide) (by decide) rfl (Nat.le_of_ble_eq_true rfl) Has.nil _ rfl dX7_isTouched_76 (fun r hr => ?_)
      subst hr
      refine i_val (v' := .int (trn ax ay bx by_ (2 * ((a 2) o)) (2 * ((a 3) o)))) rfl ?_
      refine i_iload_n B 6 dX7_isTouched_79 rfl ?_
      refine i_iload_n B 7 dX7_isTouched_80 rfl ?_
      refine i_iload B 8 dX7_isTouched_81 rfl ?_
      refine i_iload B 9 dX7_isTouched_83 rfl ?_
      refine i_iload B 1 dX7_isTouched_85 rfl ?_
      refine i_iload B 0 dX7_isTouched_87 rfl ?_
      refine c_roSN (rest := [.int (trn ax ay bx by_ (2 * ((a 2) o)) (2 * ((a 3) o)))]) (As := [.int ax, .int ay, .int bx, .int by_, .int (2 * ((a 4) o)), .int (2 * ((a 5) o))]) B (k_X8_turn l E ax ay bx by_ (2 * ((a 4) o)) (2 * ((a 5) o))) cal_yX8_turn is_yX8_turn (fun U h => h.2.2.2.2.2.2.1) (by decide) (by decide) rfl (Nat.le_of_ble_eq_true rfl) Has.nil _ rfl dX7_isTouched_89 (fun r hr => ?_)
      subst hr
      refine i_val (v' := .int (trn ax ay bx by_ (2 * ((a 4) o)) (2 * ((a 5) o)))) rfl ?_
      refine c_roS (rest := []) (As := [.int (trn ax ay bx by_ (2 * ((a 2) o)) (2 * ((a 3) o))), .int (trn ax ay bx by_ (2 * ((a 4) o)) (2 * ((a 5) o)))]) B (k_X7_areApart l E (trn ax ay bx by_ (2 * ((a 2) o)) (2 * ((a 3) o))) (trn ax ay bx by_ (2 * ((a 4) o)) (2 * ((a 5) o)))) cal_yX7_areApart is_yX7_areApart mlX7_52 (by decide) (by decide) rfl (Nat.le_of_ble_eq_true rfl) Has.nil _ rfl dX7_isTouched_92 (fun r hr => ?_)
      subst hr
      refine i_val (v' := .int (bI (apt (trn ax ay bx by_ (2 * ((a 2) o)) (2 * ((a 3) o))) (trn ax ay bx by_ (2 * ((a 4) o)) (2 * ((a 5) o)))))) rfl ?_
      refine i_if_eq B 136 dX7_isTouched_95 (by decide) (fun h3 => ?_) (fun h3 => ?_)
      · replace h3 := bI_0.mp h3
        refine i_iconst (v := 0) B dX7_isTouched_136 (by decide) ?_
        exact ret _ _ _ (by decide) dX7_isTouched_137 (by simp only [tch, h1, h2, h3, decide_true, decide_false, Bool.not_true, Bool.not_false, Bool.true_and, Bool.false_and, Bool.and_true, Bool.and_false, Bool.true_or, Bool.or_true, Bool.false_or, Bool.or_false, Bool.and_self, Bool.or_self, bI_t, bI_f, if_true, if_false, ite_true, ite_false, Bool.false_eq_true, Bool.true_eq_false, eq_self, reduceIte, true_or, or_true, false_or, or_false, and_true, true_and, and_false, false_and, not_true_eq_false, not_false_eq_true, decide_eq_true_eq, decide_eq_false_iff_not])
      · replace h3 := bI_n.mp h3
        refine i_iload B 3 dX7_isTouched_98 rfl ?_
        refine i_iload B 2 dX7_isTouched_100 rfl ?_
        refine i_iload B 1 dX7_isTouched_102 rfl ?_
        refine i_iload B 0 dX7_isTouched_104 rfl ?_
        refine i_iload_n B 6 dX7_isTouched_106 rfl ?_
        refine i_iload_n B 7 dX7_isTouched_107 rfl ?_
        refine c_roSN (rest := []) (As := [.int (2 * ((a 2) o)), .int (2 * ((a 3) o)), .int (2 * ((a 4) o)), .int (2 * ((a 5) o)), .int ax, .int ay]) B (k_X8_turn l E (2 * ((a 2) o)) (2 * ((a 3) o)) (2 * ((a 4) o)) (2 * ((a 5) o)) ax ay) cal_yX8_turn is_yX8_turn (fun U h => h.2.2.2.2.2.2.1) (by decide) (by decide) rfl (Nat.le_of_ble_eq_true rfl) Has.nil _ rfl dX7_isTouched_108 (fun r hr => ?_)
        subst hr
        refine i_val (v' := .int (trn (2 * ((a 2) o)) (2 * ((a 3) o)) (2 * ((a 4) o)) (2 * ((a 5) o)) ax ay)) rfl ?_
        refine i_iload B 3 dX7_isTouched_111 rfl ?_
        refine i_iload B 2 dX7_isTouched_113 rfl ?_
        refine i_iload B 1 dX7_isTouched_115 rfl ?_
        refine i_iload B 0 dX7_isTouched_117 rfl ?_
        refine i_iload B 8 dX7_isTouched_119 rfl ?_
        refine i_iload B 9 dX7_isTouched_121 rfl ?_
        refine c_roSN (rest := [.int (trn (2 * ((a 2) o)) (2 * ((a 3) o)) (2 * ((a 4) o)) (2 * ((a 5) o)) ax ay)]) (As := [.int (2 * ((a 2) o)), .int (2 * ((a 3) o)), .int (2 * ((a 4) o)), .int (2 * ((a 5) o)), .int bx, .int by_]) B (k_X8_turn l E (2 * ((a 2) o)) (2 * ((a 3) o)) (2 * ((a 4) o)) (2 * ((a 5) o)) bx by_) cal_yX8_turn is_yX8_turn (fun U h => h.2.2.2.2.2.2.1) (by decide) (by decide) rfl (Nat.le_of_ble_eq_true rfl) Has.nil _ rfl dX7_isTouched_123 (fun r hr => ?_)
        subst hr
        refine i_val (v' := .int (trn (2 * ((a 2) o)) (2 * ((a 3) o)) (2 * ((a 4) o)) (2 * ((a 5) o)) bx by_)) rfl ?_
        refine c_roS (rest := []) (As := [.int (trn (2 * ((a 2) o)) (2 * ((a 3) o)) (2 * ((a 4) o)) (2 * ((a 5) o)) ax ay), .int (trn (2 * ((a 2) o)) (2 * ((a 3) o)) (2 * ((a 4) o)) (2 * ((a 5) o)) bx by_)]) B (k_X7_areApart l E (trn (2 * ((a 2) o)) (2 * ((a 3) o)) (2 * ((a 4) o)) (2 * ((a 5) o)) ax ay) (trn (2 * ((a 2) o)) (2 * ((a 3) o)) (2 * ((a 4) o)) (2 * ((a 5) o)) bx by_)) cal_yX7_areApart is_yX7_areApart mlX7_52 (by decide) (by decide) rfl (Nat.le_of_ble_eq_true rfl) Has.nil _ rfl dX7_isTouched_126 (fun r hr => ?_)
        subst hr
        refine i_val (v' := .int (bI (apt (trn (2 * ((a 2) o)) (2 * ((a 3) o)) (2 * ((a 4) o)) (2 * ((a 5) o)) ax ay) (trn (2 * ((a 2) o)) (2 * ((a 3) o)) (2 * ((a 4) o)) (2 * ((a 5) o)) bx by_)))) rfl ?_
        refine i_if_eq B 136 dX7_isTouched_129 (by decide) (fun h4 => ?_) (fun h4 => ?_)
        · replace h4 := bI_0.mp h4
          refine i_iconst (v := 0) B dX7_isTouched_136 (by decide) ?_
          exact ret _ _ _ (by decide) dX7_isTouched_137 (by simp only [tch, h1, h2, h3, h4, decide_true, decide_false, Bool.not_true, Bool.not_false, Bool.true_and, Bool.false_and, Bool.and_true, Bool.and_false, Bool.true_or, Bool.or_true, Bool.false_or, Bool.or_false, Bool.and_self, Bool.or_self, bI_t, bI_f, if_true, if_false, ite_true, ite_false, Bool.false_eq_true, Bool.true_eq_false, eq_self, reduceIte, true_or, or_true, false_or, or_false, and_true, true_and, and_false, false_and, not_true_eq_false, not_false_eq_true, decide_eq_true_eq, decide_eq_false_iff_not])
        · replace h4 := bI_n.mp h4
          refine i_iconst (v := 1) B dX7_isTouched_132 (by decide) ?_
          refine i_goto B 137 dX7_isTouched_133 (by decide) ?_
          exact ret _ _ _ (by decide) dX7_isTouched_137 (by simp only [tch, h1, h2, h3, h4, decide_true, decide_false, Bool.not_true, Bool.not_false, Bool.true_and, Bool.false_and, Bool.and_true, Bool.and_false, Bool.true_or, Bool.or_true, Bool.false_or, Bool.or_false, Bool.and_self, Bool.or_self, bI_t, bI_f, if_true, if_false, ite_true, ite_false, Bool.false_eq_true, Bool.true_eq_false, eq_self, reduceIte, true_or, or_true, false_or, or_false, and_true, true_and, and_false, false_and, not_true_eq_false, not_false_eq_true, decide_eq_true_eq, decide_eq_false_iff_not])

def vsd (a : Nat → Nat → Int32) (x y : Int32) (p : Nat) : Int32 := sdy a p * swx a x p - sdx a p * swy a y p
def vwy (a : Nat → Nat → Int32) (x y : Int32) (p : Nat) : Int32 := swx a x p * swx a x p + swy a y p * swy a y p
def vln (a : Nat → Nat → Int32) (p : Nat) : Int64 := (sdx a p * sdx a p + sdy a p * sdy a p).toInt64
def vs1 (g : Nat → Int32) (a : Nat → Nat → Int32) (x y : Int32) (p : Nat) : Bool := decide (0 < vsd a x y p) && (!decide (4 * g 6 * g 6 < vwy a x y p) && !decide (100 * (vsd a x y p).toInt64 * (vsd a x y p).toInt64 < (g 7).toInt64 * vln a p * (vwy a x y p).toInt64))
def vto (a : Nat → Nat → Int32) (x y : Int32) (p o : Nat) : Bool := tch (2 * x) (2 * y) (smx a p) (smy a p) (2 * a 2 o) (2 * a 3 o) (2 * a 4 o) (2 * a 5 o)
def vcl (a : Nat → Nat → Int32) (x y : Int32) (p : Nat) : Nat → Bool
  | 0 => true
  | k + 1 => vcl a x y p k && (decide (k = p) || !vto a x y p k)
/-- the class's SEEN -/
def vs (g : Nat → Int32) (a : Nat → Nat → Int32) (np : Nat) (x y : Int32) (p : Nat) : Bool := vs1 g a x y p && vcl a x y p np
theorem vcl_le {a : Nat → Nat → Int32} {x y : Int32} {p i n : Nat} (h : vcl a x y p i = false) (hi : i ≤ n) : vcl a x y p n = false := by
  induction n with
  | zero => rw [show i = 0 by omega] at h; exact h
  | succ n ih =>
    by_cases e : i = n + 1
    · rw [e] at h; exact h
    · rw [vcl, ih (by omega), Bool.false_and]

set_option maxHeartbeats 4000000 in
set_option maxRecDepth 100000 in
theorem k_X7_isVisible (l : Launch) (E : ED) (q : Nat → Nat) (g : Nat → Int32) (a : Nat → Nat → Int32) (np : Nat) (hn : g 1 = nI np) (hnp : np ≤ 12) (p : Nat) (hp : p < 12) (x y : Int32) : RO l E yX7_isVisible cX7_isVisible 15 .boolean 3 73 [.ref (q 41), .int x, .int y, .int (nI p)] (sW E q g a) (fun r => r = bI (vs g a np x y p)) := by
  refine RO.mk (by decide) (Nat.le_of_ble_eq_true rfl) [(0, .ref (q 41)), (1, .int x), (2, .int y), (3, .int (nI p))] rfl (fun Z B ret => ?_)
  have lp : ∀ (n_lp : Nat) (i : Nat), (np - i < n_lp) → (i ≤ np) → (vcl a x y p i = true) → (vs1 g a x y p = true) → J Z 0 0 (sW E q g a) 173 [(14, .int (nI i)), (0, .ref (q 41)), (1, .int x), (2, .int y), (3, .int (nI p)), (6, .int (((a 2) p) + ((a 4) p))), (7, .int (((a 3) p) + ((a 5) p)))] [] := by
    intro n_lp
    induction n_lp with
    | zero => intro i hf_lp hi hcl hs1; omega
    | succ n_lp ih_lp =>
      intro i hf_lp hi hcl hs1
      refine i_iload B 0 dX7_isVisible_173 rfl ?_
      refine i_aload_n B 1 dX7_isVisible_175 rfl ?_
      refine i_get (v := .int (g 1)) B flX7_31 0 rfl rfl dX7_isVisible_176 ?_
      refine i_icmp_ge B 215 dX7_isVisible_179 (by decide) (fun h1 => ?_) (fun h1 => ?_)
      · replace h1 := q_n32.mpr h1
        rw [hn, nI_ltI (by omega) (by omega)] at h1
        refine i_iconst (v := 1) B dX7_isVisible_215 (by decide) ?_
        exact ret _ _ _ (by decide) dX7_isVisible_216 (by rw [vs, hs1, show np = i by omega, hcl]; rfl)
      · replace h1 := q_m32.mp h1
        rw [hn, nI_ltI (by omega) (by omega)] at h1
        refine i_iload B 0 dX7_isVisible_182 rfl ?_
        refine i_iload_n B 4 dX7_isVisible_184 rfl ?_
        refine i_icmp_eq B 209 dX7_isVisible_185 (by decide) (fun h2 => ?_) (fun h2 => ?_)
        · rw [nI_eq (by omega) (by omega)] at h2
          have h2d := decide_eq_true h2
          refine i_iinc (v := (nI (i + 1))) B 0 [(14, .int (nI (i + 1))), (0, .ref (q 41)), (1, .int x), (2, .int y), (3, .int (nI p)), (6, .int (((a 2) p) + ((a 4) p))), (7, .int (((a 3) p) + ((a 5) p)))] dX7_isVisible_209 rfl ((nI_1 _)) (by decide) rfl ?_
          refine i_goto B 173 dX7_isVisible_212 (by decide) ?_
          exact ih_lp (i + 1) (by omega) (by omega) (by rw [vcl, hcl]; simp only [vto, smx, smy, h2d, decide_true, decide_false, Bool.not_true, Bool.not_false, Bool.true_and, Bool.false_and, Bool.and_true, Bool.and_false, Bool.true_or, Bool.or_true, Bool.false_or, Bool.or_false, Bool.and_self, Bool.or_self, bI_t, bI_f]) hs1
        · rw [nI_eq (by omega) (by omega)] at h2
          have h2d := decide_eq_false h2
          refine i_aload_n B 1 dX7_isVisible_188 rfl ?_
          refine i_iload B 0 dX7_isVisible_189 rfl ?_
          refine i_iconst (v := 2) B dX7_isVisible_191 (by decide) ?_
          refine i_iload_n B 2 dX7_isVisible_192 rfl ?_
          refine i_imul B dX7_isVisible_193 ?_
          refine i_iconst (v := 2) B dX7_isVisible_194 (by decide) ?_
          refine i_iload_n B 3 dX7_isVisible_195 rfl ?_
          refine i_imul B dX7_isVisible_196 ?_
          refine i_iload B 5 dX7_isVisible_197 rfl ?_
          refine i_iload B 6 dX7_isVisible_199 rfl ?_
          refine c_roV (rest := []) (As := [.int (nI i), .int (2 * x), .int (2 * y), .int (((a 2) p) + ((a 4) p)), .int (((a 3) p) + ((a 5) p))]) B (k_X7_isTouched l E q g a i (by omega) (2 * x) (2 * y) (((a 2) p) + ((a 4) p)) (((a 3) p) + ((a 5) p))) cal_yX7_isTouched iv_yX7_isTouched mlX7_40 rfl 0 rfl (by decide) (by decide) rfl (Nat.le_of_ble_eq_true rfl) Has.rf _ rfl dX7_isVisible_201 (fun r hr => ?_)
          subst hr
          refine i_val (v' := .int (bI (tch (2 * x) (2 * y) (((a 2) p) + ((a 4) p)) (((a 3) p) + ((a 5) p)) (2 * a 2 i) (2 * a 3 i) (2 * a 4 i) (2 * a 5 i)))) rfl ?_
          refine i_if_eq B 209 dX7_isVisible_204 (by decide) (fun h3 => ?_) (fun h3 => ?_)
          · replace h3 := bI_0.mp h3
            refine i_iinc (v := (nI (i + 1))) B 0 [(14, .int (nI (i + 1))), (0, .ref (q 41)), (1, .int x), (2, .int y), (3, .int (nI p)), (6, .int (((a 2) p) + ((a 4) p))), (7, .int (((a 3) p) + ((a 5) p)))] dX7_isVisible_209 rfl ((nI_1 _)) (by decide) rfl ?_
            refine i_goto B 173 dX7_isVisible_212 (by decide) ?_
            exact ih_lp (i + 1) (by omega) (by omega) (by rw [vcl, hcl]; simp only [vto, smx, smy, h2d, h3, decide_true, decide_false, Bool.not_true, Bool.not_false, Bool.true_and, Bool.false_and, Bool.and_true, Bool.and_false, Bool.true_or, Bool.or_true, Bool.false_or, Bool.or_false, Bool.and_self, Bool.or_self, bI_t, bI_f]) hs1
          · replace h3 := bI_n.mp h3
            refine i_iconst (v := 0) B dX7_isVisible_207 (by decide) ?_
            exact ret _ _ _ (by decide) dX7_isVisible_208 (by rw [vs, hs1, vcl_le (i := i + 1) (by rw [vcl, hcl]; simp only [vto, smx, smy, h2d, h3, decide_true, decide_false, Bool.not_true, Bool.not_false, Bool.true_and, Bool.false_and, Bool.and_true, Bool.and_false, Bool.true_or, Bool.or_true, Bool.false_or, Bool.or_false, Bool.and_self, Bool.or_self, bI_t, bI_f]) (by omega)]; rfl)
  refine i_aload_n B 0 dX7_isVisible_0 rfl ?_
  refine i_get (v := .ref (q 4)) B flX7_18 0 rfl rfl dX7_isVisible_1 ?_
  refine i_iload_n B 3 dX7_isVisible_4 rfl ?_
  refine i_ialdN B 3 p rfl rfl (by omega) (by decide) dX7_isVisible_5 ?_
  refine i_aload_n B 0 dX7_isVisible_6 rfl ?_
  refine i_get (v := .ref (q 2)) B flX7_9 0 rfl rfl dX7_isVisible_7 ?_
  refine i_iload_n B 3 dX7_isVisible_10 rfl ?_
  refine i_ialdN B 1 p rfl rfl (by omega) (by decide) dX7_isVisible_11 ?_
  refine i_isub B dX7_isVisible_12 ?_
  refine i_istore B [(4, .int (((a 4) p) - ((a 2) p))), (0, .ref (q 41)), (1, .int x), (2, .int y), (3, .int (nI p))] dX7_isVisible_13 (by decide) rfl ?_
  refine i_aload_n B 1 dX7_isVisible_15 rfl ?_
  refine i_get (v := .ref (q 5)) B flX7_21 0 rfl rfl dX7_isVisible_16 ?_
  refine i_iload_n B 4 dX7_isVisible_19 rfl ?_
  refine i_ialdN B 4 p rfl rfl (by omega) (by decide) dX7_isVisible_20 ?_
  refine i_aload_n B 1 dX7_isVisible_21 rfl ?_
  refine i_get (v := .ref (q 3)) B flX7_15 0 rfl rfl dX7_isVisible_22 ?_
  refine i_iload_n B 4 dX7_isVisible_25 rfl ?_
  refine i_ialdN B 2 p rfl rfl (by omega) (by decide) dX7_isVisible_26 ?_
  refine i_isub B dX7_isVisible_27 ?_
  refine i_istore B [(5, .int (((a 5) p) - ((a 3) p))), (4, .int (((a 4) p) - ((a 2) p))), (0, .ref (q 41)), (1, .int x), (2, .int y), (3, .int (nI p))] dX7_isVisible_28 (by decide) rfl ?_
  refine i_aload_n B 2 dX7_isVisible_30 rfl ?_
  refine i_get (v := .ref (q 2)) B flX7_9 0 rfl rfl dX7_isVisible_31 ?_
  refine i_iload_n B 5 dX7_isVisible_34 rfl ?_
  refine i_ialdN B 1 p rfl rfl (by omega) (by decide) dX7_isVisible_35 ?_
  refine i_aload_n B 2 dX7_isVisible_36 rfl ?_
  refine i_get (v := .ref (q 4)) B flX7_18 0 rfl rfl dX7_isVisible_37 ?_
  refine i_iload_n B 5 dX7_isVisible_40 rfl ?_
  refine i_ialdN B 3 p rfl rfl (by omega) (by decide) dX7_isVisible_41 ?_
  refine i_iadd B dX7_isVisible_42 ?_
  refine i_istore B [(6, .int (((a 2) p) + ((a 4) p))), (5, .int (((a 5) p) - ((a 3) p))), (4, .int (((a 4) p) - ((a 2) p))), (0, .ref (q 41)), (1, .int x), (2, .int y), (3, .int (nI p))] dX7_isVisible_43 (by decide) rfl ?_
  refine i_aload_n B 3 dX7_isVisible_45 rfl ?_
  refine i_get (v := .ref (q 3)) B flX7_15 0 rfl rfl dX7_isVisible_46 ?_
  refine i_iload_n B 6 dX7_isVisible_49 rfl ?_
  refine i_ialdN B 2 p rfl rfl (by omega) (by decide) dX7_isVisible_50 ?_
  refine i_aload_n B 3 dX7_isVisible_51 rfl ?_
  refine i_get (v := .ref (q 5)) B flX7_21 0 rfl rfl dX7_isVisible_52 ?_
  refine i_iload_n B 6 dX7_isVisible_55 rfl ?_
  refine i_ialdN B 4 p rfl rfl (by omega) (by decide) dX7_isVisible_56 ?_
  refine i_iadd B dX7_isVisible_57 ?_
  refine i_istore B [(7, .int (((a 3) p) + ((a 5) p))), (6, .int (((a 2) p) + ((a 4) p))), (5, .int (((a 5) p) - ((a 3) p))), (4, .int (((a 4) p) - ((a 2) p))), (0, .ref (q 41)), (1, .int x), (2, .int y), (3, .int (nI p))] dX7_isVisible_58 (by decide) rfl ?_
  refine i_iload B 1 dX7_isVisible_60 rfl ?_
  refine i_iconst (v := 2) B dX7_isVisible_62 (by decide) ?_
  refine i_iload_n B 5 dX7_isVisible_63 rfl ?_
  refine i_imul B dX7_isVisible_64 ?_
  refine i_isub B dX7_isVisible_65 ?_
  refine i_istore B [(8, .int ((((a 2) p) + ((a 4) p)) - (2 * x))), (7, .int (((a 3) p) + ((a 5) p))), (6, .int (((a 2) p) + ((a 4) p))), (5, .int (((a 5) p) - ((a 3) p))), (4, .int (((a 4) p) - ((a 2) p))), (0, .ref (q 41)), (1, .int x), (2, .int y), (3, .int (nI p))] dX7_isVisible_66 (by decide) rfl ?_
  refine i_iload B 1 dX7_isVisible_68 rfl ?_
  refine i_iconst (v := 2) B dX7_isVisible_70 (by decide) ?_
  refine i_iload_n B 7 dX7_isVisible_71 rfl ?_
  refine i_imul B dX7_isVisible_72 ?_
  refine i_isub B dX7_isVisible_73 ?_
  refine i_istore B [(9, .int ((((a 3) p) + ((a 5) p)) - (2 * y))), (8, .int ((((a 2) p) + ((a 4) p)) - (2 * x))), (7, .int (((a 3) p) + ((a 5) p))), (6, .int (((a 2) p) + ((a 4) p))), (5, .int (((a 5) p) - ((a 3) p))), (4, .int (((a 4) p) - ((a 2) p))), (0, .ref (q 41)), (1, .int x), (2, .int y), (3, .int (nI p))] dX7_isVisible_74 (by decide) rfl ?_
  refine i_iload B 4 dX7_isVisible_76 rfl ?_
  refine i_iload B 1 dX7_isVisible_78 rfl ?_
  refine i_imul B dX7_isVisible_80 ?_
  refine i_iload B 5 dX7_isVisible_81 rfl ?_
  refine i_iload B 0 dX7_isVisible_83 rfl ?_
  refine i_imul B dX7_isVisible_85 ?_
  refine i_isub B dX7_isVisible_86 ?_
  refine i_istore B [(10, .int (((((a 5) p) - ((a 3) p)) * ((((a 2) p) + ((a 4) p)) - (2 * x))) - ((((a 4) p) - ((a 2) p)) * ((((a 3) p) + ((a 5) p)) - (2 * y))))), (9, .int ((((a 3) p) + ((a 5) p)) - (2 * y))), (8, .int ((((a 2) p) + ((a 4) p)) - (2 * x))), (7, .int (((a 3) p) + ((a 5) p))), (6, .int (((a 2) p) + ((a 4) p))), (5, .int (((a 5) p) - ((a 3) p))), (4, .int (((a 4) p) - ((a 2) p))), (0, .ref (q 41)), (1, .int x), (2, .int y), (3, .int (nI p))] dX7_isVisible_87 (by decide) rfl ?_
  refine i_iload B 0 dX7_isVisible_89 rfl ?_
  refine i_if_gt B 96 dX7_isVisible_91 (by decide) (fun h4 => ?_) (fun h4 => ?_)
  · refine i_iload B 2 dX7_isVisible_96 rfl ?_
    refine i_iload B 2 dX7_isVisible_98 rfl ?_
    refine i_imul B dX7_isVisible_100 ?_
    refine i_iload B 1 dX7_isVisible_101 rfl ?_
    refine i_iload B 1 dX7_isVisible_103 rfl ?_
    refine i_imul B dX7_isVisible_105 ?_
    refine i_iadd B dX7_isVisible_106 ?_
    refine i_istore B [(11, .int ((((((a 2) p) + ((a 4) p)) - (2 * x)) * ((((a 2) p) + ((a 4) p)) - (2 * x))) + (((((a 3) p) + ((a 5) p)) - (2 * y)) * ((((a 3) p) + ((a 5) p)) - (2 * y))))), (10, .int (((((a 5) p) - ((a 3) p)) * ((((a 2) p) + ((a 4) p)) - (2 * x))) - ((((a 4) p) - ((a 2) p)) * ((((a 3) p) + ((a 5) p)) - (2 * y))))), (9, .int ((((a 3) p) + ((a 5) p)) - (2 * y))), (8, .int ((((a 2) p) + ((a 4) p)) - (2 * x))), (7, .int (((a 3) p) + ((a 5) p))), (6, .int (((a 2) p) + ((a 4) p))), (5, .int (((a 5) p) - ((a 3) p))), (4, .int (((a 4) p) - ((a 2) p))), (0, .ref (q 41)), (1, .int x), (2, .int y), (3, .int (nI p))] dX7_isVisible_107 (by decide) rfl ?_
    refine i_iload B 0 dX7_isVisible_109 rfl ?_
    refine i_iconst (v := 4) B dX7_isVisible_111 (by decide) ?_
    refine i_aload_n B 8 dX7_isVisible_112 rfl ?_
    refine i_get (v := .int (g 6)) B flX7_24 0 rfl rfl dX7_isVisible_113 ?_
    refine i_imul B dX7_isVisible_116 ?_
    refine i_aload_n B 8 dX7_isVisible_117 rfl ?_
    refine i_get (v := .int (g 6)) B flX7_24 0 rfl rfl dX7_isVisible_118 ?_
    refine i_imul B dX7_isVisible_121 ?_
    refine i_icmp_le B 127 dX7_isVisible_122 (by decide) (fun h5 => ?_) (fun h5 => ?_)
    · replace h5 := q_n32.mpr h5
      refine i_iload B 7 dX7_isVisible_127 rfl ?_
      refine i_iload B 7 dX7_isVisible_129 rfl ?_
      refine i_imul B dX7_isVisible_131 ?_
      refine i_iload B 6 dX7_isVisible_132 rfl ?_
      refine i_iload B 6 dX7_isVisible_134 rfl ?_
      refine i_imul B dX7_isVisible_136 ?_
      refine i_iadd B dX7_isVisible_137 ?_
      refine i_i2l B dX7_isVisible_138 ?_
      refine i_lstore B [(12, .long (Int32.toInt64 (((((a 4) p) - ((a 2) p)) * (((a 4) p) - ((a 2) p))) + ((((a 5) p) - ((a 3) p)) * (((a 5) p) - ((a 3) p)))))), (11, .int ((((((a 2) p) + ((a 4) p)) - (2 * x)) * ((((a 2) p) + ((a 4) p)) - (2 * x))) + (((((a 3) p) + ((a 5) p)) - (2 * y)) * ((((a 3) p) + ((a 5) p)) - (2 * y))))), (10, .int (((((a 5) p) - ((a 3) p)) * ((((a 2) p) + ((a 4) p)) - (2 * x))) - ((((a 4) p) - ((a 2) p)) * ((((a 3) p) + ((a 5) p)) - (2 * y))))), (9, .int ((((a 3) p) + ((a 5) p)) - (2 * y))), (8, .int ((((a 2) p) + ((a 4) p)) - (2 * x))), (7, .int (((a 3) p) + ((a 5) p))), (6, .int (((a 2) p) + ((a 4) p))), (5, .int (((a 5) p) - ((a 3) p))), (4, .int (((a 4) p) - ((a 2) p))), (0, .ref (q 41)), (1, .int x), (2, .int y), (3, .int (nI p))] dX7_isVisible_139 (by decide) rfl ?_
      refine i_ldc2 B ckX7_38 dX7_isVisible_141 ?_
      refine i_iload B 2 dX7_isVisible_144 rfl ?_
      refine i_i2l B dX7_isVisible_146 ?_
      refine i_lmul B dX7_isVisible_147 ?_
      refine i_iload B 2 dX7_isVisible_148 rfl ?_
      refine i_i2l B dX7_isVisible_150 ?_
      refine i_lmul B dX7_isVisible_151 ?_
      refine i_aload_n B 9 dX7_isVisible_152 rfl ?_
      refine i_get (v := .int (g 7)) B flX7_28 0 rfl rfl dX7_isVisible_153 ?_
      refine i_i2l B dX7_isVisible_156 ?_
      refine i_lload B 0 dX7_isVisible_157 rfl ?_
      refine i_lmul B dX7_isVisible_159 ?_
      refine i_iload B 1 dX7_isVisible_160 rfl ?_
      refine i_i2l B dX7_isVisible_162 ?_
      refine i_lmul B dX7_isVisible_163 ?_
      refine i_lc_ge B 170 dX7_isVisible_164 dX7_isVisible_165 (by decide) (fun h6 => ?_) (fun h6 => ?_)
      · replace h6 := q_n64.mpr h6
        refine i_iconst (v := 0) B dX7_isVisible_170 (by decide) ?_
        refine i_istore B [(14, .int 0), (12, .long (Int32.toInt64 (((((a 4) p) - ((a 2) p)) * (((a 4) p) - ((a 2) p))) + ((((a 5) p) - ((a 3) p)) * (((a 5) p) - ((a 3) p)))))), (11, .int ((((((a 2) p) + ((a 4) p)) - (2 * x)) * ((((a 2) p) + ((a 4) p)) - (2 * x))) + (((((a 3) p) + ((a 5) p)) - (2 * y)) * ((((a 3) p) + ((a 5) p)) - (2 * y))))), (10, .int (((((a 5) p) - ((a 3) p)) * ((((a 2) p) + ((a 4) p)) - (2 * x))) - ((((a 4) p) - ((a 2) p)) * ((((a 3) p) + ((a 5) p)) - (2 * y))))), (9, .int ((((a 3) p) + ((a 5) p)) - (2 * y))), (8, .int ((((a 2) p) + ((a 4) p)) - (2 * x))), (7, .int (((a 3) p) + ((a 5) p))), (6, .int (((a 2) p) + ((a 4) p))), (5, .int (((a 5) p) - ((a 3) p))), (4, .int (((a 4) p) - ((a 2) p))), (0, .ref (q 41)), (1, .int x), (2, .int y), (3, .int (nI p))] dX7_isVisible_171 (by decide) rfl ?_
        refine i_locals [0, 10, 11, 12, 13, 7, 6] (L' := [(14, .int 0), (0, .ref (q 41)), (1, .int x), (2, .int y), (3, .int (nI p)), (6, .int (((a 2) p) + ((a 4) p))), (7, .int (((a 3) p) + ((a 5) p)))]) rfl ?_
        refine i_Leq (congrArg (fun z_9 => ([(14, .int z_9), (0, .ref (q 41)), (1, .int x), (2, .int y), (3, .int (nI p)), (6, .int (((a 2) p) + ((a 4) p))), (7, .int (((a 3) p) + ((a 5) p)))] : List (Nat × Value))) (show (0 : Int32) = (nI 0) from rfl)) ?_
        exact lp (np + 1) 0 (by omega) (Nat.zero_le _) rfl (by rw [vs1]; simp only [vsd, vwy, vln, sdx, sdy, smx, smy, swx, swy, h4, h5, h6, decide_true, decide_false, Bool.not_true, Bool.not_false, Bool.true_and, Bool.false_and, Bool.and_true, Bool.and_false, Bool.true_or, Bool.or_true, Bool.false_or, Bool.or_false, Bool.and_self, Bool.or_self, bI_t, bI_f])
      · replace h6 := q_m64.mp h6
        refine i_iconst (v := 0) B dX7_isVisible_168 (by decide) ?_
        exact ret _ _ _ (by decide) dX7_isVisible_169 (by rw [vs, vs1]; simp only [vsd, vwy, vln, sdx, sdy, smx, smy, swx, swy, h4, h5, h6, decide_true, decide_false, Bool.not_true, Bool.not_false, Bool.true_and, Bool.false_and, Bool.and_true, Bool.and_false, Bool.true_or, Bool.or_true, Bool.false_or, Bool.or_false, Bool.and_self, Bool.or_self, bI_t, bI_f])
    · replace h5 := q_m32.mp h5
      refine i_iconst (v := 0) B dX7_isVisible_125 (by decide) ?_
      exact ret _ _ _ (by decide) dX7_isVisible_126 (by rw [vs, vs1]; simp only [vsd, vwy, vln, sdx, sdy, smx, smy, swx, swy, h4, h5, decide_true, decide_false, Bool.not_true, Bool.not_false, Bool.true_and, Bool.false_and, Bool.and_true, Bool.and_false, Bool.true_or, Bool.or_true, Bool.false_or, Bool.or_false, Bool.and_self, Bool.or_self, bI_t, bI_f])
  · refine i_iconst (v := 0) B dX7_isVisible_94 (by decide) ?_
    exact ret _ _ _ (by decide) dX7_isVisible_95 (by rw [vs, vs1]; simp only [vsd, vwy, vln, sdx, sdy, smx, smy, swx, swy, h4, decide_true, decide_false, Bool.not_true, Bool.not_false, Bool.true_and, Bool.false_and, Bool.and_true, Bool.and_false, Bool.true_or, Bool.or_true, Bool.false_or, Bool.or_false, Bool.and_self, Bool.or_self, bI_t, bI_f])
