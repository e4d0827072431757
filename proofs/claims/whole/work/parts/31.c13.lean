set_option maxHeartbeats 4000000 in
set_option maxRecDepth 100000 in
theorem k_X8_forgetRoutesN (l : Launch) (E : ED) (q : Nat → Nat) (g : Nat → Int32) (a : Nat → Nat → Int32) (s : Nat → Int32) (t : Nat → Nat → Int32) : WV l E yX8_forgetRoutes cX8_forgetRoutes 1 0 0 0 0 [.ref (q 40)] (cW E q g a s t .null []) (fun _ : Unit => True) (fun _ => cW E q g a s t .null []) := by
  refine WV.mk (by decide) (Nat.le_of_ble_eq_true rfl) [(0, .ref (q 40))] rfl (fun Z B hI ret => ?_)
  refine i_aload_n B 0 dX8_forgetRoutes_0 rfl ?_
  refine i_get (v := .null) B flX8_211 0 rfl rfl dX8_forgetRoutes_1 ?_
  refine i_ifnullN B 14 dX8_forgetRoutes_4 (by decide) ?_
  exact ret _ _ () dX8_forgetRoutes_14 (trivial)

set_option maxHeartbeats 4000000 in
set_option maxRecDepth 100000 in
theorem k_X8_forgetRoutesR (l : Launch) (E : ED) (q : Nat → Nat) (g : Nat → Int32) (a : Nat → Nat → Int32) (s : Nat → Int32) (t : Nat → Nat → Int32) : WV l E yX8_forgetRoutes cX8_forgetRoutes 1 1 20 0 0 [.ref (q 40)] (cW E q g a s t (.ref (q 49)) (sR E q s t)) (fun _ : Unit => True) (fun _ => cW E q g a (upd (upd s 63 0) 64 0) t (.ref (q 49)) (sR E q (upd (upd s 63 0) 64 0) t)) := by
  refine WV.mk (by decide) (Nat.le_of_ble_eq_true rfl) [(0, .ref (q 40))] rfl (fun Z B hI ret => ?_)
  refine i_aload_n B 0 dX8_forgetRoutes_0 rfl ?_
  refine i_get (v := .ref (q 49)) B flX8_211 0 rfl rfl dX8_forgetRoutes_1 ?_
  refine i_ifnull B dX8_forgetRoutes_4 ?_
  refine i_aload_n B 0 dX8_forgetRoutes_7 rfl ?_
  refine i_get (v := .ref (q 49)) B flX8_211 0 rfl rfl dX8_forgetRoutes_8 ?_
  refine c_wvV (cells := 0) (slots := 0) (rest := []) (As := []) B (k_X6_forget l E q s t) cal_yX6_forget iv_yX6_forget mlX8_221 rfl 31 rfl (by decide) (by decide) rfl (Nat.le_of_ble_eq_true rfl) ([((q 40), .inr (8, [.ref (q 41), .ref (q 42), .ref (q 43), .ref (q 44), .ref (q 45), .ref (q 46), .ref (q 48), .ref (q 49)])), ((q 41), .inr (7, [.ref (q 2), .ref (q 3), .ref (q 4), .ref (q 5), .int (g 1), .int (g 6), .int (g 7)])), ((q 2), .inl (E.2.1, 12, .inl (a 2))), ((q 3), .inl (E.2.1, 12, .inl (a 3))), ((q 4), .inl (E.2.1, 12, .inl (a 4))), ((q 5), .inl (E.2.1, 12, .inl (a 5))), ((q 42), .inr (5, [.ref (q 9), .ref (q 10), .int (g 8)])), ((q 9), .inl (E.2.1, 10, .inl (a 9))), ((q 10), .inl (E.2.1, 10, .inl (a 10))), ((q 43), .inr (3, [.ref (q 50), .int (s 60)])), ((q 50), .inl (E.2.1, 12, .inl (t 50))), ((q 44), .inr (0, [.ref (q 12), .ref (q 13), .ref (q 14), .ref (q 15), .int (g 11), .int (g 16), .int (g 17)])), ((q 12), .inl (E.2.1, 4, .inl (a 12))), ((q 13), .inl (E.2.1, 4, .inl (a 13))), ((q 14), .inl (E.2.1, 4, .inl (a 14))), ((q 15), .inl (E.2.1, 4, .inl (a 15))), ((q 45), .inr (1, [.int (g 90), .int (g 91), .int (g 18), .int (g 19)])), ((q 46), .inr (2, [.ref (q 47), .ref (q 23)])), ((q 47), .inr (5, [.ref (q 21), .ref (q 22), .int (g 20)])), ((q 21), .inl (E.2.1, 20, .inl (a 21))), ((q 22), .inl (E.2.1, 20, .inl (a 22))), ((q 23), .inl (E.2.1, 20, .inl (a 23))), ((q 48), .inr (4, [.ref (q 25), .ref (q 26), .ref (q 27), .ref (q 28), .ref (q 29), .int (g 24), .ref (q 51), .ref (q 52), .ref (q 53), .int (s 61), .int (s 62)])), ((q 25), .inl (E.2.1, 40, .inl (a 25))), ((q 26), .inl (E.2.1, 40, .inl (a 26))), ((q 27), .inl (E.2.1, 40, .inl (a 27))), ((q 28), .inl (E.2.1, 40, .inl (a 28))), ((q 29), .inl (E.2.2, 40, .inl (a 29))), ((q 51), .inl (E.2.1, 40, .inl (t 51))), ((q 52), .inl (E.2.1, 40, .inl (t 52))), ((q 53), .inl (E.2.1, 41, .inl (t 53)))]) ([]) rfl _ rfl dX8_forgetRoutes_11 (fun _ hr => ?_)
  refine i_world (ws' := (cW E q g a (upd (upd s 63 0) 64 0) t (.ref (q 49)) (sR E q (upd (upd s 63 0) 64 0) t))) rfl ?_
  exact ret _ _ () dX8_forgetRoutes_14 (trivial)

def baseC (g : Nat → Int32) (x y : Int32) : Int32 × (Nat → Int32) := if (!pt x y) = true then (-2, g) else (100 * g 90 + g 91, upd (upd g 90 x) 91 y)

set_option maxHeartbeats 4000000 in
set_option maxRecDepth 100000 in
theorem k_X8_closeN (l : Launch) (E : ED) (q : Nat → Nat) (g : Nat → Int32) (a : Nat → Nat → Int32) (s : Nat → Int32) (t : Nat → Nat → Int32) (nc : Nat) (hc : g 11 = nI nc) (hnc : nc ≤ 4) (x1 y1 x2 y2 : Int32) : WR l E yX8_close cX8_close 5 .int 2 43 0 0 [.ref (q 40), .int x1, .int y1, .int x2, .int y2] (cW E q g a s t .null []) (fun r u => (r, u) = closeF g a nc x1 y1 x2 y2) (fun u : GA => cW E q u.1 u.2 s t .null []) := by
  refine WR.mk (by decide) (Nat.le_of_ble_eq_true rfl) [(0, .ref (q 40)), (1, .int x1), (2, .int y1), (3, .int x2), (4, .int y2)] rfl (fun Z B ret => ?_)
  refine i_iload_n B 1 dX8_close_0 rfl ?_
  refine i_iload_n B 2 dX8_close_1 rfl ?_
  refine c_roS (rest := []) (As := [.int x1, .int y1]) B (k_X8_isPoint l E x1 y1) cal_yX8_isPoint is_yX8_isPoint mlX8_60 (by decide) (by decide) rfl (Nat.le_of_ble_eq_true rfl) Has.nil _ rfl dX8_close_2 (fun r hr => ?_)
  subst hr
  refine i_val (v' := .int (bI (pt x1 y1))) rfl ?_
  refine i_if_eq B 17 dX8_close_5 (by decide) (fun h1 => ?_) (fun h1 => ?_)
  · replace h1 := bI_0.mp h1
    refine i_bipush (v := (-2)) B dX8_close_17 (by decide) ?_
    exact ret _ _ _ (g, a) rfl dX8_close_19 (by simp only [closeF, h1, decide_true, decide_false, Bool.not_true, Bool.not_false, Bool.true_and, Bool.false_and, Bool.and_true, Bool.and_false, Bool.true_or, Bool.or_true, Bool.false_or, Bool.or_false, Bool.and_self, Bool.or_self, bI_t, bI_f, if_true, if_false, ite_true, ite_false, Bool.false_eq_true, Bool.true_eq_false, eq_self, reduceIte, true_or, or_true, false_or, or_false, and_true, true_and, and_false, false_and, not_true_eq_false, not_false_eq_true, decide_eq_true_eq, decide_eq_false_iff_not])
  · replace h1 := bI_n.mp h1
    refine i_iload_n B 3 dX8_close_8 rfl ?_
    refine i_iload B 4 dX8_close_9 rfl ?_
    refine c_roS (rest := []) (As := [.int x2, .int y2]) B (k_X8_isPoint l E x2 y2) cal_yX8_isPoint is_yX8_isPoint mlX8_60 (by decide) (by decide) rfl (Nat.le_of_ble_eq_true rfl) Has.nil _ rfl dX8_close_11 (fun r hr => ?_)
    subst hr
    refine i_val (v' := .int (bI (pt x2 y2))) rfl ?_
    refine i_if_ne B 20 dX8_close_14 (by decide) (fun h2 => ?_) (fun h2 => ?_)
    · replace h2 := bI_n.mp h2
      refine i_iload_n B 3 dX8_close_20 rfl ?_
      refine i_iload_n B 1 dX8_close_21 rfl ?_
      refine i_icmp_le B 31 dX8_close_22 (by decide) (fun h3 => ?_) (fun h3 => ?_)
      · replace h3 := q_n32.mpr h3
        refine i_bipush (v := (-3)) B dX8_close_31 (by decide) ?_
        exact ret _ _ _ (g, a) rfl dX8_close_33 (by simp only [closeF, h1, h2, h3, decide_true, decide_false, Bool.not_true, Bool.not_false, Bool.true_and, Bool.false_and, Bool.and_true, Bool.and_false, Bool.true_or, Bool.or_true, Bool.false_or, Bool.or_false, Bool.and_self, Bool.or_self, bI_t, bI_f, if_true, if_false, ite_true, ite_false, Bool.false_eq_true, Bool.true_eq_false, eq_self, reduceIte, true_or, or_true, false_or, or_false, and_true, true_and, and_false, false_and, not_true_eq_false, not_false_eq_true, decide_eq_true_eq, decide_eq_false_iff_not])
      · replace h3 := q_m32.mp h3
        refine i_iload B 4 dX8_close_25 rfl ?_
        refine i_iload_n B 2 dX8_close_27 rfl ?_
        refine i_icmp_gt B 34 dX8_close_28 (by decide) (fun h4 => ?_) (fun h4 => ?_)
        · refine i_aload_n B 0 dX8_close_34 rfl ?_
          refine i_get (v := .ref (q 44)) B flX8_35 0 rfl rfl dX8_close_35 ?_
          refine i_get (v := .int (g 11)) B flX8_121 11 rfl rfl dX8_close_38 ?_
          refine i_iconst (v := 4) B dX8_close_41 (by decide) ?_
          refine i_icmp_lt B 48 dX8_close_42 (by decide) (fun h5 => ?_) (fun h5 => ?_)
          · rw [hc, show (4 : Int32) = nI 4 from rfl, nI_ltI (by omega) (by omega)] at h5
            refine i_aload_n B 0 dX8_close_48 rfl ?_
            refine i_get (v := .ref (q 44)) B flX8_35 0 rfl rfl dX8_close_49 ?_
            refine i_iload_n B 1 dX8_close_52 rfl ?_
            refine i_iload_n B 2 dX8_close_53 rfl ?_
            refine i_iload_n B 3 dX8_close_54 rfl ?_
            refine i_iload B 4 dX8_close_55 rfl ?_
            refine c_wvV (cells := 0) (slots := 0) (rest := []) (As := [.int x1, .int y1, .int x2, .int y2]) B (k_X0_add l E q g a nc hc (by omega) x1 y1 x2 y2) cal_yX0_add iv_yX0_add mlX8_122 rfl 11 rfl (by decide) (by decide) rfl (Nat.le_of_ble_eq_true rfl) ([((q 40), .inr (8, [.ref (q 41), .ref (q 42), .ref (q 43), .ref (q 44), .ref (q 45), .ref (q 46), .ref (q 48), .null])), ((q 41), .inr (7, [.ref (q 2), .ref (q 3), .ref (q 4), .ref (q 5), .int (g 1), .int (g 6), .int (g 7)])), ((q 2), .inl (E.2.1, 12, .inl (a 2))), ((q 3), .inl (E.2.1, 12, .inl (a 3))), ((q 4), .inl (E.2.1, 12, .inl (a 4))), ((q 5), .inl (E.2.1, 12, .inl (a 5))), ((q 42), .inr (5, [.ref (q 9), .ref (q 10), .int (g 8)])), ((q 9), .inl (E.2.1, 10, .inl (a 9))), ((q 10), .inl (E.2.1, 10, .inl (a 10))), ((q 43), .inr (3, [.ref (q 50), .int (s 60)])), ((q 50), .inl (E.2.1, 12, .inl (t 50)))]) ([((q 45), .inr (1, [.int (g 90), .int (g 91), .int (g 18), .int (g 19)])), ((q 46), .inr (2, [.ref (q 47), .ref (q 23)])), ((q 47), .inr (5, [.ref (q 21), .ref (q 22), .int (g 20)])), ((q 21), .inl (E.2.1, 20, .inl (a 21))), ((q 22), .inl (E.2.1, 20, .inl (a 22))), ((q 23), .inl (E.2.1, 20, .inl (a 23))), ((q 48), .inr (4, [.ref (q 25), .ref (q 26), .ref (q 27), .ref (q 28), .ref (q 29), .int (g 24), .ref (q 51), .ref (q 52), .ref (q 53), .int (s 61), .int (s 62)])), ((q 25), .inl (E.2.1, 40, .inl (a 25))), ((q 26), .inl (E.2.1, 40, .inl (a 26))), ((q 27), .inl (E.2.1, 40, .inl (a 27))), ((q 28), .inl (E.2.1, 40, .inl (a 28))), ((q 29), .inl (E.2.2, 40, .inl (a 29))), ((q 51), .inl (E.2.1, 40, .inl (t 51))), ((q 52), .inl (E.2.1, 40, .inl (t 52))), ((q 53), .inl (E.2.1, 41, .inl (t 53)))]) rfl _ rfl dX8_close_57 (fun _ hr => ?_)
            refine i_world (ws' := (cW E q (upd g 11 (nI (nc + 1))) (va_up (va_up (va_up (va_up a 12 (upd (a 12) nc x1)) 13 (upd (a 13) nc y1)) 14 (upd (a 14) nc x2)) 15 (upd (a 15) nc y2)) s t .null [])) rfl ?_
            refine i_aload_n B 0 dX8_close_60 rfl ?_
            refine c_wvV (cells := 0) (slots := 0) (rest := []) (As := []) B (k_X8_forgetRoutesN l E q (upd g 11 (nI (nc + 1))) (va_up (va_up (va_up (va_up a 12 (upd (a 12) nc x1)) 13 (upd (a 13) nc y1)) 14 (upd (a 14) nc x2)) 15 (upd (a 15) nc y2)) s t) cal_yX8_forgetRoutes iv_yX8_forgetRoutes mlX8_125 rfl 0 rfl (by decide) (by decide) rfl (Nat.le_of_ble_eq_true rfl) ([]) ([]) rfl _ rfl dX8_close_61 (fun _ hr => ?_)
            refine i_world (ws' := (cW E q (upd g 11 (nI (nc + 1))) (va_up (va_up (va_up (va_up a 12 (upd (a 12) nc x1)) 13 (upd (a 13) nc y1)) 14 (upd (a 14) nc x2)) 15 (upd (a 15) nc y2)) s t .null [])) rfl ?_
            refine i_aload_n B 0 dX8_close_64 rfl ?_
            refine i_get (v := .ref (q 44)) B flX8_35 0 rfl rfl dX8_close_65 ?_
            refine i_get (v := .int (nI (nc + 1))) B flX8_121 11 rfl rfl dX8_close_68 ?_
            exact ret _ _ _ ((upd g 11 (nI (nc + 1))), (va_up (va_up (va_up (va_up a 12 (upd (a 12) nc x1)) 13 (upd (a 13) nc y1)) 14 (upd (a 14) nc x2)) 15 (upd (a 15) nc y2))) rfl dX8_close_71 (by have e9 : decide (nc = 4) = false := decide_eq_false (by omega); simp only [closeF, h1, h2, h3, h4, h5, e9, decide_true, decide_false, Bool.not_true, Bool.not_false, Bool.true_and, Bool.false_and, Bool.and_true, Bool.and_false, Bool.true_or, Bool.or_true, Bool.false_or, Bool.or_false, Bool.and_self, Bool.or_self, bI_t, bI_f, if_true, if_false, ite_true, ite_false, Bool.false_eq_true, Bool.true_eq_false, eq_self, reduceIte, true_or, or_true, false_or, or_false, and_true, true_and, and_false, false_and, not_true_eq_false, not_false_eq_true, decide_eq_true_eq, decide_eq_false_iff_not])
          · rw [hc, show (4 : Int32) = nI 4 from rfl, nI_ltI (by omega) (by omega)] at h5
            refine i_bipush (v := (-4)) B dX8_close_45 (by decide) ?_
            exact ret _ _ _ (g, a) rfl dX8_close_47 (by have e9 : decide (nc = 4) = true := decide_eq_true (by omega); simp only [closeF, h1, h2, h3, h4, h5, e9, decide_true, decide_false, Bool.not_true, Bool.not_false, Bool.true_and, Bool.false_and, Bool.and_true, Bool.and_false, Bool.true_or, Bool.or_true, Bool.false_or, Bool.or_false, Bool.and_self, Bool.or_self, bI_t, bI_f, if_true, if_false, ite_true, ite_false, Bool.false_eq_true, Bool.true_eq_false, eq_self, reduceIte, true_or, or_true, false_or, or_false, and_true, true_and, and_false, false_and, not_true_eq_false, not_false_eq_true, decide_eq_true_eq, decide_eq_false_iff_not])
        · refine i_bipush (v := (-3)) B dX8_close_31 (by decide) ?_
          exact ret _ _ _ (g, a) rfl dX8_close_33 (by simp only [closeF, h1, h2, h3, h4, decide_true, decide_false, Bool.not_true, Bool.not_false, Bool.true_and, Bool.false_and, Bool.and_true, Bool.and_false, Bool.true_or, Bool.or_true, Bool.false_or, Bool.or_false, Bool.and_self, Bool.or_self, bI_t, bI_f, if_true, if_false, ite_true, ite_false, Bool.false_eq_true, Bool.true_eq_false, eq_self, reduceIte, true_or, or_true, false_or, or_false, and_true, true_and, and_false, false_and, not_true_eq_false, not_false_eq_true, decide_eq_true_eq, decide_eq_false_iff_not])
    · replace h2 := bI_0.mp h2
      refine i_bipush (v := (-2)) B dX8_close_17 (by decide) ?_
      exact ret _ _ _ (g, a) rfl dX8_close_19 (by simp only [closeF, h1, h2, decide_true, decide_false, Bool.not_true, Bool.not_false, Bool.true_and, Bool.false_and, Bool.and_true, Bool.and_false, Bool.true_or, Bool.or_true, Bool.false_or, Bool.or_false, Bool.and_self, Bool.or_self, bI_t, bI_f, if_true, if_false, ite_true, ite_false, Bool.false_eq_true, Bool.true_eq_false, eq_self, reduceIte, true_or, or_true, false_or, or_false, and_true, true_and, and_false, false_and, not_true_eq_false, not_false_eq_true, decide_eq_true_eq, decide_eq_false_iff_not])

set_option maxHeartbeats 4000000 in
set_option maxRecDepth 100000 in
theorem k_X8_openN (l : Launch) (E : ED) (q : Nat → Nat) (g : Nat → Int32) (a : Nat → Nat → Int32) (s : Nat → Int32) (t : Nat → Nat → Int32) (nc : Nat) (hc : g 11 = nI nc) (hnc : nc ≤ 4) : WR l E yX8_open cX8_open 1 .int 1 20 0 0 [.ref (q 40)] (cW E q g a s t .null []) (fun r u => (r, u) = openF g nc) (fun u : Nat → Int32 => cW E q u a s t .null []) := by
  refine WR.mk (by decide) (Nat.le_of_ble_eq_true rfl) [(0, .ref (q 40))] rfl (fun Z B ret => ?_)
  refine i_aload_n B 0 dX8_open_0 rfl ?_
  refine i_get (v := .ref (q 44)) B flX8_35 0 rfl rfl dX8_open_1 ?_
  refine i_get (v := .int (g 11)) B flX8_121 11 rfl rfl dX8_open_4 ?_
  refine i_if_ne B 13 dX8_open_7 (by decide) (fun h1 => ?_) (fun h1 => ?_)
  · rw [hc, show (0 : Int32) = nI 0 from rfl, nI_eq (by omega) (by omega)] at h1
    have h1d := decide_eq_false h1
    refine i_aload_n B 0 dX8_open_13 rfl ?_
    refine i_get (v := .ref (q 44)) B flX8_35 0 rfl rfl dX8_open_14 ?_
    refine i_dup B dX8_open_17 rfl ?_
    refine i_get (v := .int (g 11)) B flX8_121 11 rfl rfl dX8_open_18 ?_
    refine i_iconst (v := 1) B dX8_open_21 (by decide) ?_
    refine i_isub B dX8_open_22 ?_
    refine i_val (v' := .int (nI (nc - 1))) (congrArg Value.int (by rw [hc]; exact pk_sub (a := nc) (b := 1) (by omega))) ?_
    refine i_put B flX8_121 11 (cW E q (upd g 11 (nI (nc - 1))) a s t .null []) rfl rfl rfl rfl (Nat.le_of_ble_eq_true rfl) rfl dX8_open_23 ?_
    refine i_aload_n B 0 dX8_open_26 rfl ?_
    refine c_wvV (cells := 0) (slots := 0) (rest := []) (As := []) B (k_X8_forgetRoutesN l E q (upd g 11 (nI (nc - 1))) a s t) cal_yX8_forgetRoutes iv_yX8_forgetRoutes mlX8_125 rfl 0 rfl (by decide) (by decide) rfl (Nat.le_of_ble_eq_true rfl) ([]) ([]) rfl _ rfl dX8_open_27 (fun _ hr => ?_)
    refine i_world (ws' := (cW E q (upd g 11 (nI (nc - 1))) a s t .null [])) rfl ?_
    refine i_aload_n B 0 dX8_open_30 rfl ?_
    refine i_get (v := .ref (q 44)) B flX8_35 0 rfl rfl dX8_open_31 ?_
    refine i_get (v := .int (nI (nc - 1))) B flX8_121 11 rfl rfl dX8_open_34 ?_
    exact ret _ _ _ (upd g 11 (nI (nc - 1))) rfl dX8_open_37 (by simp only [openF, h1d, decide_true, decide_false, Bool.not_true, Bool.not_false, Bool.true_and, Bool.false_and, Bool.and_true, Bool.and_false, Bool.true_or, Bool.or_true, Bool.false_or, Bool.or_false, Bool.and_self, Bool.or_self, bI_t, bI_f, if_true, if_false, ite_true, ite_false, Bool.false_eq_true, Bool.true_eq_false, eq_self, reduceIte, true_or, or_true, false_or, or_false, and_true, true_and, and_false, false_and, not_true_eq_false, not_false_eq_true, decide_eq_true_eq, decide_eq_false_iff_not])
  · rw [hc, show (0 : Int32) = nI 0 from rfl, nI_eq (by omega) (by omega)] at h1
    have h1d := decide_eq_true h1
    refine i_bipush (v := (-3)) B dX8_open_10 (by decide) ?_
    exact ret _ _ _ g rfl dX8_open_12 (by simp only [openF, h1d, decide_true, decide_false, Bool.not_true, Bool.not_false, Bool.true_and, Bool.false_and, Bool.and_true, Bool.and_false, Bool.true_or, Bool.or_true, Bool.false_or, Bool.or_false, Bool.and_self, Bool.or_self, bI_t, bI_f, if_true, if_false, ite_true, ite_false, Bool.false_eq_true, Bool.true_eq_false, eq_self, reduceIte, true_or, or_true, false_or, or_false, and_true, true_and, and_false, false_and, not_true_eq_false, not_false_eq_true, decide_eq_true_eq, decide_eq_false_iff_not])

set_option maxHeartbeats 4000000 in
set_option maxRecDepth 100000 in
theorem k_X8_windN (l : Launch) (E : ED) (q : Nat → Nat) (g : Nat → Int32) (a : Nat → Nat → Int32) (s : Nat → Int32) (t : Nat → Nat → Int32) (x y : Int32) : WR l E yX8_wind cX8_wind 4 .int 1 22 0 0 [.ref (q 40), .int x, .int y] (cW E q g a s t .null []) (fun r u => (r, u) = windF g x y) (fun u : Nat → Int32 => cW E q u a s t .null []) := by
  refine WR.mk (by decide) (Nat.le_of_ble_eq_true rfl) [(0, .ref (q 40)), (1, .int x), (2, .int y)] rfl (fun Z B ret => ?_)
  refine i_iload_n B 1 dX8_wind_0 rfl ?_
  refine i_bipush (v := (-9)) B dX8_wind_1 (by decide) ?_
  refine i_bipush (v := 9) B dX8_wind_3 (by decide) ?_
  refine c_roS (rest := []) (As := [.int x, .int (-9), .int 9]) B (k_X8_isWithin l E x (-9) 9) cal_yX8_isWithin is_yX8_isWithin mlX8_72 (by decide) (by decide) rfl (Nat.le_of_ble_eq_true rfl) Has.nil _ rfl dX8_wind_5 (fun r hr => ?_)
  subst hr
  refine i_val (v' := .int (bI (wit x (-9) 9))) rfl ?_
  refine i_if_eq B 22 dX8_wind_8 (by decide) (fun h1 => ?_) (fun h1 => ?_)
  · replace h1 := bI_0.mp h1
    refine i_bipush (v := (-2)) B dX8_wind_22 (by decide) ?_
    exact ret _ _ _ g rfl dX8_wind_24 (by simp only [windF, h1, decide_true, decide_false, Bool.not_true, Bool.not_false, Bool.true_and, Bool.false_and, Bool.and_true, Bool.and_false, Bool.true_or, Bool.or_true, Bool.false_or, Bool.or_false, Bool.and_self, Bool.or_self, bI_t, bI_f, if_true, if_false, ite_true, ite_false, Bool.false_eq_true, Bool.true_eq_false, eq_self, reduceIte, true_or, or_true, false_or, or_false, and_true, true_and, and_false, false_and, not_true_eq_false, not_false_eq_true, decide_eq_true_eq, decide_eq_false_iff_not])
  · replace h1 := bI_n.mp h1
    refine i_iload_n B 2 dX8_wind_11 rfl ?_
    refine i_bipush (v := (-9)) B dX8_wind_12 (by decide) ?_
    refine i_bipush (v := 9) B dX8_wind_14 (by decide) ?_
    refine c_roS (rest := []) (As := [.int y, .int (-9), .int 9]) B (k_X8_isWithin l E y (-9) 9) cal_yX8_isWithin is_yX8_isWithin mlX8_72 (by decide) (by decide) rfl (Nat.le_of_ble_eq_true rfl) Has.nil _ rfl dX8_wind_16 (fun r hr => ?_)
    subst hr
    refine i_val (v' := .int (bI (wit y (-9) 9))) rfl ?_
    refine i_if_ne B 25 dX8_wind_19 (by decide) (fun h2 => ?_) (fun h2 => ?_)
    · replace h2 := bI_n.mp h2
      refine i_bipush (v := 100) B dX8_wind_25 (by decide) ?_
      refine i_aload_n B 0 dX8_wind_27 rfl ?_
      refine i_get (v := .ref (q 44)) B flX8_35 0 rfl rfl dX8_wind_28 ?_
      refine i_get (v := .int (g 16)) B flX8_128 11 rfl rfl dX8_wind_31 ?_
      refine i_imul B dX8_wind_34 ?_
      refine i_aload_n B 0 dX8_wind_35 rfl ?_
      refine i_get (v := .ref (q 44)) B flX8_35 0 rfl rfl dX8_wind_36 ?_
      refine i_get (v := .int (g 17)) B flX8_131 11 rfl rfl dX8_wind_39 ?_
      refine i_iadd B dX8_wind_42 ?_
      refine i_sipush (v := 909) B dX8_wind_43 (by decide) ?_
      refine i_iadd B dX8_wind_46 ?_
      refine i_istore_n B [(3, .int (((100 * (g 16)) + (g 17)) + 909)), (0, .ref (q 40)), (1, .int x), (2, .int y)] dX8_wind_47 (by decide) rfl ?_
      refine i_aload_n B 1 dX8_wind_48 rfl ?_
      refine i_get (v := .ref (q 44)) B flX8_35 0 rfl rfl dX8_wind_49 ?_
      refine i_iload_n B 2 dX8_wind_52 rfl ?_
      refine i_put B flX8_128 11 (cW E q (upd g 16 x) a s t .null []) rfl rfl rfl rfl (Nat.le_of_ble_eq_true rfl) rfl dX8_wind_53 ?_
      refine i_aload_n B 1 dX8_wind_56 rfl ?_
      refine i_get (v := .ref (q 44)) B flX8_35 0 rfl rfl dX8_wind_57 ?_
      refine i_iload_n B 3 dX8_wind_60 rfl ?_
      refine i_put B flX8_131 11 (cW E q (upd (upd g 16 x) 17 y) a s t .null []) rfl rfl rfl rfl (Nat.le_of_ble_eq_true rfl) rfl dX8_wind_61 ?_
      refine i_aload_n B 1 dX8_wind_64 rfl ?_
      refine c_wvV (cells := 0) (slots := 0) (rest := []) (As := []) B (k_X8_forgetRoutesN l E q (upd (upd g 16 x) 17 y) a s t) cal_yX8_forgetRoutes iv_yX8_forgetRoutes mlX8_125 rfl 0 rfl (by decide) (by decide) rfl (Nat.le_of_ble_eq_true rfl) ([]) ([]) rfl _ rfl dX8_wind_65 (fun _ hr => ?_)
      refine i_world (ws' := (cW E q (upd (upd g 16 x) 17 y) a s t .null [])) rfl ?_
      refine i_iload_n B 0 dX8_wind_68 rfl ?_
      exact ret _ _ _ (upd (upd g 16 x) 17 y) rfl dX8_wind_69 (by simp only [windF, h1, h2, decide_true, decide_false, Bool.not_true, Bool.not_false, Bool.true_and, Bool.false_and, Bool.and_true, Bool.and_false, Bool.true_or, Bool.or_true, Bool.false_or, Bool.or_false, Bool.and_self, Bool.or_self, bI_t, bI_f, if_true, if_false, ite_true, ite_false, Bool.false_eq_true, Bool.true_eq_false, eq_self, reduceIte, true_or, or_true, false_or, or_false, and_true, true_and, and_false, false_and, not_true_eq_false, not_false_eq_true, decide_eq_true_eq, decide_eq_false_iff_not])
    · replace h2 := bI_0.mp h2
      refine i_bipush (v := (-2)) B dX8_wind_22 (by decide) ?_
      exact ret _ _ _ g rfl dX8_wind_24 (by simp only [windF, h1, h2, decide_true, decide_false, Bool.not_true, Bool.not_false, Bool.true_and, Bool.false_and, Bool.and_true, Bool.and_false, Bool.true_or, Bool.or_true, Bool.false_or, Bool.or_false, Bool.and_self, Bool.or_self, bI_t, bI_f, if_true, if_false, ite_true, ite_false, Bool.false_eq_true, Bool.true_eq_false, eq_self, reduceIte, true_or, or_true, false_or, or_false, and_true, true_and, and_false, false_and, not_true_eq_false, not_false_eq_true, decide_eq_true_eq, decide_eq_false_iff_not])

set_option maxHeartbeats 4000000 in
set_option maxRecDepth 100000 in
theorem k_X8_baseN (l : Launch) (E : ED) (q : Nat → Nat) (g : Nat → Int32) (a : Nat → Nat → Int32) (s : Nat → Int32) (t : Nat → Nat → Int32) (x y : Int32) : WR l E yX8_base cX8_base 4 .int 2 43 0 0 [.ref (q 40), .int x, .int y] (cW E q g a s t .null []) (fun r u => (r, u) = baseC g x y) (fun u : Nat → Int32 => cW E q u a s t .null []) := by
  refine WR.mk (by decide) (Nat.le_of_ble_eq_true rfl) [(0, .ref (q 40)), (1, .int x), (2, .int y)] rfl (fun Z B ret => ?_)
  refine i_iload_n B 1 dX8_base_0 rfl ?_
  refine i_iload_n B 2 dX8_base_1 rfl ?_
  refine c_roS (rest := []) (As := [.int x, .int y]) B (k_X8_isPoint l E x y) cal_yX8_isPoint is_yX8_isPoint mlX8_60 (by decide) (by decide) rfl (Nat.le_of_ble_eq_true rfl) Has.nil _ rfl dX8_base_2 (fun r hr => ?_)
  subst hr
  refine i_val (v' := .int (bI (pt x y))) rfl ?_
  refine i_if_ne B 11 dX8_base_5 (by decide) (fun h1 => ?_) (fun h1 => ?_)
  · replace h1 := bI_n.mp h1
    refine i_bipush (v := 100) B dX8_base_11 (by decide) ?_
    refine i_aload_n B 0 dX8_base_13 rfl ?_
    refine i_get (v := .ref (q 45)) B flX8_42 0 rfl rfl dX8_base_14 ?_
    refine i_get (v := .int (g 90)) B flX8_134 16 rfl rfl dX8_base_17 ?_
    refine i_imul B dX8_base_20 ?_
    refine i_aload_n B 0 dX8_base_21 rfl ?_
    refine i_get (v := .ref (q 45)) B flX8_42 0 rfl rfl dX8_base_22 ?_
    refine i_get (v := .int (g 91)) B flX8_137 16 rfl rfl dX8_base_25 ?_
    refine i_iadd B dX8_base_28 ?_
    refine i_istore_n B [(3, .int ((100 * (g 90)) + (g 91))), (0, .ref (q 40)), (1, .int x), (2, .int y)] dX8_base_29 (by decide) rfl ?_
    refine i_aload_n B 1 dX8_base_30 rfl ?_
    refine i_get (v := .ref (q 45)) B flX8_42 0 rfl rfl dX8_base_31 ?_
    refine i_iload_n B 2 dX8_base_34 rfl ?_
    refine i_put B flX8_134 16 (cW E q (upd g 90 x) a s t .null []) rfl rfl rfl rfl (Nat.le_of_ble_eq_true rfl) rfl dX8_base_35 ?_
    refine i_aload_n B 1 dX8_base_38 rfl ?_
    refine i_get (v := .ref (q 45)) B flX8_42 0 rfl rfl dX8_base_39 ?_
    refine i_iload_n B 3 dX8_base_42 rfl ?_
    refine i_put B flX8_137 16 (cW E q (upd (upd g 90 x) 91 y) a s t .null []) rfl rfl rfl rfl (Nat.le_of_ble_eq_true rfl) rfl dX8_base_43 ?_
    refine i_aload_n B 1 dX8_base_46 rfl ?_
    refine c_wvV (cells := 0) (slots := 0) (rest := []) (As := []) B (k_X8_forgetRoutesN l E q (upd (upd g 90 x) 91 y) a s t) cal_yX8_forgetRoutes iv_yX8_forgetRoutes mlX8_125 rfl 0 rfl (by decide) (by decide) rfl (Nat.le_of_ble_eq_true rfl) ([]) ([]) rfl _ rfl dX8_base_47 (fun _ hr => ?_)
    refine i_world (ws' := (cW E q (upd (upd g 90 x) 91 y) a s t .null [])) rfl ?_
    refine i_iload_n B 0 dX8_base_50 rfl ?_
    exact ret _ _ _ (upd (upd g 90 x) 91 y) rfl dX8_base_51 (by simp only [baseC, h1, decide_true, decide_false, Bool.not_true, Bool.not_false, Bool.true_and, Bool.false_and, Bool.and_true, Bool.and_false, Bool.true_or, Bool.or_true, Bool.false_or, Bool.or_false, Bool.and_self, Bool.or_self, bI_t, bI_f, if_true, if_false, ite_true, ite_false, Bool.false_eq_true, Bool.true_eq_false, eq_self, reduceIte, true_or, or_true, false_or, or_false, and_true, true_and, and_false, false_and, not_true_eq_false, not_false_eq_true, decide_eq_true_eq, decide_eq_false_iff_not])
  · replace h1 := bI_0.mp h1
    refine i_bipush (v := (-2)) B dX8_base_8 (by decide) ?_
    exact ret _ _ _ g rfl dX8_base_10 (by simp only [baseC, h1, decide_true, decide_false, Bool.not_true, Bool.not_false, Bool.true_and, Bool.false_and, Bool.and_true, Bool.and_false, Bool.true_or, Bool.or_true, Bool.false_or, Bool.or_false, Bool.and_self, Bool.or_self, bI_t, bI_f, if_true, if_false, ite_true, ite_false, Bool.false_eq_true, Bool.true_eq_false, eq_self, reduceIte, true_or, or_true, false_or, or_false, and_true, true_and, and_false, false_and, not_true_eq_false, not_false_eq_true, decide_eq_true_eq, decide_eq_false_iff_not])

set_option maxHeartbeats 4000000 in
set_option maxRecDepth 100000 in
theorem k_X8_storeN (l : Launch) (E : ED) (q : Nat → Nat) (g : Nat → Int32) (a : Nat → Nat → Int32) (s : Nat → Int32) (t : Nat → Nat → Int32) (what v : Int32) : WR l E yX8_store cX8_store 4 .int 1 22 0 0 [.ref (q 40), .int what, .int v] (cW E q g a s t .null []) (fun r u => (r, u) = storeF g what v) (fun u : Nat → Int32 => cW E q u a s t .null []) := by
  refine WR.mk (by decide) (Nat.le_of_ble_eq_true rfl) [(0, .ref (q 40)), (1, .int what), (2, .int v)] rfl (fun Z B ret => ?_)
  refine i_iload_n B 1 dX8_store_0 rfl ?_
  refine i_if_ne B 37 dX8_store_1 (by decide) (fun h1 => ?_) (fun h1 => ?_)
  · have h1d := decide_eq_false h1
    refine i_iload_n B 1 dX8_store_37 rfl ?_
    refine i_iconst (v := 1) B dX8_store_38 (by decide) ?_
    refine i_icmp_ne B 75 dX8_store_39 (by decide) (fun h2 => ?_) (fun h2 => ?_)
    · have h2d := decide_eq_false h2
      refine i_bipush (v := (-2)) B dX8_store_75 (by decide) ?_
      exact ret _ _ _ g rfl dX8_store_77 (by simp only [storeF, h1d, h2d, decide_true, decide_false, Bool.not_true, Bool.not_false, Bool.true_and, Bool.false_and, Bool.and_true, Bool.and_false, Bool.true_or, Bool.or_true, Bool.false_or, Bool.or_false, Bool.and_self, Bool.or_self, bI_t, bI_f, if_true, if_false, ite_true, ite_false, Bool.false_eq_true, Bool.true_eq_false, eq_self, reduceIte, true_or, or_true, false_or, or_false, and_true, true_and, and_false, false_and, not_true_eq_false, not_false_eq_true, decide_eq_true_eq, decide_eq_false_iff_not])
    · have h2d := decide_eq_true h2
      refine i_iload_n B 2 dX8_store_42 rfl ?_
      refine i_iconst (v := 0) B dX8_store_43 (by decide) ?_
      refine i_sipush (v := 500) B dX8_store_44 (by decide) ?_
      refine c_roS (rest := []) (As := [.int v, .int 0, .int 500]) B (k_X8_isWithin l E v 0 500) cal_yX8_isWithin is_yX8_isWithin mlX8_72 (by decide) (by decide) rfl (Nat.le_of_ble_eq_true rfl) Has.nil _ rfl dX8_store_47 (fun r hr => ?_)
      subst hr
      refine i_val (v' := .int (bI (wit v 0 500))) rfl ?_
      refine i_if_eq B 75 dX8_store_50 (by decide) (fun h3 => ?_) (fun h3 => ?_)
      · replace h3 := bI_0.mp h3
        refine i_bipush (v := (-2)) B dX8_store_75 (by decide) ?_
        exact ret _ _ _ g rfl dX8_store_77 (by simp only [storeF, h1d, h2d, h3, decide_true, decide_false, Bool.not_true, Bool.not_false, Bool.true_and, Bool.false_and, Bool.and_true, Bool.and_false, Bool.true_or, Bool.or_true, Bool.false_or, Bool.or_false, Bool.and_self, Bool.or_self, bI_t, bI_f, if_true, if_false, ite_true, ite_false, Bool.false_eq_true, Bool.true_eq_false, eq_self, reduceIte, true_or, or_true, false_or, or_false, and_true, true_and, and_false, false_and, not_true_eq_false, not_false_eq_true, decide_eq_true_eq, decide_eq_false_iff_not])
      · replace h3 := bI_n.mp h3
        refine i_aload_n B 0 dX8_store_53 rfl ?_
        refine i_get (v := .ref (q 45)) B flX8_42 0 rfl rfl dX8_store_54 ?_
        refine i_get (v := .int (g 19)) B flX8_143 16 rfl rfl dX8_store_57 ?_
        refine i_istore_n B [(3, .int (g 19)), (0, .ref (q 40)), (1, .int what), (2, .int v)] dX8_store_60 (by decide) rfl ?_
        refine i_aload_n B 1 dX8_store_61 rfl ?_
        refine i_get (v := .ref (q 45)) B flX8_42 0 rfl rfl dX8_store_62 ?_
        refine i_iload_n B 3 dX8_store_65 rfl ?_
        refine i_put B flX8_143 16 (cW E q (upd g 19 v) a s t .null []) rfl rfl rfl rfl (Nat.le_of_ble_eq_true rfl) rfl dX8_store_66 ?_
        refine i_aload_n B 1 dX8_store_69 rfl ?_
        refine c_wvV (cells := 0) (slots := 0) (rest := []) (As := []) B (k_X8_forgetRoutesN l E q (upd g 19 v) a s t) cal_yX8_forgetRoutes iv_yX8_forgetRoutes mlX8_125 rfl 0 rfl (by decide) (by decide) rfl (Nat.le_of_ble_eq_true rfl) ([]) ([]) rfl _ rfl dX8_store_70 (fun _ hr => ?_)
        refine i_world (ws' := (cW E q (upd g 19 v) a s t .null [])) rfl ?_
        refine i_iload_n B 0 dX8_store_73 rfl ?_
        exact ret _ _ _ (upd g 19 v) rfl dX8_store_74 (by simp only [storeF, h1d, h2d, h3, decide_true, decide_false, Bool.not_true, Bool.not_false, Bool.true_and, Bool.false_and, Bool.and_true, Bool.and_false, Bool.true_or, Bool.or_true, Bool.false_or, Bool.or_false, Bool.and_self, Bool.or_self, bI_t, bI_f, if_true, if_false, ite_true, ite_false, Bool.false_eq_true, Bool.true_eq_false, eq_self, reduceIte, true_or, or_true, false_or, or_false, and_true, true_and, and_false, false_and, not_true_eq_false, not_false_eq_true, decide_eq_true_eq, decide_eq_false_iff_not])
  · have h1d := decide_eq_true h1
    refine i_iload_n B 2 dX8_store_4 rfl ?_
    refine i_iconst (v := 1) B dX8_store_5 (by decide) ?_
    refine i_sipush (v := 30000) B dX8_store_6 (by decide) ?_
    refine c_roS (rest := []) (As := [.int v, .int 1, .int 30000]) B (k_X8_isWithin l E v 1 30000) cal_yX8_isWithin is_yX8_isWithin mlX8_72 (by decide) (by decide) rfl (Nat.le_of_ble_eq_true rfl) Has.nil _ rfl dX8_store_9 (fun r hr => ?_)
    subst hr
    refine i_val (v' := .int (bI (wit v 1 30000))) rfl ?_
    refine i_if_eq B 37 dX8_store_12 (by decide) (fun h4 => ?_) (fun h4 => ?_)
    · replace h4 := bI_0.mp h4
      refine i_iload_n B 1 dX8_store_37 rfl ?_
      refine i_iconst (v := 1) B dX8_store_38 (by decide) ?_
      refine i_icmp_ne B 75 dX8_store_39 (by decide) (fun h5 => ?_) (fun h5 => ?_)
      · have h5d := decide_eq_false h5
        refine i_bipush (v := (-2)) B dX8_store_75 (by decide) ?_
        exact ret _ _ _ g rfl dX8_store_77 (by have e2 : decide (what = 1) = false := (by rw [h1]; decide); simp only [storeF, h1d, h4, h5d, e2, decide_true, decide_false, Bool.not_true, Bool.not_false, Bool.true_and, Bool.false_and, Bool.and_true, Bool.and_false, Bool.true_or, Bool.or_true, Bool.false_or, Bool.or_false, Bool.and_self, Bool.or_self, bI_t, bI_f, if_true, if_false, ite_true, ite_false, Bool.false_eq_true, Bool.true_eq_false, eq_self, reduceIte, true_or, or_true, false_or, or_false, and_true, true_and, and_false, false_and, not_true_eq_false, not_false_eq_true, decide_eq_true_eq, decide_eq_false_iff_not])
      · have h5d := decide_eq_true h5
        refine i_iload_n B 2 dX8_store_42 rfl ?_
        refine i_iconst (v := 0) B dX8_store_43 (by decide) ?_
        refine i_sipush (v := 500) B dX8_store_44 (by decide) ?_
        refine c_roS (rest := []) (As := [.int v, .int 0, .int 500]) B (k_X8_isWithin l E v 0 500) cal_yX8_isWithin is_yX8_isWithin mlX8_72 (by decide) (by decide) rfl (Nat.le_of_ble_eq_true rfl) Has.nil _ rfl dX8_store_47 (fun r hr => ?_)
        subst hr
        refine i_val (v' := .int (bI (wit v 0 500))) rfl ?_
        refine i_if_eq B 75 dX8_store_50 (by decide) (fun h6 => ?_) (fun h6 => ?_)
        · replace h6 := bI_0.mp h6
          refine i_bipush (v := (-2)) B dX8_store_75 (by decide) ?_
          exact ret _ _ _ g rfl dX8_store_77 (by have e2 : decide (what = 1) = false := (by rw [h1]; decide); simp only [storeF, h1d, h4, h5d, h6, e2, decide_true, decide_false, Bool.not_true, Bool.not_false, Bool.true_and, Bool.false_and, Bool.and_true, Bool.and_false, Bool.true_or, Bool.or_true, Bool.false_or, Bool.or_false, Bool.and_self, Bool.or_self, bI_t, bI_f, if_true, if_false, ite_true, ite_false, Bool.false_eq_true, Bool.true_eq_false, eq_self, reduceIte, true_or, or_true, false_or, or_false, and_true, true_and, and_false, false_and, not_true_eq_false, not_false_eq_true, decide_eq_true_eq, decide_eq_false_iff_not])
        · replace h6 := bI_n.mp h6
          refine i_aload_n B 0 dX8_store_53 rfl ?_
          refine i_get (v := .ref (q 45)) B flX8_42 0 rfl rfl dX8_store_54 ?_
          refine i_get (v := .int (g 19)) B flX8_143 16 rfl rfl dX8_store_57 ?_
          refine i_istore_n B [(3, .int (g 19)), (0, .ref (q 40)), (1, .int what), (2, .int v)] dX8_store_60 (by decide) rfl ?_
          refine i_aload_n B 1 dX8_store_61 rfl ?_
          refine i_get (v := .ref (q 45)) B flX8_42 0 rfl rfl dX8_store_62 ?_
          refine i_iload_n B 3 dX8_store_65 rfl ?_
          refine i_put B flX8_143 16 (cW E q (upd g 19 v) a s t .null []) rfl rfl rfl rfl (Nat.le_of_ble_eq_true rfl) rfl dX8_store_66 ?_
          refine i_aload_n B 1 dX8_store_69 rfl ?_
          refine c_wvV (cells := 0) (slots := 0) (rest := []) (As := []) B (k_X8_forgetRoutesN l E q (upd g 19 v) a s t) cal_yX8_forgetRoutes iv_yX8_forgetRoutes mlX8_125 rfl 0 rfl (by decide) (by decide) rfl (Nat.le_of_ble_eq_true rfl) ([]) ([]) rfl _ rfl dX8_store_70 (fun _ hr => ?_)
          refine i_world (ws' := (cW E q (upd g 19 v) a s t .null [])) rfl ?_
          refine i_iload_n B 0 dX8_store_73 rfl ?_
          exact ret _ _ _ (upd g 19 v) rfl dX8_store_74 (by have e2 : decide (what = 1) = false := (by rw [h1]; decide); simp only [storeF, h1d, h4, h5d, h6, e2, decide_true, decide_false, Bool.not_true, Bool.not_false, Bool.true_and, Bool.false_and, Bool.and_true, Bool.and_false, Bool.true_or, Bool.or_true, Bool.false_or, Bool.or_false, Bool.and_self, Bool.or_self, bI_t, bI_f, if_true, if_false, ite_true, ite_false, Bool.false_eq_true, Bool.true_eq_false, eq_self, reduceIte, true_or, or_true, false_or, or_false, and_true, true_and, and_false, false_and, not_true_eq_false, not_false_eq_true, decide_eq_true_eq, decide_eq_false_iff_not])
    · replace h4 := bI_n.mp h4
      refine i_aload_n B 0 dX8_store_15 rfl ?_
      refine i_get (v := .ref (q 45)) B flX8_42 0 rfl rfl dX8_store_16 ?_
      refine i_get (v := .int (g 18)) B flX8_140 16 rfl rfl dX8_store_19 ?_
      refine i_istore_n B [(3, .int (g 18)), (0, .ref (q 40)), (1, .int what), (2, .int v)] dX8_store_22 (by decide) rfl ?_
      refine i_aload_n B 1 dX8_store_23 rfl ?_
      refine i_get (v := .ref (q 45)) B flX8_42 0 rfl rfl dX8_store_24 ?_
      refine i_iload_n B 3 dX8_store_27 rfl ?_
      refine i_put B flX8_140 16 (cW E q (upd g 18 v) a s t .null []) rfl rfl rfl rfl (Nat.le_of_ble_eq_true rfl) rfl dX8_store_28 ?_
      refine i_aload_n B 1 dX8_store_31 rfl ?_
      refine c_wvV (cells := 0) (slots := 0) (rest := []) (As := []) B (k_X8_forgetRoutesN l E q (upd g 18 v) a s t) cal_yX8_forgetRoutes iv_yX8_forgetRoutes mlX8_125 rfl 0 rfl (by decide) (by decide) rfl (Nat.le_of_ble_eq_true rfl) ([]) ([]) rfl _ rfl dX8_store_32 (fun _ hr => ?_)
      refine i_world (ws' := (cW E q (upd g 18 v) a s t .null [])) rfl ?_
      refine i_iload_n B 0 dX8_store_35 rfl ?_
      exact ret _ _ _ (upd g 18 v) rfl dX8_store_36 (by have e2 : decide (what = 1) = false := (by rw [h1]; decide); simp only [storeF, h1d, h4, e2, decide_true, decide_false, Bool.not_true, Bool.not_false, Bool.true_and, Bool.false_and, Bool.and_true, Bool.and_false, Bool.true_or, Bool.or_true, Bool.false_or, Bool.or_false, Bool.and_self, Bool.or_self, bI_t, bI_f, if_true, if_false, ite_true, ite_false, Bool.false_eq_true, Bool.true_eq_false, eq_self, reduceIte, true_or, or_true, false_or, or_false, and_true, true_and, and_false, false_and, not_true_eq_false, not_false_eq_true, decide_eq_true_eq, decide_eq_false_iff_not])

set_option maxHeartbeats 4000000 in
set_option maxRecDepth 100000 in
theorem k_X8_closeR (l : Launch) (E : ED) (q : Nat → Nat) (g : Nat → Int32) (a : Nat → Nat → Int32) (s : Nat → Int32) (t : Nat → Nat → Int32) (nc : Nat) (hc : g 11 = nI nc) (hnc : nc ≤ 4) (x1 y1 x2 y2 : Int32) : WR l E yX8_close cX8_close 5 .int 2 43 0 0 [.ref (q 40), .int x1, .int y1, .int x2, .int y2] (cW E q g a s t (.ref (q 49)) (sR E q s t)) (fun r u => (r, u.1) = closeF g a nc x1 y1 x2 y2 ∧ ((u.2 = (s 63, s 64) ∧ u.1 = (g, a)) ∨ u.2 = (0, 0))) (fun u : (GA) × Int32 × Int32 => cW E q u.1.1 u.1.2 (upd (upd s 63 u.2.1) 64 u.2.2) t (.ref (q 49)) (sR E q (upd (upd s 63 u.2.1) 64 u.2.2) t)) := by
  refine WR.mk (by decide) (Nat.le_of_ble_eq_true rfl) [(0, .ref (q 40)), (1, .int x1), (2, .int y1), (3, .int x2), (4, .int y2)] rfl (fun Z B ret => ?_)
  refine i_iload_n B 1 dX8_close_0 rfl ?_
  refine i_iload_n B 2 dX8_close_1 rfl ?_
  refine c_roS (rest := []) (As := [.int x1, .int y1]) B (k_X8_isPoint l E x1 y1) cal_yX8_isPoint is_yX8_isPoint mlX8_60 (by decide) (by decide) rfl (Nat.le_of_ble_eq_true rfl) Has.nil _ rfl dX8_close_2 (fun r hr => ?_)
  subst hr
  refine i_val (v' := .int (bI (pt x1 y1))) rfl ?_
  refine i_if_eq B 17 dX8_close_5 (by decide) (fun h1 => ?_) (fun h1 => ?_)
  · replace h1 := bI_0.mp h1
    refine i_bipush (v := (-2)) B dX8_close_17 (by decide) ?_
    exact ret _ _ _ ((g, a), (s 63), (s 64)) rfl dX8_close_19 (⟨by simp only [closeF, h1, decide_true, decide_false, Bool.not_true, Bool.not_false, Bool.true_and, Bool.false_and, Bool.and_true, Bool.and_false, Bool.true_or, Bool.or_true, Bool.false_or, Bool.or_false, Bool.and_self, Bool.or_self, bI_t, bI_f, if_true, if_false, ite_true, ite_false, Bool.false_eq_true, Bool.true_eq_false, eq_self, reduceIte, true_or, or_true, false_or, or_false, and_true, true_and, and_false, false_and, not_true_eq_false, not_false_eq_true, decide_eq_true_eq, decide_eq_false_iff_not], Or.inl ⟨rfl, rfl⟩⟩)
  · replace h1 := bI_n.mp h1
    refine i_iload_n B 3 dX8_close_8 rfl ?_
    refine i_iload B 4 dX8_close_9 rfl ?_
    refine c_roS (rest := []) (As := [.int x2, .int y2]) B (k_X8_isPoint l E x2 y2) cal_yX8_isPoint is_yX8_isPoint mlX8_60 (by decide) (by decide) rfl (Nat.le_of_ble_eq_true rfl) Has.nil _ rfl dX8_close_11 (fun r hr => ?_)
    subst hr
    refine i_val (v' := .int (bI (pt x2 y2))) rfl ?_
    refine i_if_ne B 20 dX8_close_14 (by decide) (fun h2 => ?_) (fun h2 => ?_)
    · replace h2 := bI_n.mp h2
      refine i_iload_n B 3 dX8_close_20 rfl ?_
      refine i_iload_n B 1 dX8_close_21 rfl ?_
      refine i_icmp_le B 31 dX8_close_22 (by decide) (fun h3 => ?_) (fun h3 => ?_)
      · replace h3 := q_n32.mpr h3
        refine i_bipush (v := (-3)) B dX8_close_31 (by decide) ?_
        exact ret _ _ _ ((g, a), (s 63), (s 64)) rfl dX8_close_33 (⟨by simp only [closeF, h1, h2, h3, decide_true, decide_false, Bool.not_true, Bool.not_false, Bool.true_and, Bool.false_and, Bool.and_true, Bool.and_false, Bool.true_or, Bool.or_true, Bool.false_or, Bool.or_false, Bool.and_self, Bool.or_self, bI_t, bI_f, if_true, if_false, ite_true, ite_false, Bool.false_eq_true, Bool.true_eq_false, eq_self, reduceIte, true_or, or_true, false_or, or_false, and_true, true_and, and_false, false_and, not_true_eq_false, not_false_eq_true, decide_eq_true_eq, decide_eq_false_iff_not], Or.inl ⟨rfl, rfl⟩⟩)
      · replace h3 := q_m32.mp h3
        refine i_iload B 4 dX8_close_25 rfl ?_
        refine i_iload_n B 2 dX8_close_27 rfl ?_
        refine i_icmp_gt B 34 dX8_close_28 (by decide) (fun h4 => ?_) (fun h4 => ?_)
        · refine i_aload_n B 0 dX8_close_34 rfl ?_
          refine i_get (v := .ref (q 44)) B flX8_35 0 rfl rfl dX8_close_35 ?_
          refine i_get (v := .int (g 11)) B flX8_121 11 rfl rfl dX8_close_38 ?_
          refine i_iconst (v := 4) B dX8_close_41 (by decide) ?_
          refine i_icmp_lt B 48 dX8_close_42 (by decide) (fun h5 => ?_) (fun h5 => ?_)
          · rw [hc, show (4 : Int32) = nI 4 from rfl, nI_ltI (by omega) (by omega)] at h5
            refine i_aload_n B 0 dX8_close_48 rfl ?_
            refine i_get (v := .ref (q 44)) B flX8_35 0 rfl rfl dX8_close_49 ?_
            refine i_iload_n B 1 dX8_close_52 rfl ?_
            refine i_iload_n B 2 dX8_close_53 rfl ?_
            refine i_iload_n B 3 dX8_close_54 rfl ?_
            refine i_iload B 4 dX8_close_55 rfl ?_
            refine c_wvV (cells := 0) (slots := 0) (rest := []) (As := [.int x1, .int y1, .int x2, .int y2]) B (k_X0_add l E q g a nc hc (by omega) x1 y1 x2 y2) cal_yX0_add iv_yX0_add mlX8_122 rfl 11 rfl (by decide) (by decide) rfl (Nat.le_of_ble_eq_true rfl) ([((q 40), .inr (8, [.ref (q 41), .ref (q 42), .ref (q 43), .ref (q 44), .ref (q 45), .ref (q 46), .ref (q 48), .ref (q 49)])), ((q 41), .inr (7, [.ref (q 2), .ref (q 3), .ref (q 4), .ref (q 5), .int (g 1), .int (g 6), .int (g 7)])), ((q 2), .inl (E.2.1, 12, .inl (a 2))), ((q 3), .inl (E.2.1, 12, .inl (a 3))), ((q 4), .inl (E.2.1, 12, .inl (a 4))), ((q 5), .inl (E.2.1, 12, .inl (a 5))), ((q 42), .inr (5, [.ref (q 9), .ref (q 10), .int (g 8)])), ((q 9), .inl (E.2.1, 10, .inl (a 9))), ((q 10), .inl (E.2.1, 10, .inl (a 10))), ((q 43), .inr (3, [.ref (q 50), .int (s 60)])), ((q 50), .inl (E.2.1, 12, .inl (t 50)))]) ([((q 45), .inr (1, [.int (g 90), .int (g 91), .int (g 18), .int (g 19)])), ((q 46), .inr (2, [.ref (q 47), .ref (q 23)])), ((q 47), .inr (5, [.ref (q 21), .ref (q 22), .int (g 20)])), ((q 21), .inl (E.2.1, 20, .inl (a 21))), ((q 22), .inl (E.2.1, 20, .inl (a 22))), ((q 23), .inl (E.2.1, 20, .inl (a 23))), ((q 48), .inr (4, [.ref (q 25), .ref (q 26), .ref (q 27), .ref (q 28), .ref (q 29), .int (g 24), .ref (q 51), .ref (q 52), .ref (q 53), .int (s 61), .int (s 62)])), ((q 25), .inl (E.2.1, 40, .inl (a 25))), ((q 26), .inl (E.2.1, 40, .inl (a 26))), ((q 27), .inl (E.2.1, 40, .inl (a 27))), ((q 28), .inl (E.2.1, 40, .inl (a 28))), ((q 29), .inl (E.2.2, 40, .inl (a 29))), ((q 51), .inl (E.2.1, 40, .inl (t 51))), ((q 52), .inl (E.2.1, 40, .inl (t 52))), ((q 53), .inl (E.2.1, 41, .inl (t 53))), ((q 49), .inr (6, [.ref (q 42), .ref (q 44), .ref (q 45), .ref (q 54), .ref (q 55), .ref (q 56), .ref (q 57), .int (s 63), .int (s 64)])), ((q 54), .inl (E.2.1, 121, .inl (t 54))), ((q 55), .inl (E.2.1, 10240, .inl (t 55))), ((q 56), .inl (E.2.1, 1024, .inl (t 56))), ((q 57), .inl (E.2.1, 1024, .inl (t 57)))]) rfl _ rfl dX8_close_57 (fun _ hr => ?_)
            refine i_world (ws' := (cW E q (upd g 11 (nI (nc + 1))) (va_up (va_up (va_up (va_up a 12 (upd (a 12) nc x1)) 13 (upd (a 13) nc y1)) 14 (upd (a 14) nc x2)) 15 (upd (a 15) nc y2)) s t (.ref (q 49)) (sR E q s t))) rfl ?_
            refine i_aload_n B 0 dX8_close_60 rfl ?_
            refine c_wvV (cells := 0) (slots := 0) (rest := []) (As := []) B (k_X8_forgetRoutesR l E q (upd g 11 (nI (nc + 1))) (va_up (va_up (va_up (va_up a 12 (upd (a 12) nc x1)) 13 (upd (a 13) nc y1)) 14 (upd (a 14) nc x2)) 15 (upd (a 15) nc y2)) s t) cal_yX8_forgetRoutes iv_yX8_forgetRoutes mlX8_125 rfl 0 rfl (by decide) (by decide) rfl (Nat.le_of_ble_eq_true rfl) ([]) ([]) rfl _ rfl dX8_close_61 (fun _ hr => ?_)
            refine i_world (ws' := (cW E q (upd g 11 (nI (nc + 1))) (va_up (va_up (va_up (va_up a 12 (upd (a 12) nc x1)) 13 (upd (a 13) nc y1)) 14 (upd (a 14) nc x2)) 15 (upd (a 15) nc y2)) (upd (upd s 63 0) 64 0) t (.ref (q 49)) (sR E q (upd (upd s 63 0) 64 0) t))) rfl ?_
            refine i_aload_n B 0 dX8_close_64 rfl ?_
            refine i_get (v := .ref (q 44)) B flX8_35 0 rfl rfl dX8_close_65 ?_
            refine i_get (v := .int (nI (nc + 1))) B flX8_121 11 rfl rfl dX8_close_68 ?_
            exact ret _ _ _ (((upd g 11 (nI (nc + 1))), (va_up (va_up (va_up (va_up a 12 (upd (a 12) nc x1)) 13 (upd (a 13) nc y1)) 14 (upd (a 14) nc x2)) 15 (upd (a 15) nc y2))), 0, 0) rfl dX8_close_71 (⟨by have e9 : decide (nc = 4) = false := decide_eq_false (by omega); simp only [closeF, h1, h2, h3, h4, h5, e9, decide_true, decide_false, Bool.not_true, Bool.not_false, Bool.true_and, Bool.false_and, Bool.and_true, Bool.and_false, Bool.true_or, Bool.or_true, Bool.false_or, Bool.or_false, Bool.and_self, Bool.or_self, bI_t, bI_f, if_true, if_false, ite_true, ite_false, Bool.false_eq_true, Bool.true_eq_false, eq_self, reduceIte, true_or, or_true, false_or, or_false, and_true, true_and, and_false, false_and, not_true_eq_false, not_false_eq_true, decide_eq_true_eq, decide_eq_false_iff_not], Or.inr rfl⟩)
          · rw [hc, show (4 : Int32) = nI 4 from rfl, nI_ltI (by omega) (by omega)] at h5
            refine i_bipush (v := (-4)) B dX8_close_45 (by decide) ?_
            exact ret _ _ _ ((g, a), (s 63), (s 64)) rfl dX8_close_47 (⟨by have e9 : decide (nc = 4) = true := decide_eq_true (by omega); simp only [closeF, h1, h2, h3, h4, h5, e9, decide_true, decide_false, Bool.not_true, Bool.not_false, Bool.true_and, Bool.false_and, Bool.and_true, Bool.and_false, Bool.true_or, Bool.or_true, Bool.false_or, Bool.or_false, Bool.and_self, Bool.or_self, bI_t, bI_f, if_true, if_false, ite_true, ite_false, Bool.false_eq_true, Bool.true_eq_false, eq_self, reduceIte, true_or, or_true, false_or, or_false, and_true, true_and, and_false, false_and, not_true_eq_false, not_false_eq_true, decide_eq_true_eq, decide_eq_false_iff_not], Or.inl ⟨rfl, rfl⟩⟩)
        · refine i_bipush (v := (-3)) B dX8_close_31 (by decide) ?_
          exact ret _ _ _ ((g, a), (s 63), (s 64)) rfl dX8_close_33 (⟨by simp only [closeF, h1, h2, h3, h4, decide_true, decide_false, Bool.not_true, Bool.not_false, Bool.true_and, Bool.false_and, Bool.and_true, Bool.and_false, Bool.true_or, Bool.or_true, Bool.false_or, Bool.or_false, Bool.and_self, Bool.or_self, bI_t, bI_f, if_true, if_false, ite_true, ite_false, Bool.false_eq_true, Bool.true_eq_false, eq_self, reduceIte, true_or, or_true, false_or, or_false, and_true, true_and, and_false, false_and, not_true_eq_false, not_false_eq_true, decide_eq_true_eq, decide_eq_false_iff_not], Or.inl ⟨rfl, rfl⟩⟩)
    · replace h2 := bI_0.mp h2
      refine i_bipush (v := (-2)) B dX8_close_17 (by decide) ?_
      exact ret _ _ _ ((g, a), (s 63), (s 64)) rfl dX8_close_19 (⟨by simp only [closeF, h1, h2, decide_true, decide_false, Bool.not_true, Bool.not_false, Bool.true_and, Bool.false_and, Bool.and_true, Bool.and_false, Bool.true_or, Bool.or_true, Bool.false_or, Bool.or_false, Bool.and_self, Bool.or_self, bI_t, bI_f, if_true, if_false, ite_true, ite_false, Bool.false_eq_true, Bool.true_eq_false, eq_self, reduceIte, true_or, or_true, false_or, or_false, and_true, true_and, and_false, false_and, not_true_eq_false, not_false_eq_true, decide_eq_true_eq, decide_eq_false_iff_not], Or.inl ⟨rfl, rfl⟩⟩)

set_option maxHeartbeats 4000000 in
set_option maxRecDepth 100000 in
theorem k_X8_openR (l : Launch) (E : ED) (q : Nat → Nat) (g : Nat → Int32) (a : Nat → Nat → Int32) (s : Nat → Int32) (t : Nat → Nat → Int32) (nc : Nat) (hc : g 11 = nI nc) (hnc : nc ≤ 4) : WR l E yX8_open cX8_open 1 .int 2 40 0 0 [.ref (q 40)] (cW E q g a s t (.ref (q 49)) (sR E q s t)) (fun r u => (r, u.1) = openF g nc ∧ ((u.2 = (s 63, s 64) ∧ u.1 = g) ∨ u.2 = (0, 0))) (fun u : (Nat → Int32) × Int32 × Int32 => cW E q u.1 a (upd (upd s 63 u.2.1) 64 u.2.2) t (.ref (q 49)) (sR E q (upd (upd s 63 u.2.1) 64 u.2.2) t)) := by
  refine WR.mk (by decide) (Nat.le_of_ble_eq_true rfl) [(0, .ref (q 40))] rfl (fun Z B ret => ?_)
  refine i_aload_n B 0 dX8_open_0 rfl ?_
  refine i_get (v := .ref (q 44)) B flX8_35 0 rfl rfl dX8_open_1 ?_
  refine i_get (v := .int (g 11)) B flX8_121 11 rfl rfl dX8_open_4 ?_
  refine i_if_ne B 13 dX8_open_7 (by decide) (fun h1 => ?_) (fun h1 => ?_)
  · rw [hc, show (0 : Int32) = nI 0 from rfl, nI_eq (by omega) (by omega)] at h1
    have h1d := decide_eq_false h1
    refine i_aload_n B 0 dX8_open_13 rfl ?_
    refine i_get (v := .ref (q 44)) B flX8_35 0 rfl rfl dX8_open_14 ?_
    refine i_dup B dX8_open_17 rfl ?_
    refine i_get (v := .int (g 11)) B flX8_121 11 rfl rfl dX8_open_18 ?_
    refine i_iconst (v := 1) B dX8_open_21 (by decide) ?_
    refine i_isub B dX8_open_22 ?_
    refine i_val (v' := .int (nI (nc - 1))) (congrArg Value.int (by rw [hc]; exact pk_sub (a := nc) (b := 1) (by omega))) ?_
    refine i_put B flX8_121 11 (cW E q (upd g 11 (nI (nc - 1))) a s t (.ref (q 49)) (sR E q s t)) rfl rfl rfl rfl (Nat.le_of_ble_eq_true rfl) rfl dX8_open_23 ?_
    refine i_aload_n B 0 dX8_open_26 rfl ?_
    refine c_wvV (cells := 0) (slots := 0) (rest := []) (As := []) B (k_X8_forgetRoutesR l E q (upd g 11 (nI (nc - 1))) a s t) cal_yX8_forgetRoutes iv_yX8_forgetRoutes mlX8_125 rfl 0 rfl (by decide) (by decide) rfl (Nat.le_of_ble_eq_true rfl) ([]) ([]) rfl _ rfl dX8_open_27 (fun _ hr => ?_)
    refine i_world (ws' := (cW E q (upd g 11 (nI (nc - 1))) a (upd (upd s 63 0) 64 0) t (.ref (q 49)) (sR E q (upd (upd s 63 0) 64 0) t))) rfl ?_
    refine i_aload_n B 0 dX8_open_30 rfl ?_
    refine i_get (v := .ref (q 44)) B flX8_35 0 rfl rfl dX8_open_31 ?_
    refine i_get (v := .int (nI (nc - 1))) B flX8_121 11 rfl rfl dX8_open_34 ?_
    exact ret _ _ _ ((upd g 11 (nI (nc - 1))), 0, 0) rfl dX8_open_37 (⟨by simp only [openF, h1d, decide_true, decide_false, Bool.not_true, Bool.not_false, Bool.true_and, Bool.false_and, Bool.and_true, Bool.and_false, Bool.true_or, Bool.or_true, Bool.false_or, Bool.or_false, Bool.and_self, Bool.or_self, bI_t, bI_f, if_true, if_false, ite_true, ite_false, Bool.false_eq_true, Bool.true_eq_false, eq_self, reduceIte, true_or, or_true, false_or, or_false, and_true, true_and, and_false, false_and, not_true_eq_false, not_false_eq_true, decide_eq_true_eq, decide_eq_false_iff_not], Or.inr rfl⟩)
  · rw [hc, show (0 : Int32) = nI 0 from rfl, nI_eq (by omega) (by omega)] at h1
    have h1d := decide_eq_true h1
    refine i_bipush (v := (-3)) B dX8_open_10 (by decide) ?_
    exact ret _ _ _ (g, (s 63), (s 64)) rfl dX8_open_12 (⟨by simp only [openF, h1d, decide_true, decide_false, Bool.not_true, Bool.not_false, Bool.true_and, Bool.false_and, Bool.and_true, Bool.and_false, Bool.true_or, Bool.or_true, Bool.false_or, Bool.or_false, Bool.and_self, Bool.or_self, bI_t, bI_f, if_true, if_false, ite_true, ite_false, Bool.false_eq_true, Bool.true_eq_false, eq_self, reduceIte, true_or, or_true, false_or, or_false, and_true, true_and, and_false, false_and, not_true_eq_false, not_false_eq_true, decide_eq_true_eq, decide_eq_false_iff_not], Or.inl ⟨rfl, rfl⟩⟩)

set_option maxHeartbeats 4000000 in
set_option maxRecDepth 100000 in
theorem k_X8_windR (l : Launch) (E : ED) (q : Nat → Nat) (g : Nat → Int32) (a : Nat → Nat → Int32) (s : Nat → Int32) (t : Nat → Nat → Int32) (x y : Int32) : WR l E yX8_wind cX8_wind 4 .int 2 40 0 0 [.ref (q 40), .int x, .int y] (cW E q g a s t (.ref (q 49)) (sR E q s t)) (fun r u => (r, u.1) = windF g x y ∧ ((u.2 = (s 63, s 64) ∧ u.1 = g) ∨ u.2 = (0, 0))) (fun u : (Nat → Int32) × Int32 × Int32 => cW E q u.1 a (upd (upd s 63 u.2.1) 64 u.2.2) t (.ref (q 49)) (sR E q (upd (upd s 63 u.2.1) 64 u.2.2) t)) := by
  refine WR.mk (by decide) (Nat.le_of_ble_eq_true rfl) [(0, .ref (q 40)), (1, .int x), (2, .int y)] rfl (fun Z B ret => ?_)
  refine i_iload_n B 1 dX8_wind_0 rfl ?_
  refine i_bipush (v := (-9)) B dX8_wind_1 (by decide) ?_
  refine i_bipush (v := 9) B dX8_wind_3 (by decide) ?_
  refine c_roS (rest := []) (As := [.int x, .int (-9), .int 9]) B (k_X8_isWithin l E x (-9) 9) cal_yX8_isWithin is_yX8_isWithin mlX8_72 (by decide) (by decide) rfl (Nat.le_of_ble_eq_true rfl) Has.nil _ rfl dX8_wind_5 (fun r hr => ?_)
  subst hr
  refine i_val (v' := .int (bI (wit x (-9) 9))) rfl ?_
  refine i_if_eq B 22 dX8_wind_8 (by decide) (fun h1 => ?_) (fun h1 => ?_)
  · replace h1 := bI_0.mp h1
    refine i_bipush (v := (-2)) B dX8_wind_22 (by decide) ?_
    exact ret _ _ _ (g, (s 63), (s 64)) rfl dX8_wind_24 (⟨by simp only [windF, h1, decide_true, decide_false, Bool.not_true, Bool.not_false, Bool.true_and, Bool.false_and, Bool.and_true, Bool.and_false, Bool.true_or, Bool.or_true, Bool.false_or, Bool.or_false, Bool.and_self, Bool.or_self, bI_t, bI_f, if_true, if_false, ite_true, ite_false, Bool.false_eq_true, Bool.true_eq_false, eq_self, reduceIte, true_or, or_true, false_or, or_false, and_true, true_and, and_false, false_and, not_true_eq_false, not_false_eq_true, decide_eq_true_eq, decide_eq_false_iff_not], Or.inl ⟨rfl, rfl⟩⟩)
  · replace h1 := bI_n.mp h1
    refine i_iload_n B 2 dX8_wind_11 rfl ?_
    refine i_bipush (v := (-9)) B dX8_wind_12 (by decide) ?_
    refine i_bipush (v := 9) B dX8_wind_14 (by decide) ?_
    refine c_roS (rest := []) (As := [.int y, .int (-9), .int 9]) B (k_X8_isWithin l E y (-9) 9) cal_yX8_isWithin is_yX8_isWithin mlX8_72 (by decide) (by decide) rfl (Nat.le_of_ble_eq_true rfl) Has.nil _ rfl dX8_wind_16 (fun r hr => ?_)
    subst hr
    refine i_val (v' := .int (bI (wit y (-9) 9))) rfl ?_
    refine i_if_ne B 25 dX8_wind_19 (by decide) (fun h2 => ?_) (fun h2 => ?_)
    · replace h2 := bI_n.mp h2
      refine i_bipush (v := 100) B dX8_wind_25 (by decide) ?_
      refine i_aload_n B 0 dX8_wind_27 rfl ?_
      refine i_get (v := .ref (q 44)) B flX8_35 0 rfl rfl dX8_wind_28 ?_
      refine i_get (v := .int (g 16)) B flX8_128 11 rfl rfl dX8_wind_31 ?_
      refine i_imul B dX8_wind_34 ?_
      refine i_aload_n B 0 dX8_wind_35 rfl ?_
      refine i_get (v := .ref (q 44)) B flX8_35 0 rfl rfl dX8_wind_36 ?_
      refine i_get (v := .int (g 17)) B flX8_131 11 rfl rfl dX8_wind_39 ?_
      refine i_iadd B dX8_wind_42 ?_
      refine i_sipush (v := 909) B dX8_wind_43 (by decide) ?_
      refine i_iadd B dX8_wind_46 ?_
      refine i_istore_n B [(3, .int (((100 * (g 16)) + (g 17)) + 909)), (0, .ref (q 40)), (1, .int x), (2, .int y)] dX8_wind_47 (by decide) rfl ?_
      refine i_aload_n B 1 dX8_wind_48 rfl ?_
      refine i_get (v := .ref (q 44)) B flX8_35 0 rfl rfl dX8_wind_49 ?_
      refine i_iload_n B 2 dX8_wind_52 rfl ?_
      refine i_put B flX8_128 11 (cW E q (upd g 16 x) a s t (.ref (q 49)) (sR E q s t)) rfl rfl rfl rfl (Nat.le_of_ble_eq_true rfl) rfl dX8_wind_53 ?_
      refine i_aload_n B 1 dX8_wind_56 rfl ?_
      refine i_get (v := .ref (q 44)) B flX8_35 0 rfl rfl dX8_wind_57 ?_
      refine i_iload_n B 3 dX8_wind_60 rfl ?_
      refine i_put B flX8_131 11 (cW E q (upd (upd g 16 x) 17 y) a s t (.ref (q 49)) (sR E q s t)) rfl rfl rfl rfl (Nat.le_of_ble_eq_true rfl) rfl dX8_wind_61 ?_
      refine i_aload_n B 1 dX8_wind_64 rfl ?_
      refine c_wvV (cells := 0) (slots := 0) (rest := []) (As := []) B (k_X8_forgetRoutesR l E q (upd (upd g 16 x) 17 y) a s t) cal_yX8_forgetRoutes iv_yX8_forgetRoutes mlX8_125 rfl 0 rfl (by decide) (by decide) rfl (Nat.le_of_ble_eq_true rfl) ([]) ([]) rfl _ rfl dX8_wind_65 (fun _ hr => ?_)
      refine i_world (ws' := (cW E q (upd (upd g 16 x) 17 y) a (upd (upd s 63 0) 64 0) t (.ref (q 49)) (sR E q (upd (upd s 63 0) 64 0) t))) rfl ?_
      refine i_iload_n B 0 dX8_wind_68 rfl ?_
      exact ret _ _ _ ((upd (upd g 16 x) 17 y), 0, 0) rfl dX8_wind_69 (⟨by simp only [windF, h1, h2, decide_true, decide_false, Bool.not_true, Bool.not_false, Bool.true_and, Bool.false_and, Bool.and_true, Bool.and_false, Bool.true_or, Bool.or_true, Bool.false_or, Bool.or_false, Bool.and_self, Bool.or_self, bI_t, bI_f, if_true, if_false, ite_true, ite_false, Bool.false_eq_true, Bool.true_eq_false, eq_self, reduceIte, true_or, or_true, false_or, or_false, and_true, true_and, and_false, false_and, not_true_eq_false, not_false_eq_true, decide_eq_true_eq, decide_eq_false_iff_not], Or.inr rfl⟩)
    · replace h2 := bI_0.mp h2
      refine i_bipush (v := (-2)) B dX8_wind_22 (by decide) ?_
      exact ret _ _ _ (g, (s 63), (s 64)) rfl dX8_wind_24 (⟨by simp only [windF, h1, h2, decide_true, decide_false, Bool.not_true, Bool.not_false, Bool.true_and, Bool.false_and, Bool.and_true, Bool.and_false, Bool.true_or, Bool.or_true, Bool.false_or, Bool.or_false, Bool.and_self, Bool.or_self, bI_t, bI_f, if_true, if_false, ite_true, ite_false, Bool.false_eq_true, Bool.true_eq_false, eq_self, reduceIte, true_or, or_true, false_or, or_false, and_true, true_and, and_false, false_and, not_true_eq_false, not_false_eq_true, decide_eq_true_eq, decide_eq_false_iff_not], Or.inl ⟨rfl, rfl⟩⟩)

set_option maxHeartbeats 4000000 in
set_option maxRecDepth 100000 in
theorem k_X8_baseR (l : Launch) (E : ED) (q : Nat → Nat) (g : Nat → Int32) (a : Nat → Nat → Int32) (s : Nat → Int32) (t : Nat → Nat → Int32) (x y : Int32) : WR l E yX8_base cX8_base 4 .int 2 43 0 0 [.ref (q 40), .int x, .int y] (cW E q g a s t (.ref (q 49)) (sR E q s t)) (fun r u => (r, u.1) = baseC g x y ∧ ((u.2 = (s 63, s 64) ∧ u.1 = g) ∨ u.2 = (0, 0))) (fun u : (Nat → Int32) × Int32 × Int32 => cW E q u.1 a (upd (upd s 63 u.2.1) 64 u.2.2) t (.ref (q 49)) (sR E q (upd (upd s 63 u.2.1) 64 u.2.2) t)) := by
  refine WR.mk (by decide) (Nat.le_of_ble_eq_true rfl) [(0, .ref (q 40)), (1, .int x), (2, .int y)] rfl (fun Z B ret => ?_)
  refine i_iload_n B 1 dX8_base_0 rfl ?_
  refine i_iload_n B 2 dX8_base_1 rfl ?_
  refine c_roS (rest := []) (As := [.int x, .int y]) B (k_X8_isPoint l E x y) cal_yX8_isPoint is_yX8_isPoint mlX8_60 (by decide) (by decide) rfl (Nat.le_of_ble_eq_true rfl) Has.nil _ rfl dX8_base_2 (fun r hr => ?_)
  subst hr
  refine i_val (v' := .int (bI (pt x y))) rfl ?_
  refine i_if_ne B 11 dX8_base_5 (by decide) (fun h1 => ?_) (fun h1 => ?_)
  · replace h1 := bI_n.mp h1
    refine i_bipush (v := 100) B dX8_base_11 (by decide) ?_
    refine i_aload_n B 0 dX8_base_13 rfl ?_
    refine i_get (v := .ref (q 45)) B flX8_42 0 rfl rfl dX8_base_14 ?_
    refine i_get (v := .int (g 90)) B flX8_134 16 rfl rfl dX8_base_17 ?_
    refine i_imul B dX8_base_20 ?_
    refine i_aload_n B 0 dX8_base_21 rfl ?_
    refine i_get (v := .ref (q 45)) B flX8_42 0 rfl rfl dX8_base_22 ?_
    refine i_get (v := .int (g 91)) B flX8_137 16 rfl rfl dX8_base_25 ?_
    refine i_iadd B dX8_base_28 ?_
    refine i_istore_n B [(3, .int ((100 * (g 90)) + (g 91))), (0, .ref (q 40)), (1, .int x), (2, .int y)] dX8_base_29 (by decide) rfl ?_
    refine i_aload_n B 1 dX8_base_30 rfl ?_
    refine i_get (v := .ref (q 45)) B flX8_42 0 rfl rfl dX8_base_31 ?_
    refine i_iload_n B 2 dX8_base_34 rfl ?_
    refine i_put B flX8_134 16 (cW E q (upd g 90 x) a s t (.ref (q 49)) (sR E q s t)) rfl rfl rfl rfl (Nat.le_of_ble_eq_true rfl) rfl dX8_base_35 ?_
    refine i_aload_n B 1 dX8_base_38 rfl ?_
    refine i_get (v := .ref (q 45)) B flX8_42 0 rfl rfl dX8_base_39 ?_
    refine i_iload_n B 3 dX8_base_42 rfl ?_
    refine i_put B flX8_137 16 (cW E q (upd (upd g 90 x) 91 y) a s t (.ref (q 49)) (sR E q s t)) rfl rfl rfl rfl (Nat.le_of_ble_eq_true rfl) rfl dX8_base_43 ?_
    refine i_aload_n B 1 dX8_base_46 rfl ?_
    refine c_wvV (cells := 0) (slots := 0) (rest := []) (As := []) B (k_X8_forgetRoutesR l E q (upd (upd g 90 x) 91 y) a s t) cal_yX8_forgetRoutes iv_yX8_forgetRoutes mlX8_125 rfl 0 rfl (by decide) (by decide) rfl (Nat.le_of_ble_eq_true rfl) ([]) ([]) rfl _ rfl dX8_base_47 (fun _ hr => ?_)
    refine i_world (ws' := (cW E q (upd (upd g 90 x) 91 y) a (upd (upd s 63 0) 64 0) t (.ref (q 49)) (sR E q (upd (upd s 63 0) 64 0) t))) rfl ?_
    refine i_iload_n B 0 dX8_base_50 rfl ?_
    exact ret _ _ _ ((upd (upd g 90 x) 91 y), 0, 0) rfl dX8_base_51 (⟨by simp only [baseC, h1, decide_true, decide_false, Bool.not_true, Bool.not_false, Bool.true_and, Bool.false_and, Bool.and_true, Bool.and_false, Bool.true_or, Bool.or_true, Bool.false_or, Bool.or_false, Bool.and_self, Bool.or_self, bI_t, bI_f, if_true, if_false, ite_true, ite_false, Bool.false_eq_true, Bool.true_eq_false, eq_self, reduceIte, true_or, or_true, false_or, or_false, and_true, true_and, and_false, false_and, not_true_eq_false, not_false_eq_true, decide_eq_true_eq, decide_eq_false_iff_not], Or.inr rfl⟩)
  · replace h1 := bI_0.mp h1
    refine i_bipush (v := (-2)) B dX8_base_8 (by decide) ?_
    exact ret _ _ _ (g, (s 63), (s 64)) rfl dX8_base_10 (⟨by simp only [baseC, h1, decide_true, decide_false, Bool.not_true, Bool.not_false, Bool.true_and, Bool.false_and, Bool.and_true, Bool.and_false, Bool.true_or, Bool.or_true, Bool.false_or, Bool.or_false, Bool.and_self, Bool.or_self, bI_t, bI_f, if_true, if_false, ite_true, ite_false, Bool.false_eq_true, Bool.true_eq_false, eq_self, reduceIte, true_or, or_true, false_or, or_false, and_true, true_and, and_false, false_and, not_true_eq_false, not_false_eq_true, decide_eq_true_eq, decide_eq_false_iff_not], Or.inl ⟨rfl, rfl⟩⟩)

set_option maxHeartbeats 4000000 in
set_option maxRecDepth 100000 in
theorem k_X8_storeR (l : Launch) (E : ED) (q : Nat → Nat) (g : Nat → Int32) (a : Nat → Nat → Int32) (s : Nat → Int32) (t : Nat → Nat → Int32) (what v : Int32) : WR l E yX8_store cX8_store 4 .int 2 40 0 0 [.ref (q 40), .int what, .int v] (cW E q g a s t (.ref (q 49)) (sR E q s t)) (fun r u => (r, u.1) = storeF g what v ∧ ((u.2 = (s 63, s 64) ∧ u.1 = g) ∨ u.2 = (0, 0))) (fun u : (Nat → Int32) × Int32 × Int32 => cW E q u.1 a (upd (upd s 63 u.2.1) 64 u.2.2) t (.ref (q 49)) (sR E q (upd (upd s 63 u.2.1) 64 u.2.2) t)) := by
  refine WR.mk (by decide) (Nat.le_of_ble_eq_true rfl) [(0, .ref (q 40)), (1, .int what), (2, .int v)] rfl (fun Z B ret => ?_)
  refine i_iload_n B 1 dX8_store_0 rfl ?_
  refine i_if_ne B 37 dX8_store_1 (by decide) (fun h1 => ?_) (fun h1 => ?_)
  · have h1d := decide_eq_false h1
    refine i_iload_n B 1 dX8_store_37 rfl ?_
    refine i_iconst (v := 1) B dX8_store_38 (by decide) ?_
    refine i_icmp_ne B 75 dX8_store_39 (by decide) (fun h2 => ?_) (fun h2 => ?_)
    · have h2d := decide_eq_false h2
      refine i_bipush (v := (-2)) B dX8_store_75 (by decide) ?_
      exact ret _ _ _ (g, (s 63), (s 64)) rfl dX8_store_77 (⟨by simp only [storeF, h1d, h2d, decide_true, decide_false, Bool.not_true, Bool.not_false, Bool.true_and, Bool.false_and, Bool.and_true, Bool.and_false, Bool.true_or, Bool.or_true, Bool.false_or, Bool.or_false, Bool.and_self, Bool.or_self, bI_t, bI_f, if_true, if_false, ite_true, ite_false, Bool.false_eq_true, Bool.true_eq_false, eq_self, reduceIte, true_or, or_true, false_or, or_false, and_true, true_and, and_false, false_and, not_true_eq_false, not_false_eq_true, decide_eq_true_eq, decide_eq_false_iff_not], Or.inl ⟨rfl, rfl⟩⟩)
    · have h2d := decide_eq_true h2
      refine i_iload_n B 2 dX8_store_42 rfl ?_
      refine i_iconst (v := 0) B dX8_store_43 (by decide) ?_
      refine i_sipush (v := 500) B dX8_store_44 (by decide) ?_
      refine c_roS (rest := []) (As := [.int v, .int 0, .int 500]) B (k_X8_isWithin l E v 0 500) cal_yX8_isWithin is_yX8_isWithin mlX8_72 (by decide) (by decide) rfl (Nat.le_of_ble_eq_true rfl) Has.nil _ rfl dX8_store_47 (fun r hr => ?_)
      subst hr
      refine i_val (v' := .int (bI (wit v 0 500))) rfl ?_
      refine i_if_eq B 75 dX8_store_50 (by decide) (fun h3 => ?_) (fun h3 => ?_)
      · replace h3 := bI_0.mp h3
        refine i_bipush (v := (-2)) B dX8_store_75 (by decide) ?_
        exact ret _ _ _ (g, (s 63), (s 64)) rfl dX8_store_77 (⟨by simp only [storeF, h1d, h2d, h3, decide_true, decide_false, Bool.not_true, Bool.not_false, Bool.true_and, Bool.false_and, Bool.and_true, Bool.and_false, Bool.true_or, Bool.or_true, Bool.false_or, Bool.or_false, Bool.and_self, Bool.or_self, bI_t, bI_f, if_true, if_false, ite_true, ite_false, Bool.false_eq_true, Bool.true_eq_false, eq_self, reduceIte, true_or, or_true, false_or, or_false, and_true, true_and, and_false, false_and, not_true_eq_false, not_false_eq_true, decide_eq_true_eq, decide_eq_false_iff_not], Or.inl ⟨rfl, rfl⟩⟩)
      · replace h3 := bI_n.mp h3
        refine i_aload_n B 0 dX8_store_53 rfl ?_
        refine i_get (v := .ref (q 45)) B flX8_42 0 rfl rfl dX8_store_54 ?_
        refine i_get (v := .int (g 19)) B flX8_143 16 rfl rfl dX8_store_57 ?_
        refine i_istore_n B [(3, .int (g 19)), (0, .ref (q 40)), (1, .int what), (2, .int v)] dX8_store_60 (by decide) rfl ?_
        refine i_aload_n B 1 dX8_store_61 rfl ?_
        refine i_get (v := .ref (q 45)) B flX8_42 0 rfl rfl dX8_store_62 ?_
        refine i_iload_n B 3 dX8_store_65 rfl ?_
        refine i_put B flX8_143 16 (cW E q (upd g 19 v) a s t (.ref (q 49)) (sR E q s t)) rfl rfl rfl rfl (Nat.le_of_ble_eq_true rfl) rfl dX8_store_66 ?_
        refine i_aload_n B 1 dX8_store_69 rfl ?_
        refine c_wvV (cells := 0) (slots := 0) (rest := []) (As := []) B (k_X8_forgetRoutesR l E q (upd g 19 v) a s t) cal_yX8_forgetRoutes iv_yX8_forgetRoutes mlX8_125 rfl 0 rfl (by decide) (by decide) rfl (Nat.le_of_ble_eq_true rfl) ([]) ([]) rfl _ rfl dX8_store_70 (fun _ hr => ?_)
        refine i_world (ws' := (cW E q (upd g 19 v) a (upd (upd s 63 0) 64 0) t (.ref (q 49)) (sR E q (upd (upd s 63 0) 64 0) t))) rfl ?_
        refine i_iload_n B 0 dX8_store_73 rfl ?_
        exact ret _ _ _ ((upd g 19 v), 0, 0) rfl dX8_store_74 (⟨by simp only [storeF, h1d, h2d, h3, decide_true, decide_false, Bool.not_true, Bool.not_false, Bool.true_and, Bool.false_and, Bool.and_true, Bool.and_false, Bool.true_or, Bool.or_true, Bool.false_or, Bool.or_false, Bool.and_self, Bool.or_self, bI_t, bI_f, if_true, if_false, ite_true, ite_false, Bool.false_eq_true, Bool.true_eq_false, eq_self, reduceIte, true_or, or_true, false_or, or_false, and_true, true_and, and_false, false_and, not_true_eq_false, not_false_eq_true, decide_eq_true_eq, decide_eq_false_iff_not], Or.inr rfl⟩)
  · have h1d := decide_eq_true h1
    refine i_iload_n B 2 dX8_store_4 rfl ?_
    refine i_iconst (v := 1) B dX8_store_5 (by decide) ?_
    refine i_sipush (v := 30000) B dX8_store_6 (by decide) ?_
    refine c_roS (rest := []) (As := [.int v, .int 1, .int 30000]) B (k_X8_isWithin l E v 1 30000) cal_yX8_isWithin is_yX8_isWithin mlX8_72 (by decide) (by decide) rfl (Nat.le_of_ble_eq_true rfl) Has.nil _ rfl dX8_store_9 (fun r hr => ?_)
    subst hr
    refine i_val (v' := .int (bI (wit v 1 30000))) rfl ?_
    refine i_if_eq B 37 dX8_store_12 (by decide) (fun h4 => ?_) (fun h4 => ?_)
    · replace h4 := bI_0.mp h4
      refine i_iload_n B 1 dX8_store_37 rfl ?_
      refine i_iconst (v := 1) B dX8_store_38 (by decide) ?_
      refine i_icmp_ne B 75 dX8_store_39 (by decide) (fun h5 => ?_) (fun h5 => ?_)
      · have h5d := decide_eq_false h5
        refine i_bipush (v := (-2)) B dX8_store_75 (by decide) ?_
        exact ret _ _ _ (g, (s 63), (s 64)) rfl dX8_store_77 (⟨by have e2 : decide (what = 1) = false := (by rw [h1]; decide); simp only [storeF, h1d, h4, h5d, e2, decide_true, decide_false, Bool.not_true, Bool.not_false, Bool.true_and, Bool.false_and, Bool.and_true, Bool.and_false, Bool.true_or, Bool.or_true, Bool.false_or, Bool.or_false, Bool.and_self, Bool.or_self, bI_t, bI_f, if_true, if_false, ite_true, ite_false, Bool.false_eq_true, Bool.true_eq_false, eq_self, reduceIte, true_or, or_true, false_or, or_false, and_true, true_and, and_false, false_and, not_true_eq_false, not_false_eq_true, decide_eq_true_eq, decide_eq_false_iff_not], Or.inl ⟨rfl, rfl⟩⟩)
      · have h5d := decide_eq_true h5
        refine i_iload_n B 2 dX8_store_42 rfl ?_
        refine i_iconst (v := 0) B dX8_store_43 (by decide) ?_
        refine i_sipush (v := 500) B dX8_store_44 (by decide) ?_
        refine c_roS (rest := []) (As := [.int v, .int 0, .int 500]) B (k_X8_isWithin l E v 0 500) cal_yX8_isWithin is_yX8_isWithin mlX8_72 (by decide) (by decide) rfl (Nat.le_of_ble_eq_true rfl) Has.nil _ rfl dX8_store_47 (fun r hr => ?_)
        subst hr
        refine i_val (v' := .int (bI (wit v 0 500))) rfl ?_
        refine i_if_eq B 75 dX8_store_50 (by decide) (fun h6 => ?_) (fun h6 => ?_)
        · replace h6 := bI_0.mp h6
          refine i_bipush (v := (-2)) B dX8_store_75 (by decide) ?_
          exact ret _ _ _ (g, (s 63), (s 64)) rfl dX8_store_77 (⟨by have e2 : decide (what = 1) = false := (by rw [h1]; decide); simp only [storeF, h1d, h4, h5d, h6, e2, decide_true, decide_false, Bool.not_true, Bool.not_false, Bool.true_and, Bool.false_and, Bool.and_true, Bool.and_false, Bool.true_or, Bool.or_true, Bool.false_or, Bool.or_false, Bool.and_self, Bool.or_self, bI_t, bI_f, if_true, if_false, ite_true, ite_false, Bool.false_eq_true, Bool.true_eq_false, eq_self, reduceIte, true_or, or_true, false_or, or_false, and_true, true_and, and_false, false_and, not_true_eq_false, not_false_eq_true, decide_eq_true_eq, decide_eq_false_iff_not], Or.inl ⟨rfl, rfl⟩⟩)
        · replace h6 := bI_n.mp h6
          refine i_aload_n B 0 dX8_store_53 rfl ?_
          refine i_get (v := .ref (q 45)) B flX8_42 0 rfl rfl dX8_store_54 ?_
          refine i_get (v := .int (g 19)) B flX8_143 16 rfl rfl dX8_store_57 ?_
          refine i_istore_n B [(3, .int (g 19)), (0, .ref (q 40)), (1, .int what), (2, .int v)] dX8_store_60 (by decide) rfl ?_
          refine i_aload_n B 1 dX8_store_61 rfl ?_
          refine i_get (v := .ref (q 45)) B flX8_42 0 rfl rfl dX8_store_62 ?_
          refine i_iload_n B 3 dX8_store_65 rfl ?_
          refine i_put B flX8_143 16 (cW E q (upd g 19 v) a s t (.ref (q 49)) (sR E q s t)) rfl rfl rfl rfl (Nat.le_of_ble_eq_true rfl) rfl dX8_store_66 ?_
          refine i_aload_n B 1 dX8_store_69 rfl ?_
          refine c_wvV (cells := 0) (slots := 0) (rest := []) (As := []) B (k_X8_forgetRoutesR l E q (upd g 19 v) a s t) cal_yX8_forgetRoutes iv_yX8_forgetRoutes mlX8_125 rfl 0 rfl (by decide) (by decide) rfl (Nat.le_of_ble_eq_true rfl) ([]) ([]) rfl _ rfl dX8_store_70 (fun _ hr => ?_)
          refine i_world (ws' := (cW E q (upd g 19 v) a (upd (upd s 63 0) 64 0) t (.ref (q 49)) (sR E q (upd (upd s 63 0) 64 0) t))) rfl ?_
          refine i_iload_n B 0 dX8_store_73 rfl ?_
          exact ret _ _ _ ((upd g 19 v), 0, 0) rfl dX8_store_74 (⟨by have e2 : decide (what = 1) = false := (by rw [h1]; decide); simp only [storeF, h1d, h4, h5d, h6, e2, decide_true, decide_false, Bool.not_true, Bool.not_false, Bool.true_and, Bool.false_and, Bool.and_true, Bool.and_false, Bool.true_or, Bool.or_true, Bool.false_or, Bool.or_false, Bool.and_self, Bool.or_self, bI_t, bI_f, if_true, if_false, ite_true, ite_false, Bool.false_eq_true, Bool.true_eq_false, eq_self, reduceIte, true_or, or_true, false_or, or_false, and_true, true_and, and_false, false_and, not_true_eq_false, not_false_eq_true, decide_eq_true_eq, decide_eq_false_iff_not], Or.inr rfl⟩)
    · replace h4 := bI_n.mp h4
      refine i_aload_n B 0 dX8_store_15 rfl ?_
      refine i_get (v := .ref (q 45)) B flX8_42 0 rfl rfl dX8_store_16 ?_
      refine i_get (v := .int (g 18)) B flX8_140 16 rfl rfl dX8_store_19 ?_
      refine i_istore_n B [(3, .int (g 18)), (0, .ref (q 40)), (1, .int what), (2, .int v)] dX8_store_22 (by decide) rfl ?_
      refine i_aload_n B 1 dX8_store_23 rfl ?_
      refine i_get (v := .ref (q 45)) B flX8_42 0 rfl rfl dX8_store_24 ?_
      refine i_iload_n B 3 dX8_store_27 rfl ?_
      refine i_put B flX8_140 16 (cW E q (upd g 18 v) a s t (.ref (q 49)) (sR E q s t)) rfl rfl rfl rfl (Nat.le_of_ble_eq_true rfl) rfl dX8_store_28 ?_
      refine i_aload_n B 1 dX8_store_31 rfl ?_
      refine c_wvV (cells := 0) (slots := 0) (rest := []) (As := []) B (k_X8_forgetRoutesR l E q (upd g 18 v) a s t) cal_yX8_forgetRoutes iv_yX8_forgetRoutes mlX8_125 rfl 0 rfl (by decide) (by decide) rfl (Nat.le_of_ble_eq_true rfl) ([]) ([]) rfl _ rfl dX8_store_32 (fun _ hr => ?_)
      refine i_world (ws' := (cW E q (upd g 18 v) a (upd (upd s 63 0) 64 0) t (.ref (q 49)) (sR E q (upd (upd s 63 0) 64 0) t))) rfl ?_
      refine i_iload_n B 0 dX8_store_35 rfl ?_
      exact ret _ _ _ ((upd g 18 v), 0, 0) rfl dX8_store_36 (⟨by have e2 : decide (what = 1) = false := (by rw [h1]; decide); simp only [storeF, h1d, h4, e2, decide_true, decide_false, Bool.not_true, Bool.not_false, Bool.true_and, Bool.false_and, Bool.and_true, Bool.and_false, Bool.true_or, Bool.or_true, Bool.false_or, Bool.or_false, Bool.and_self, Bool.or_self, bI_t, bI_f, if_true, if_false, ite_true, ite_false, Bool.false_eq_true, Bool.true_eq_false, eq_self, reduceIte, true_or, or_true, false_or, or_false, and_true, true_and, and_false, false_and, not_true_eq_false, not_false_eq_true, decide_eq_true_eq, decide_eq_false_iff_not], Or.inr rfl⟩)
