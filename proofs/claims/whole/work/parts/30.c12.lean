set_option maxHeartbeats 4000000 in
set_option maxRecDepth 100000 in
theorem k_X8_isPanel (l : Launch) (E : ED) (q : Nat → Nat) (g : Nat → Int32) (a : Nat → Nat → Int32) (s : Nat → Int32) (t : Nat → Nat → Int32) (RV : Value) (X : va_W) (np : Nat) (hn : g 1 = nI np) (hnp : np ≤ 12) (p : Int32) : RO l E yX8_isPanel cX8_isPanel 2 .boolean 0 0 [.ref (q 40), .int p] (cW E q g a s t RV X) (fun r => r = bI (wit p 0 (g 1 - 1))) := by
  refine RO.mk (by decide) (Nat.le_of_ble_eq_true rfl) [(0, .ref (q 40)), (1, .int p)] rfl (fun Z B ret => ?_)
  refine i_iload_n B 1 dX8_isPanel_0 rfl ?_
  refine i_if_lt B 19 dX8_isPanel_1 (by decide) (fun h1 => ?_) (fun h1 => ?_)
  · refine i_iconst (v := 0) B dX8_isPanel_19 (by decide) ?_
    exact ret _ _ _ (by decide) dX8_isPanel_20 (by rw [hn, ← wit_cl (by omega)]; simp only [h1, decide_true, decide_false, Bool.not_true, Bool.not_false, Bool.true_and, Bool.false_and, Bool.and_true, Bool.and_false, Bool.true_or, Bool.or_true, Bool.false_or, Bool.or_false, Bool.and_self, Bool.or_self, bI_t, bI_f])
  · refine i_iload_n B 1 dX8_isPanel_4 rfl ?_
    refine i_aload_n B 0 dX8_isPanel_5 rfl ?_
    refine i_get (v := .ref (q 41)) B flX8_10 0 rfl rfl dX8_isPanel_6 ?_
    refine i_get (v := .int (g 1)) B flX8_64 1 rfl rfl dX8_isPanel_9 ?_
    refine i_icmp_ge B 19 dX8_isPanel_12 (by decide) (fun h2 => ?_) (fun h2 => ?_)
    · replace h2 := q_n32.mpr h2
      rw [hn] at h2
      refine i_iconst (v := 0) B dX8_isPanel_19 (by decide) ?_
      exact ret _ _ _ (by decide) dX8_isPanel_20 (by rw [hn, ← wit_cl (by omega)]; simp only [h1, h2, decide_true, decide_false, Bool.not_true, Bool.not_false, Bool.true_and, Bool.false_and, Bool.and_true, Bool.and_false, Bool.true_or, Bool.or_true, Bool.false_or, Bool.or_false, Bool.and_self, Bool.or_self, bI_t, bI_f])
    · replace h2 := q_m32.mp h2
      rw [hn] at h2
      refine i_iconst (v := 1) B dX8_isPanel_15 (by decide) ?_
      refine i_goto B 20 dX8_isPanel_16 (by decide) ?_
      exact ret _ _ _ (by decide) dX8_isPanel_20 (by rw [hn, ← wit_cl (by omega)]; simp only [h1, h2, decide_true, decide_false, Bool.not_true, Bool.not_false, Bool.true_and, Bool.false_and, Bool.and_true, Bool.and_false, Bool.true_or, Bool.or_true, Bool.false_or, Bool.or_false, Bool.and_self, Bool.or_self, bI_t, bI_f])

set_option maxHeartbeats 4000000 in
set_option maxRecDepth 100000 in
theorem k_X8_isViewSet (l : Launch) (E : ED) (q : Nat → Nat) (g : Nat → Int32) (a : Nat → Nat → Int32) (s : Nat → Int32) (t : Nat → Nat → Int32) (RV : Value) (X : va_W) (nv : Nat) (hv : g 8 = nI nv) (hnv : nv ≤ 10) (x : Int32) : RO l E yX8_isViewSet cX8_isViewSet 2 .boolean 0 0 [.ref (q 40), .int x] (cW E q g a s t RV X) (fun r => r = bI (!nset (g 8) x)) := by
  refine RO.mk (by decide) (Nat.le_of_ble_eq_true rfl) [(0, .ref (q 40)), (1, .int x)] rfl (fun Z B ret => ?_)
  refine i_iload_n B 1 dX8_isViewSet_0 rfl ?_
  refine i_iconst (v := 1) B dX8_isViewSet_1 (by decide) ?_
  refine i_aload_n B 0 dX8_isViewSet_2 rfl ?_
  refine i_get (v := .ref (q 42)) B flX8_21 0 rfl rfl dX8_isViewSet_3 ?_
  refine i_get (v := .int (g 8)) B flX8_82 6 rfl rfl dX8_isViewSet_6 ?_
  refine i_ishl B dX8_isViewSet_9 ?_
  refine i_ineg B dX8_isViewSet_10 ?_
  refine i_iand B dX8_isViewSet_11 ?_
  refine i_if_ne B 19 dX8_isViewSet_12 (by decide) (fun h1 => ?_) (fun h1 => ?_)
  · have h1d := decide_eq_false h1
    refine i_iconst (v := 0) B dX8_isViewSet_19 (by decide) ?_
    exact ret _ _ _ (by decide) dX8_isViewSet_20 (by rw [hv]; rw [hv, set_iff hnv] at h1; rw [show nset (nI nv) x = true by simpa using h1]; rfl)
  · have h1d := decide_eq_true h1
    refine i_iconst (v := 1) B dX8_isViewSet_15 (by decide) ?_
    refine i_goto B 20 dX8_isViewSet_16 (by decide) ?_
    exact ret _ _ _ (by decide) dX8_isViewSet_20 (by rw [hv]; rw [hv, set_iff hnv] at h1; simp only [h1, decide_true, decide_false, Bool.not_true, Bool.not_false, Bool.true_and, Bool.false_and, Bool.and_true, Bool.and_false, Bool.true_or, Bool.or_true, Bool.false_or, Bool.or_false, Bool.and_self, Bool.or_self, bI_t, bI_f])

set_option maxHeartbeats 4000000 in
set_option maxRecDepth 100000 in
theorem k_X8_panel (l : Launch) (E : ED) (q : Nat → Nat) (g : Nat → Int32) (a : Nat → Nat → Int32) (s : Nat → Int32) (t : Nat → Nat → Int32) (RV : Value) (X : va_W) (np : Nat) (hn : g 1 = nI np) (hnp : np ≤ 12) (x1 y1 x2 y2 : Int32) : WR l E yX8_panel cX8_panel 5 .int 2 43 0 0 [.ref (q 40), .int x1, .int y1, .int x2, .int y2] (cW E q g a s t RV X) (fun r u => (r, u) = panelF g a np x1 y1 x2 y2) (fun u : GA => cW E q u.1 u.2 s t RV X) := by
  refine WR.mk (by decide) (Nat.le_of_ble_eq_true rfl) [(0, .ref (q 40)), (1, .int x1), (2, .int y1), (3, .int x2), (4, .int y2)] rfl (fun Z B ret => ?_)
  refine i_iload_n B 1 dX8_panel_0 rfl ?_
  refine i_iload_n B 2 dX8_panel_1 rfl ?_
  refine c_roS (rest := []) (As := [.int x1, .int y1]) B (k_X8_isPoint l E x1 y1) cal_yX8_isPoint is_yX8_isPoint mlX8_60 (by decide) (by decide) rfl (Nat.le_of_ble_eq_true rfl) Has.nil _ rfl dX8_panel_2 (fun r hr => ?_)
  subst hr
  refine i_val (v' := .int (bI (pt x1 y1))) rfl ?_
  refine i_if_eq B 17 dX8_panel_5 (by decide) (fun h1 => ?_) (fun h1 => ?_)
  · replace h1 := bI_0.mp h1
    refine i_bipush (v := (-2)) B dX8_panel_17 (by decide) ?_
    exact ret _ _ _ (g, a) rfl dX8_panel_19 (by simp only [panelF, h1, decide_true, decide_false, Bool.not_true, Bool.not_false, Bool.true_and, Bool.false_and, Bool.and_true, Bool.and_false, Bool.true_or, Bool.or_true, Bool.false_or, Bool.or_false, Bool.and_self, Bool.or_self, bI_t, bI_f, if_true, if_false, ite_true, ite_false, Bool.false_eq_true, Bool.true_eq_false, eq_self, reduceIte, true_or, or_true, false_or, or_false, and_true, true_and, and_false, false_and, not_true_eq_false, not_false_eq_true, decide_eq_true_eq, decide_eq_false_iff_not])
  · replace h1 := bI_n.mp h1
    refine i_iload_n B 3 dX8_panel_8 rfl ?_
    refine i_iload B 4 dX8_panel_9 rfl ?_
    refine c_roS (rest := []) (As := [.int x2, .int y2]) B (k_X8_isPoint l E x2 y2) cal_yX8_isPoint is_yX8_isPoint mlX8_60 (by decide) (by decide) rfl (Nat.le_of_ble_eq_true rfl) Has.nil _ rfl dX8_panel_11 (fun r hr => ?_)
    subst hr
    refine i_val (v' := .int (bI (pt x2 y2))) rfl ?_
    refine i_if_ne B 20 dX8_panel_14 (by decide) (fun h2 => ?_) (fun h2 => ?_)
    · replace h2 := bI_n.mp h2
      refine i_iload_n B 1 dX8_panel_20 rfl ?_
      refine i_iload_n B 3 dX8_panel_21 rfl ?_
      refine i_icmp_ne B 34 dX8_panel_22 (by decide) (fun h3 => ?_) (fun h3 => ?_)
      · have h3d := decide_eq_false h3
        refine i_aload_n B 0 dX8_panel_34 rfl ?_
        refine i_get (v := .ref (q 41)) B flX8_10 0 rfl rfl dX8_panel_35 ?_
        refine i_get (v := .int (g 1)) B flX8_64 1 rfl rfl dX8_panel_38 ?_
        refine i_bipush (v := 12) B dX8_panel_41 (by decide) ?_
        refine i_icmp_lt B 49 dX8_panel_43 (by decide) (fun h4 => ?_) (fun h4 => ?_)
        · rw [hn, show (12 : Int32) = nI 12 from rfl, nI_ltI (by omega) (by omega)] at h4
          refine i_aload_n B 0 dX8_panel_49 rfl ?_
          refine i_get (v := .ref (q 41)) B flX8_10 0 rfl rfl dX8_panel_50 ?_
          refine i_iload_n B 1 dX8_panel_53 rfl ?_
          refine i_iload_n B 2 dX8_panel_54 rfl ?_
          refine i_iload_n B 3 dX8_panel_55 rfl ?_
          refine i_iload B 4 dX8_panel_56 rfl ?_
          refine c_wiV (cells := 0) (slots := 0) (rest := []) (As := [.int x1, .int y1, .int x2, .int y2]) B (k_X7_add l E q g a np hn (by omega) x1 y1 x2 y2) cal_yX7_add iv_yX7_add mlX8_68 rfl 1 rfl (by decide) (by decide) rfl (Nat.le_of_ble_eq_true rfl) ([((q 40), .inr (8, [.ref (q 41), .ref (q 42), .ref (q 43), .ref (q 44), .ref (q 45), .ref (q 46), .ref (q 48), RV]))]) ([((q 42), .inr (5, [.ref (q 9), .ref (q 10), .int (g 8)])), ((q 9), .inl (E.2.1, 10, .inl (a 9))), ((q 10), .inl (E.2.1, 10, .inl (a 10))), ((q 43), .inr (3, [.ref (q 50), .int (s 60)])), ((q 50), .inl (E.2.1, 12, .inl (t 50))), ((q 44), .inr (0, [.ref (q 12), .ref (q 13), .ref (q 14), .ref (q 15), .int (g 11), .int (g 16), .int (g 17)])), ((q 12), .inl (E.2.1, 4, .inl (a 12))), ((q 13), .inl (E.2.1, 4, .inl (a 13))), ((q 14), .inl (E.2.1, 4, .inl (a 14))), ((q 15), .inl (E.2.1, 4, .inl (a 15))), ((q 45), .inr (1, [.int (g 90), .int (g 91), .int (g 18), .int (g 19)])), ((q 46), .inr (2, [.ref (q 47), .ref (q 23)])), ((q 47), .inr (5, [.ref (q 21), .ref (q 22), .int (g 20)])), ((q 21), .inl (E.2.1, 20, .inl (a 21))), ((q 22), .inl (E.2.1, 20, .inl (a 22))), ((q 23), .inl (E.2.1, 20, .inl (a 23))), ((q 48), .inr (4, [.ref (q 25), .ref (q 26), .ref (q 27), .ref (q 28), .ref (q 29), .int (g 24), .ref (q 51), .ref (q 52), .ref (q 53), .int (s 61), .int (s 62)])), ((q 25), .inl (E.2.1, 40, .inl (a 25))), ((q 26), .inl (E.2.1, 40, .inl (a 26))), ((q 27), .inl (E.2.1, 40, .inl (a 27))), ((q 28), .inl (E.2.1, 40, .inl (a 28))), ((q 29), .inl (E.2.2, 40, .inl (a 29))), ((q 51), .inl (E.2.1, 40, .inl (t 51))), ((q 52), .inl (E.2.1, 40, .inl (t 52))), ((q 53), .inl (E.2.1, 41, .inl (t 53)))] ++ X) rfl _ rfl dX8_panel_58 (fun r _ hr => ?_)
          subst hr
          refine i_world (ws' := (cW E q (upd g 1 (nI (np + 1))) (va_up (va_up (va_up (va_up a 2 (upd (a 2) np x1)) 3 (upd (a 3) np y1)) 4 (upd (a 4) np x2)) 5 (upd (a 5) np y2)) s t RV X)) rfl ?_
          exact ret _ _ _ ((upd g 1 (nI (np + 1))), (va_up (va_up (va_up (va_up a 2 (upd (a 2) np x1)) 3 (upd (a 3) np y1)) 4 (upd (a 4) np x2)) 5 (upd (a 5) np y2))) rfl dX8_panel_61 (by have e9 : decide (np = 12) = false := decide_eq_false (by omega); simp only [panelF, h1, h2, h3d, h4, e9, decide_true, decide_false, Bool.not_true, Bool.not_false, Bool.true_and, Bool.false_and, Bool.and_true, Bool.and_false, Bool.true_or, Bool.or_true, Bool.false_or, Bool.or_false, Bool.and_self, Bool.or_self, bI_t, bI_f, if_true, if_false, ite_true, ite_false, Bool.false_eq_true, Bool.true_eq_false, eq_self, reduceIte, true_or, or_true, false_or, or_false, and_true, true_and, and_false, false_and, not_true_eq_false, not_false_eq_true, decide_eq_true_eq, decide_eq_false_iff_not])
        · rw [hn, show (12 : Int32) = nI 12 from rfl, nI_ltI (by omega) (by omega)] at h4
          refine i_bipush (v := (-4)) B dX8_panel_46 (by decide) ?_
          exact ret _ _ _ (g, a) rfl dX8_panel_48 (by have e9 : decide (np = 12) = true := decide_eq_true (by omega); simp only [panelF, h1, h2, h3d, h4, e9, decide_true, decide_false, Bool.not_true, Bool.not_false, Bool.true_and, Bool.false_and, Bool.and_true, Bool.and_false, Bool.true_or, Bool.or_true, Bool.false_or, Bool.or_false, Bool.and_self, Bool.or_self, bI_t, bI_f, if_true, if_false, ite_true, ite_false, Bool.false_eq_true, Bool.true_eq_false, eq_self, reduceIte, true_or, or_true, false_or, or_false, and_true, true_and, and_false, false_and, not_true_eq_false, not_false_eq_true, decide_eq_true_eq, decide_eq_false_iff_not])
      · have h3d := decide_eq_true h3
        refine i_iload_n B 2 dX8_panel_25 rfl ?_
        refine i_iload B 4 dX8_panel_26 rfl ?_
        refine i_icmp_ne B 34 dX8_panel_28 (by decide) (fun h5 => ?_) (fun h5 => ?_)
        · have h5d := decide_eq_false h5
          refine i_aload_n B 0 dX8_panel_34 rfl ?_
          refine i_get (v := .ref (q 41)) B flX8_10 0 rfl rfl dX8_panel_35 ?_
          refine i_get (v := .int (g 1)) B flX8_64 1 rfl rfl dX8_panel_38 ?_
          refine i_bipush (v := 12) B dX8_panel_41 (by decide) ?_
          refine i_icmp_lt B 49 dX8_panel_43 (by decide) (fun h6 => ?_) (fun h6 => ?_)
          · rw [hn, show (12 : Int32) = nI 12 from rfl, nI_ltI (by omega) (by omega)] at h6
            refine i_aload_n B 0 dX8_panel_49 rfl ?_
            refine i_get (v := .ref (q 41)) B flX8_10 0 rfl rfl dX8_panel_50 ?_
            refine i_iload_n B 1 dX8_panel_53 rfl ?_
            refine i_iload_n B 2 dX8_panel_54 rfl ?_
            refine i_iload_n B 3 dX8_panel_55 rfl ?_
            refine i_iload B 4 dX8_panel_56 rfl ?_
            refine c_wiV (cells := 0) (slots := 0) (rest := []) (As := [.int x1, .int y1, .int x2, .int y2]) B (k_X7_add l E q g a np hn (by omega) x1 y1 x2 y2) cal_yX7_add iv_yX7_add mlX8_68 rfl 1 rfl (by decide) (by decide) rfl (Nat.le_of_ble_eq_true rfl) ([((q 40), .inr (8, [.ref (q 41), .ref (q 42), .ref (q 43), .ref (q 44), .ref (q 45), .ref (q 46), .ref (q 48), RV]))]) ([((q 42), .inr (5, [.ref (q 9), .ref (q 10), .int (g 8)])), ((q 9), .inl (E.2.1, 10, .inl (a 9))), ((q 10), .inl (E.2.1, 10, .inl (a 10))), ((q 43), .inr (3, [.ref (q 50), .int (s 60)])), ((q 50), .inl (E.2.1, 12, .inl (t 50))), ((q 44), .inr (0, [.ref (q 12), .ref (q 13), .ref (q 14), .ref (q 15), .int (g 11), .int (g 16), .int (g 17)])), ((q 12), .inl (E.2.1, 4, .inl (a 12))), ((q 13), .inl (E.2.1, 4, .inl (a 13))), ((q 14), .inl (E.2.1, 4, .inl (a 14))), ((q 15), .inl (E.2.1, 4, .inl (a 15))), ((q 45), .inr (1, [.int (g 90), .int (g 91), .int (g 18), .int (g 19)])), ((q 46), .inr (2, [.ref (q 47), .ref (q 23)])), ((q 47), .inr (5, [.ref (q 21), .ref (q 22), .int (g 20)])), ((q 21), .inl (E.2.1, 20, .inl (a 21))), ((q 22), .inl (E.2.1, 20, .inl (a 22))), ((q 23), .inl (E.2.1, 20, .inl (a 23))), ((q 48), .inr (4, [.ref (q 25), .ref (q 26), .ref (q 27), .ref (q 28), .ref (q 29), .int (g 24), .ref (q 51), .ref (q 52), .ref (q 53), .int (s 61), .int (s 62)])), ((q 25), .inl (E.2.1, 40, .inl (a 25))), ((q 26), .inl (E.2.1, 40, .inl (a 26))), ((q 27), .inl (E.2.1, 40, .inl (a 27))), ((q 28), .inl (E.2.1, 40, .inl (a 28))), ((q 29), .inl (E.2.2, 40, .inl (a 29))), ((q 51), .inl (E.2.1, 40, .inl (t 51))), ((q 52), .inl (E.2.1, 40, .inl (t 52))), ((q 53), .inl (E.2.1, 41, .inl (t 53)))] ++ X) rfl _ rfl dX8_panel_58 (fun r _ hr => ?_)
            subst hr
            refine i_world (ws' := (cW E q (upd g 1 (nI (np + 1))) (va_up (va_up (va_up (va_up a 2 (upd (a 2) np x1)) 3 (upd (a 3) np y1)) 4 (upd (a 4) np x2)) 5 (upd (a 5) np y2)) s t RV X)) rfl ?_
            exact ret _ _ _ ((upd g 1 (nI (np + 1))), (va_up (va_up (va_up (va_up a 2 (upd (a 2) np x1)) 3 (upd (a 3) np y1)) 4 (upd (a 4) np x2)) 5 (upd (a 5) np y2))) rfl dX8_panel_61 (by have e9 : decide (np = 12) = false := decide_eq_false (by omega); simp only [panelF, h1, h2, h3d, h5d, h6, e9, decide_true, decide_false, Bool.not_true, Bool.not_false, Bool.true_and, Bool.false_and, Bool.and_true, Bool.and_false, Bool.true_or, Bool.or_true, Bool.false_or, Bool.or_false, Bool.and_self, Bool.or_self, bI_t, bI_f, if_true, if_false, ite_true, ite_false, Bool.false_eq_true, Bool.true_eq_false, eq_self, reduceIte, true_or, or_true, false_or, or_false, and_true, true_and, and_false, false_and, not_true_eq_false, not_false_eq_true, decide_eq_true_eq, decide_eq_false_iff_not])
          · rw [hn, show (12 : Int32) = nI 12 from rfl, nI_ltI (by omega) (by omega)] at h6
            refine i_bipush (v := (-4)) B dX8_panel_46 (by decide) ?_
            exact ret _ _ _ (g, a) rfl dX8_panel_48 (by have e9 : decide (np = 12) = true := decide_eq_true (by omega); simp only [panelF, h1, h2, h3d, h5d, h6, e9, decide_true, decide_false, Bool.not_true, Bool.not_false, Bool.true_and, Bool.false_and, Bool.and_true, Bool.and_false, Bool.true_or, Bool.or_true, Bool.false_or, Bool.or_false, Bool.and_self, Bool.or_self, bI_t, bI_f, if_true, if_false, ite_true, ite_false, Bool.false_eq_true, Bool.true_eq_false, eq_self, reduceIte, true_or, or_true, false_or, or_false, and_true, true_and, and_false, false_and, not_true_eq_false, not_false_eq_true, decide_eq_true_eq, decide_eq_false_iff_not])
        · have h5d := decide_eq_true h5
          refine i_bipush (v := (-3)) B dX8_panel_31 (by decide) ?_
          exact ret _ _ _ (g, a) rfl dX8_panel_33 (by simp only [panelF, h1, h2, h3d, h5d, decide_true, decide_false, Bool.not_true, Bool.not_false, Bool.true_and, Bool.false_and, Bool.and_true, Bool.and_false, Bool.true_or, Bool.or_true, Bool.false_or, Bool.or_false, Bool.and_self, Bool.or_self, bI_t, bI_f, if_true, if_false, ite_true, ite_false, Bool.false_eq_true, Bool.true_eq_false, eq_self, reduceIte, true_or, or_true, false_or, or_false, and_true, true_and, and_false, false_and, not_true_eq_false, not_false_eq_true, decide_eq_true_eq, decide_eq_false_iff_not])
    · replace h2 := bI_0.mp h2
      refine i_bipush (v := (-2)) B dX8_panel_17 (by decide) ?_
      exact ret _ _ _ (g, a) rfl dX8_panel_19 (by simp only [panelF, h1, h2, decide_true, decide_false, Bool.not_true, Bool.not_false, Bool.true_and, Bool.false_and, Bool.and_true, Bool.and_false, Bool.true_or, Bool.or_true, Bool.false_or, Bool.or_false, Bool.and_self, Bool.or_self, bI_t, bI_f, if_true, if_false, ite_true, ite_false, Bool.false_eq_true, Bool.true_eq_false, eq_self, reduceIte, true_or, or_true, false_or, or_false, and_true, true_and, and_false, false_and, not_true_eq_false, not_false_eq_true, decide_eq_true_eq, decide_eq_false_iff_not])

set_option maxHeartbeats 4000000 in
set_option maxRecDepth 100000 in
theorem k_X8_eye (l : Launch) (E : ED) (q : Nat → Nat) (g : Nat → Int32) (a : Nat → Nat → Int32) (s : Nat → Int32) (t : Nat → Nat → Int32) (RV : Value) (X : va_W) (what v : Int32) : WR l E yX8_eye cX8_eye 4 .int 1 22 0 0 [.ref (q 40), .int what, .int v] (cW E q g a s t RV X) (fun r u => (r, u) = eyeF g what v) (fun u => cW E q u a s t RV X) := by
  refine WR.mk (by decide) (Nat.le_of_ble_eq_true rfl) [(0, .ref (q 40)), (1, .int what), (2, .int v)] rfl (fun Z B ret => ?_)
  refine i_iload_n B 1 dX8_eye_0 rfl ?_
  refine i_if_ne B 32 dX8_eye_1 (by decide) (fun h1 => ?_) (fun h1 => ?_)
  · have h1d := decide_eq_false h1
    refine i_iload_n B 1 dX8_eye_32 rfl ?_
    refine i_iconst (v := 1) B dX8_eye_33 (by decide) ?_
    refine i_icmp_ne B 65 dX8_eye_34 (by decide) (fun h2 => ?_) (fun h2 => ?_)
    · have h2d := decide_eq_false h2
      refine i_bipush (v := (-2)) B dX8_eye_65 (by decide) ?_
      exact ret _ _ _ g rfl dX8_eye_67 (by simp only [eyeF, h1d, h2d, decide_true, decide_false, Bool.not_true, Bool.not_false, Bool.true_and, Bool.false_and, Bool.and_true, Bool.and_false, Bool.true_or, Bool.or_true, Bool.false_or, Bool.or_false, Bool.and_self, Bool.or_self, bI_t, bI_f, if_true, if_false, ite_true, ite_false, Bool.false_eq_true, Bool.true_eq_false, eq_self, reduceIte, true_or, or_true, false_or, or_false, and_true, true_and, and_false, false_and, not_true_eq_false, not_false_eq_true, decide_eq_true_eq, decide_eq_false_iff_not])
    · have h2d := decide_eq_true h2
      refine i_iload_n B 2 dX8_eye_37 rfl ?_
      refine i_iconst (v := 0) B dX8_eye_38 (by decide) ?_
      refine i_bipush (v := 100) B dX8_eye_39 (by decide) ?_
      refine c_roS (rest := []) (As := [.int v, .int 0, .int 100]) B (k_X8_isWithin l E v 0 100) cal_yX8_isWithin is_yX8_isWithin mlX8_72 (by decide) (by decide) rfl (Nat.le_of_ble_eq_true rfl) Has.nil _ rfl dX8_eye_41 (fun r hr => ?_)
      subst hr
      refine i_val (v' := .int (bI (wit v 0 100))) rfl ?_
      refine i_if_eq B 65 dX8_eye_44 (by decide) (fun h3 => ?_) (fun h3 => ?_)
      · replace h3 := bI_0.mp h3
        refine i_bipush (v := (-2)) B dX8_eye_65 (by decide) ?_
        exact ret _ _ _ g rfl dX8_eye_67 (by simp only [eyeF, h1d, h2d, h3, decide_true, decide_false, Bool.not_true, Bool.not_false, Bool.true_and, Bool.false_and, Bool.and_true, Bool.and_false, Bool.true_or, Bool.or_true, Bool.false_or, Bool.or_false, Bool.and_self, Bool.or_self, bI_t, bI_f, if_true, if_false, ite_true, ite_false, Bool.false_eq_true, Bool.true_eq_false, eq_self, reduceIte, true_or, or_true, false_or, or_false, and_true, true_and, and_false, false_and, not_true_eq_false, not_false_eq_true, decide_eq_true_eq, decide_eq_false_iff_not])
      · replace h3 := bI_n.mp h3
        refine i_aload_n B 0 dX8_eye_47 rfl ?_
        refine i_get (v := .ref (q 41)) B flX8_10 0 rfl rfl dX8_eye_48 ?_
        refine i_get (v := .int (g 7)) B flX8_79 1 rfl rfl dX8_eye_51 ?_
        refine i_istore_n B [(3, .int (g 7)), (0, .ref (q 40)), (1, .int what), (2, .int v)] dX8_eye_54 (by decide) rfl ?_
        refine i_aload_n B 1 dX8_eye_55 rfl ?_
        refine i_get (v := .ref (q 41)) B flX8_10 0 rfl rfl dX8_eye_56 ?_
        refine i_iload_n B 3 dX8_eye_59 rfl ?_
        refine i_put B flX8_79 1 (cW E q (upd g 7 v) a s t RV X) rfl rfl rfl rfl (Nat.le_of_ble_eq_true rfl) rfl dX8_eye_60 ?_
        refine i_iload_n B 0 dX8_eye_63 rfl ?_
        exact ret _ _ _ (upd g 7 v) rfl dX8_eye_64 (by simp only [eyeF, h1d, h2d, h3, decide_true, decide_false, Bool.not_true, Bool.not_false, Bool.true_and, Bool.false_and, Bool.and_true, Bool.and_false, Bool.true_or, Bool.or_true, Bool.false_or, Bool.or_false, Bool.and_self, Bool.or_self, bI_t, bI_f, if_true, if_false, ite_true, ite_false, Bool.false_eq_true, Bool.true_eq_false, eq_self, reduceIte, true_or, or_true, false_or, or_false, and_true, true_and, and_false, false_and, not_true_eq_false, not_false_eq_true, decide_eq_true_eq, decide_eq_false_iff_not])
  · have h1d := decide_eq_true h1
    refine i_iload_n B 2 dX8_eye_4 rfl ?_
    refine i_iconst (v := 1) B dX8_eye_5 (by decide) ?_
    refine i_bipush (v := 90) B dX8_eye_6 (by decide) ?_
    refine c_roS (rest := []) (As := [.int v, .int 1, .int 90]) B (k_X8_isWithin l E v 1 90) cal_yX8_isWithin is_yX8_isWithin mlX8_72 (by decide) (by decide) rfl (Nat.le_of_ble_eq_true rfl) Has.nil _ rfl dX8_eye_8 (fun r hr => ?_)
    subst hr
    refine i_val (v' := .int (bI (wit v 1 90))) rfl ?_
    refine i_if_eq B 32 dX8_eye_11 (by decide) (fun h4 => ?_) (fun h4 => ?_)
    · replace h4 := bI_0.mp h4
      refine i_iload_n B 1 dX8_eye_32 rfl ?_
      refine i_iconst (v := 1) B dX8_eye_33 (by decide) ?_
      refine i_icmp_ne B 65 dX8_eye_34 (by decide) (fun h5 => ?_) (fun h5 => ?_)
      · have h5d := decide_eq_false h5
        refine i_bipush (v := (-2)) B dX8_eye_65 (by decide) ?_
        exact ret _ _ _ g rfl dX8_eye_67 (by have e2 : decide (what = 1) = false := (by rw [h1]; decide); simp only [eyeF, h1d, h4, h5d, e2, decide_true, decide_false, Bool.not_true, Bool.not_false, Bool.true_and, Bool.false_and, Bool.and_true, Bool.and_false, Bool.true_or, Bool.or_true, Bool.false_or, Bool.or_false, Bool.and_self, Bool.or_self, bI_t, bI_f, if_true, if_false, ite_true, ite_false, Bool.false_eq_true, Bool.true_eq_false, eq_self, reduceIte, true_or, or_true, false_or, or_false, and_true, true_and, and_false, false_and, not_true_eq_false, not_false_eq_true, decide_eq_true_eq, decide_eq_false_iff_not])
      · have h5d := decide_eq_true h5
        refine i_iload_n B 2 dX8_eye_37 rfl ?_
        refine i_iconst (v := 0) B dX8_eye_38 (by decide) ?_
        refine i_bipush (v := 100) B dX8_eye_39 (by decide) ?_
        refine c_roS (rest := []) (As := [.int v, .int 0, .int 100]) B (k_X8_isWithin l E v 0 100) cal_yX8_isWithin is_yX8_isWithin mlX8_72 (by decide) (by decide) rfl (Nat.le_of_ble_eq_true rfl) Has.nil _ rfl dX8_eye_41 (fun r hr => ?_)
        subst hr
        refine i_val (v' := .int (bI (wit v 0 100))) rfl ?_
        refine i_if_eq B 65 dX8_eye_44 (by decide) (fun h6 => ?_) (fun h6 => ?_)
        · replace h6 := bI_0.mp h6
          refine i_bipush (v := (-2)) B dX8_eye_65 (by decide) ?_
          exact ret _ _ _ g rfl dX8_eye_67 (by have e2 : decide (what = 1) = false := (by rw [h1]; decide); simp only [eyeF, h1d, h4, h5d, h6, e2, decide_true, decide_false, Bool.not_true, Bool.not_false, Bool.true_and, Bool.false_and, Bool.and_true, Bool.and_false, Bool.true_or, Bool.or_true, Bool.false_or, Bool.or_false, Bool.and_self, Bool.or_self, bI_t, bI_f, if_true, if_false, ite_true, ite_false, Bool.false_eq_true, Bool.true_eq_false, eq_self, reduceIte, true_or, or_true, false_or, or_false, and_true, true_and, and_false, false_and, not_true_eq_false, not_false_eq_true, decide_eq_true_eq, decide_eq_false_iff_not])
        · replace h6 := bI_n.mp h6
          refine i_aload_n B 0 dX8_eye_47 rfl ?_
          refine i_get (v := .ref (q 41)) B flX8_10 0 rfl rfl dX8_eye_48 ?_
          refine i_get (v := .int (g 7)) B flX8_79 1 rfl rfl dX8_eye_51 ?_
          refine i_istore_n B [(3, .int (g 7)), (0, .ref (q 40)), (1, .int what), (2, .int v)] dX8_eye_54 (by decide) rfl ?_
          refine i_aload_n B 1 dX8_eye_55 rfl ?_
          refine i_get (v := .ref (q 41)) B flX8_10 0 rfl rfl dX8_eye_56 ?_
          refine i_iload_n B 3 dX8_eye_59 rfl ?_
          refine i_put B flX8_79 1 (cW E q (upd g 7 v) a s t RV X) rfl rfl rfl rfl (Nat.le_of_ble_eq_true rfl) rfl dX8_eye_60 ?_
          refine i_iload_n B 0 dX8_eye_63 rfl ?_
          exact ret _ _ _ (upd g 7 v) rfl dX8_eye_64 (by have e2 : decide (what = 1) = false := (by rw [h1]; decide); simp only [eyeF, h1d, h4, h5d, h6, e2, decide_true, decide_false, Bool.not_true, Bool.not_false, Bool.true_and, Bool.false_and, Bool.and_true, Bool.and_false, Bool.true_or, Bool.or_true, Bool.false_or, Bool.or_false, Bool.and_self, Bool.or_self, bI_t, bI_f, if_true, if_false, ite_true, ite_false, Bool.false_eq_true, Bool.true_eq_false, eq_self, reduceIte, true_or, or_true, false_or, or_false, and_true, true_and, and_false, false_and, not_true_eq_false, not_false_eq_true, decide_eq_true_eq, decide_eq_false_iff_not])
    · replace h4 := bI_n.mp h4
      refine i_aload_n B 0 dX8_eye_14 rfl ?_
      refine i_get (v := .ref (q 41)) B flX8_10 0 rfl rfl dX8_eye_15 ?_
      refine i_get (v := .int (g 6)) B flX8_76 1 rfl rfl dX8_eye_18 ?_
      refine i_istore_n B [(3, .int (g 6)), (0, .ref (q 40)), (1, .int what), (2, .int v)] dX8_eye_21 (by decide) rfl ?_
      refine i_aload_n B 1 dX8_eye_22 rfl ?_
      refine i_get (v := .ref (q 41)) B flX8_10 0 rfl rfl dX8_eye_23 ?_
      refine i_iload_n B 3 dX8_eye_26 rfl ?_
      refine i_put B flX8_76 1 (cW E q (upd g 6 v) a s t RV X) rfl rfl rfl rfl (Nat.le_of_ble_eq_true rfl) rfl dX8_eye_27 ?_
      refine i_iload_n B 0 dX8_eye_30 rfl ?_
      exact ret _ _ _ (upd g 6 v) rfl dX8_eye_31 (by have e2 : decide (what = 1) = false := (by rw [h1]; decide); simp only [eyeF, h1d, h4, e2, decide_true, decide_false, Bool.not_true, Bool.not_false, Bool.true_and, Bool.false_and, Bool.and_true, Bool.and_false, Bool.true_or, Bool.or_true, Bool.false_or, Bool.or_false, Bool.and_self, Bool.or_self, bI_t, bI_f, if_true, if_false, ite_true, ite_false, Bool.false_eq_true, Bool.true_eq_false, eq_self, reduceIte, true_or, or_true, false_or, or_false, and_true, true_and, and_false, false_and, not_true_eq_false, not_false_eq_true, decide_eq_true_eq, decide_eq_false_iff_not])

set_option maxHeartbeats 4000000 in
set_option maxRecDepth 100000 in
theorem k_X8_view (l : Launch) (E : ED) (q : Nat → Nat) (g : Nat → Int32) (a : Nat → Nat → Int32) (s : Nat → Int32) (t : Nat → Nat → Int32) (RV : Value) (X : va_W) (nv : Nat) (hv : g 8 = nI nv) (hnv : nv ≤ 10) (x y : Int32) : WR l E yX8_view cX8_view 3 .int 2 43 0 0 [.ref (q 40), .int x, .int y] (cW E q g a s t RV X) (fun r u => (r, u) = viewF g a nv x y) (fun u : GA => cW E q u.1 u.2 s t RV X) := by
  refine WR.mk (by decide) (Nat.le_of_ble_eq_true rfl) [(0, .ref (q 40)), (1, .int x), (2, .int y)] rfl (fun Z B ret => ?_)
  refine i_iload_n B 1 dX8_view_0 rfl ?_
  refine i_iload_n B 2 dX8_view_1 rfl ?_
  refine c_roS (rest := []) (As := [.int x, .int y]) B (k_X8_isPoint l E x y) cal_yX8_isPoint is_yX8_isPoint mlX8_60 (by decide) (by decide) rfl (Nat.le_of_ble_eq_true rfl) Has.nil _ rfl dX8_view_2 (fun r hr => ?_)
  subst hr
  refine i_val (v' := .int (bI (pt x y))) rfl ?_
  refine i_if_ne B 11 dX8_view_5 (by decide) (fun h1 => ?_) (fun h1 => ?_)
  · replace h1 := bI_n.mp h1
    refine i_aload_n B 0 dX8_view_11 rfl ?_
    refine i_get (v := .ref (q 42)) B flX8_21 0 rfl rfl dX8_view_12 ?_
    refine i_get (v := .int (g 8)) B flX8_82 6 rfl rfl dX8_view_15 ?_
    refine i_bipush (v := 10) B dX8_view_18 (by decide) ?_
    refine i_icmp_lt B 26 dX8_view_20 (by decide) (fun h2 => ?_) (fun h2 => ?_)
    · rw [hv, show (10 : Int32) = nI 10 from rfl, nI_ltI (by omega) (by omega)] at h2
      refine i_aload_n B 0 dX8_view_26 rfl ?_
      refine i_get (v := .ref (q 42)) B flX8_21 0 rfl rfl dX8_view_27 ?_
      refine i_iload_n B 1 dX8_view_30 rfl ?_
      refine i_iload_n B 2 dX8_view_31 rfl ?_
      refine c_wiV (cells := 0) (slots := 0) (rest := []) (As := [.int x, .int y]) B (k_X5_add l E (q 42) (q 9) (q 10) 10 nv (g 8) hv (a 9) (a 10) (by omega) (by decide) x y) cal_yX5_add iv_yX5_add mlX8_83 rfl 6 rfl (by decide) (by decide) rfl (Nat.le_of_ble_eq_true rfl) ([((q 40), .inr (8, [.ref (q 41), .ref (q 42), .ref (q 43), .ref (q 44), .ref (q 45), .ref (q 46), .ref (q 48), RV])), ((q 41), .inr (7, [.ref (q 2), .ref (q 3), .ref (q 4), .ref (q 5), .int (g 1), .int (g 6), .int (g 7)])), ((q 2), .inl (E.2.1, 12, .inl (a 2))), ((q 3), .inl (E.2.1, 12, .inl (a 3))), ((q 4), .inl (E.2.1, 12, .inl (a 4))), ((q 5), .inl (E.2.1, 12, .inl (a 5)))]) ([((q 43), .inr (3, [.ref (q 50), .int (s 60)])), ((q 50), .inl (E.2.1, 12, .inl (t 50))), ((q 44), .inr (0, [.ref (q 12), .ref (q 13), .ref (q 14), .ref (q 15), .int (g 11), .int (g 16), .int (g 17)])), ((q 12), .inl (E.2.1, 4, .inl (a 12))), ((q 13), .inl (E.2.1, 4, .inl (a 13))), ((q 14), .inl (E.2.1, 4, .inl (a 14))), ((q 15), .inl (E.2.1, 4, .inl (a 15))), ((q 45), .inr (1, [.int (g 90), .int (g 91), .int (g 18), .int (g 19)])), ((q 46), .inr (2, [.ref (q 47), .ref (q 23)])), ((q 47), .inr (5, [.ref (q 21), .ref (q 22), .int (g 20)])), ((q 21), .inl (E.2.1, 20, .inl (a 21))), ((q 22), .inl (E.2.1, 20, .inl (a 22))), ((q 23), .inl (E.2.1, 20, .inl (a 23))), ((q 48), .inr (4, [.ref (q 25), .ref (q 26), .ref (q 27), .ref (q 28), .ref (q 29), .int (g 24), .ref (q 51), .ref (q 52), .ref (q 53), .int (s 61), .int (s 62)])), ((q 25), .inl (E.2.1, 40, .inl (a 25))), ((q 26), .inl (E.2.1, 40, .inl (a 26))), ((q 27), .inl (E.2.1, 40, .inl (a 27))), ((q 28), .inl (E.2.1, 40, .inl (a 28))), ((q 29), .inl (E.2.2, 40, .inl (a 29))), ((q 51), .inl (E.2.1, 40, .inl (t 51))), ((q 52), .inl (E.2.1, 40, .inl (t 52))), ((q 53), .inl (E.2.1, 41, .inl (t 53)))] ++ X) rfl _ rfl dX8_view_32 (fun r _ hr => ?_)
      subst hr
      refine i_world (ws' := (cW E q (upd g 8 (nI (nv + 1))) (va_up (va_up a 9 (upd (a 9) nv x)) 10 (upd (a 10) nv y)) s t RV X)) rfl ?_
      exact ret _ _ _ ((upd g 8 (nI (nv + 1))), (va_up (va_up a 9 (upd (a 9) nv x)) 10 (upd (a 10) nv y))) rfl dX8_view_35 (by have e9 : decide (nv = 10) = false := decide_eq_false (by omega); simp only [viewF, h1, h2, e9, decide_true, decide_false, Bool.not_true, Bool.not_false, Bool.true_and, Bool.false_and, Bool.and_true, Bool.and_false, Bool.true_or, Bool.or_true, Bool.false_or, Bool.or_false, Bool.and_self, Bool.or_self, bI_t, bI_f, if_true, if_false, ite_true, ite_false, Bool.false_eq_true, Bool.true_eq_false, eq_self, reduceIte, true_or, or_true, false_or, or_false, and_true, true_and, and_false, false_and, not_true_eq_false, not_false_eq_true, decide_eq_true_eq, decide_eq_false_iff_not])
    · rw [hv, show (10 : Int32) = nI 10 from rfl, nI_ltI (by omega) (by omega)] at h2
      refine i_bipush (v := (-4)) B dX8_view_23 (by decide) ?_
      exact ret _ _ _ (g, a) rfl dX8_view_25 (by have e9 : decide (nv = 10) = true := decide_eq_true (by omega); simp only [viewF, h1, h2, e9, decide_true, decide_false, Bool.not_true, Bool.not_false, Bool.true_and, Bool.false_and, Bool.and_true, Bool.and_false, Bool.true_or, Bool.or_true, Bool.false_or, Bool.or_false, Bool.and_self, Bool.or_self, bI_t, bI_f, if_true, if_false, ite_true, ite_false, Bool.false_eq_true, Bool.true_eq_false, eq_self, reduceIte, true_or, or_true, false_or, or_false, and_true, true_and, and_false, false_and, not_true_eq_false, not_false_eq_true, decide_eq_true_eq, decide_eq_false_iff_not])
  · replace h1 := bI_0.mp h1
    refine i_bipush (v := (-2)) B dX8_view_8 (by decide) ?_
    exact ret _ _ _ (g, a) rfl dX8_view_10 (by simp only [viewF, h1, decide_true, decide_false, Bool.not_true, Bool.not_false, Bool.true_and, Bool.false_and, Bool.and_true, Bool.and_false, Bool.true_or, Bool.or_true, Bool.false_or, Bool.or_false, Bool.and_self, Bool.or_self, bI_t, bI_f, if_true, if_false, ite_true, ite_false, Bool.false_eq_true, Bool.true_eq_false, eq_self, reduceIte, true_or, or_true, false_or, or_false, and_true, true_and, and_false, false_and, not_true_eq_false, not_false_eq_true, decide_eq_true_eq, decide_eq_false_iff_not])

set_option maxHeartbeats 4000000 in
set_option maxRecDepth 100000 in
theorem k_X8_seen (l : Launch) (E : ED) (q : Nat → Nat) (g : Nat → Int32) (a : Nat → Nat → Int32) (s : Nat → Int32) (t : Nat → Nat → Int32) (RV : Value) (X : va_W) (np : Nat) (hn : g 1 = nI np) (hnp : np ≤ 12) (hve : VEq g a np) (x y p : Int32) : RO l E yX8_seen cX8_seen 4 .int 4 107 [.ref (q 40), .int x, .int y, .int p] (cW E q g a s t RV X) (fun r => r = senF g a np x y p) := by
  refine RO.mk (by decide) (Nat.le_of_ble_eq_true rfl) [(0, .ref (q 40)), (1, .int x), (2, .int y), (3, .int p)] rfl (fun Z B ret => ?_)
  refine i_iload_n B 1 dX8_seen_0 rfl ?_
  refine i_iload_n B 2 dX8_seen_1 rfl ?_
  refine c_roS (rest := []) (As := [.int x, .int y]) B (k_X8_isPoint l E x y) cal_yX8_isPoint is_yX8_isPoint mlX8_60 (by decide) (by decide) rfl (Nat.le_of_ble_eq_true rfl) Has.nil _ rfl dX8_seen_2 (fun r hr => ?_)
  subst hr
  refine i_val (v' := .int (bI (pt x y))) rfl ?_
  refine i_if_ne B 11 dX8_seen_5 (by decide) (fun h1 => ?_) (fun h1 => ?_)
  · replace h1 := bI_n.mp h1
    refine i_aload_n B 0 dX8_seen_11 rfl ?_
    refine i_iload_n B 3 dX8_seen_12 rfl ?_
    refine c_roV (rest := []) (As := [.int p]) B (k_X8_isPanel l E q g a s t RV X np hn hnp p) cal_yX8_isPanel iv_yX8_isPanel mlX8_86 rfl 0 rfl (by decide) (by decide) rfl (Nat.le_of_ble_eq_true rfl) Has.rf _ rfl dX8_seen_13 (fun r hr => ?_)
    subst hr
    refine i_val (v' := .int (bI (wit p 0 ((g 1) - 1)))) rfl ?_
    refine i_if_ne B 21 dX8_seen_16 (by decide) (fun h2 => ?_) (fun h2 => ?_)
    · replace h2 := bI_n.mp h2
      obtain ⟨j, hj, rfl⟩ := wit_ix (n := np) (by omega) (by rw [← hn]; exact h2)
      refine i_aload_n B 0 dX8_seen_21 rfl ?_
      refine i_get (v := .ref (q 41)) B flX8_10 0 rfl rfl dX8_seen_22 ?_
      refine i_iload_n B 1 dX8_seen_25 rfl ?_
      refine i_iload_n B 2 dX8_seen_26 rfl ?_
      refine i_iload_n B 3 dX8_seen_27 rfl ?_
      refine c_roV (rest := []) (As := [.int x, .int y, .int (nI j)]) B (k_vis l E q g a np hn hnp hve j (by omega) x y (pt_in h1).1 (pt_in h1).2) cal_yX7_isVisible iv_yX7_isVisible mlX8_90 rfl 1 rfl (by decide) (by decide) rfl (Nat.le_of_ble_eq_true rfl) (Has.of [1, 2, 3, 4, 5] rfl rfl) _ rfl dX8_seen_28 (fun r hr => ?_)
      subst hr
      refine i_val (v' := .int (bI (sn g a np x y j))) rfl ?_
      refine c_roS (rest := []) (As := [.int (bI (sn g a np x y j))]) B (k_X8_asNumber l E (bI (sn g a np x y j))) cal_yX8_asNumber is_yX8_asNumber mlX8_93 (by decide) (by decide) rfl (Nat.le_of_ble_eq_true rfl) Has.nil _ rfl dX8_seen_31 (fun r hr => ?_)
      subst hr
      refine i_val (v' := .int (bI (sn g a np x y j))) (congrArg Value.int (asn_bI _)) ?_
      exact ret _ _ _ rfl dX8_seen_34 (by simp only [senF, ix_nI (show j < 2 ^ 31 by omega), h1, h2, decide_true, decide_false, Bool.not_true, Bool.not_false, Bool.true_and, Bool.false_and, Bool.and_true, Bool.and_false, Bool.true_or, Bool.or_true, Bool.false_or, Bool.or_false, Bool.and_self, Bool.or_self, bI_t, bI_f, if_true, if_false, ite_true, ite_false, Bool.false_eq_true, Bool.true_eq_false, eq_self, reduceIte, true_or, or_true, false_or, or_false, and_true, true_and, and_false, false_and, not_true_eq_false, not_false_eq_true, decide_eq_true_eq, decide_eq_false_iff_not])
    · replace h2 := bI_0.mp h2
      refine i_iconst (v := (-1)) B dX8_seen_19 (by decide) ?_
      exact ret _ _ _ rfl dX8_seen_20 (by simp only [senF, h1, h2, decide_true, decide_false, Bool.not_true, Bool.not_false, Bool.true_and, Bool.false_and, Bool.and_true, Bool.and_false, Bool.true_or, Bool.or_true, Bool.false_or, Bool.or_false, Bool.and_self, Bool.or_self, bI_t, bI_f, if_true, if_false, ite_true, ite_false, Bool.false_eq_true, Bool.true_eq_false, eq_self, reduceIte, true_or, or_true, false_or, or_false, and_true, true_and, and_false, false_and, not_true_eq_false, not_false_eq_true, decide_eq_true_eq, decide_eq_false_iff_not])
  · replace h1 := bI_0.mp h1
    refine i_bipush (v := (-2)) B dX8_seen_8 (by decide) ?_
    exact ret _ _ _ rfl dX8_seen_10 (by simp only [senF, h1, decide_true, decide_false, Bool.not_true, Bool.not_false, Bool.true_and, Bool.false_and, Bool.and_true, Bool.and_false, Bool.true_or, Bool.or_true, Bool.false_or, Bool.or_false, Bool.and_self, Bool.or_self, bI_t, bI_f, if_true, if_false, ite_true, ite_false, Bool.false_eq_true, Bool.true_eq_false, eq_self, reduceIte, true_or, or_true, false_or, or_false, and_true, true_and, and_false, false_and, not_true_eq_false, not_false_eq_true, decide_eq_true_eq, decide_eq_false_iff_not])

set_option maxHeartbeats 4000000 in
set_option maxRecDepth 100000 in
theorem k_X8_sees (l : Launch) (E : ED) (q : Nat → Nat) (g : Nat → Int32) (a : Nat → Nat → Int32) (s : Nat → Int32) (t : Nat → Nat → Int32) (RV : Value) (X : va_W) (np : Nat) (hn : g 1 = nI np) (hnp : np ≤ 12) (nv : Nat) (hv : g 8 = nI nv) (hnv : nv ≤ 10) (hve : VEq g a np) (hpv : ∀ v, v < nv → pt (a 9 v) (a 10 v) = true) (v : Int32) : RO l E yX8_sees cX8_sees 2 .int 5 131 [.ref (q 40), .int v] (cW E q g a s t RV X) (fun r => r = sesF g a np v) := by
  refine RO.mk (by decide) (Nat.le_of_ble_eq_true rfl) [(0, .ref (q 40)), (1, .int v)] rfl (fun Z B ret => ?_)
  refine i_iload_n B 1 dX8_sees_0 rfl ?_
  refine i_if_lt B 15 dX8_sees_1 (by decide) (fun h1 => ?_) (fun h1 => ?_)
  · refine i_iconst (v := (-1)) B dX8_sees_15 (by decide) ?_
    exact ret _ _ _ rfl dX8_sees_16 (by rw [sesF, hv, wit_lo h1]; rfl)
  · refine i_iload_n B 1 dX8_sees_4 rfl ?_
    refine i_aload_n B 0 dX8_sees_5 rfl ?_
    refine i_get (v := .ref (q 42)) B flX8_21 0 rfl rfl dX8_sees_6 ?_
    refine i_get (v := .int (g 8)) B flX8_82 6 rfl rfl dX8_sees_9 ?_
    refine i_icmp_lt B 17 dX8_sees_12 (by decide) (fun h2 => ?_) (fun h2 => ?_)
    · rw [hv] at h2
      obtain ⟨j, hj, rfl⟩ := lt_ix (n := nv) (by omega) h1 h2
      refine i_aload_n B 0 dX8_sees_17 rfl ?_
      refine i_get (v := .ref (q 41)) B flX8_10 0 rfl rfl dX8_sees_18 ?_
      refine i_aload_n B 0 dX8_sees_21 rfl ?_
      refine i_get (v := .ref (q 42)) B flX8_21 0 rfl rfl dX8_sees_22 ?_
      refine i_get (v := .ref (q 9)) B flX8_97 6 rfl rfl dX8_sees_25 ?_
      refine i_iload_n B 1 dX8_sees_28 rfl ?_
      refine i_ialdN B 7 j rfl rfl (by omega) (by decide) dX8_sees_29 ?_
      refine i_aload_n B 0 dX8_sees_30 rfl ?_
      refine i_get (v := .ref (q 42)) B flX8_21 0 rfl rfl dX8_sees_31 ?_
      refine i_get (v := .ref (q 10)) B flX8_101 6 rfl rfl dX8_sees_34 ?_
      refine i_iload_n B 1 dX8_sees_37 rfl ?_
      refine i_ialdN B 8 j rfl rfl (by omega) (by decide) dX8_sees_38 ?_
      refine c_roV (rest := []) (As := [.int ((a 9) j), .int ((a 10) j)]) B (k_X7_visibleFrom l E q g a np hn hnp hve ((a 9) j) ((a 10) j) (pt_in (hpv j (by omega))).1 (pt_in (hpv j (by omega))).2) cal_yX7_visibleFrom iv_yX7_visibleFrom mlX8_104 rfl 1 rfl (by decide) (by decide) rfl (Nat.le_of_ble_eq_true rfl) (Has.of [1, 2, 3, 4, 5] rfl rfl) _ rfl dX8_sees_39 (fun r hr => ?_)
      subst hr
      refine i_val (v' := .int (seb2 g a np ((a 9) j) ((a 10) j) np)) rfl ?_
      exact ret _ _ _ rfl dX8_sees_42 (by rw [sesF, hv, ix_wit (by omega) hj, ix_nI (by omega), ← seb2_eq]; rfl)
    · rw [hv] at h2
      refine i_iconst (v := (-1)) B dX8_sees_15 (by decide) ?_
      exact ret _ _ _ rfl dX8_sees_16 (by rw [sesF, hv, wit_hi (by omega) h1 h2]; rfl)

def wts (g : Nat → Int32) (a : Nat → Nat → Int32) (np nv : Nat) : Nat → Int32 := fun p => wtf g a np p nv
theorem wtr_at {g : Nat → Int32} {a : Nat → Nat → Int32} {np nv : Nat} {w : Nat → Int32} {k j : Nat} (h : j < k) : wtr g a np nv w k j = wtf g a np j nv := by
  induction k with
  | zero => omega
  | succ k ih =>
    rw [wtr]
    by_cases e : j = k
    · subst e; exact pk_us
    · rw [pk_un e]; exact ih (by omega)
theorem lts_cg {w w' : Nat → Int32} {x : Int32} {k : Nat} (h : ∀ j, j < k → w j = w' j) : lts w x k = lts w' x k := by
  induction k with
  | zero => rfl
  | succ k ih => rw [lts, lts, ih (fun j hj => h j (by omega)), h k (by omega)]
theorem lts_wt (g : Nat → Int32) (a : Nat → Nat → Int32) (np nv : Nat) (w : Nat → Int32) (x : Int32) : lts (wtr g a np nv w np) x np = lts (wts g a np nv) x np := lts_cg (fun _ h => wtr_at h)
theorem scv_wt (g : Nat → Int32) (a : Nat → Nat → Int32) (np nv : Nat) (w : Nat → Int32) (k : Int32) (N : Nat) : scv (wtr g a np nv w np) np k N = scv (wts g a np nv) np k N := by
  induction N with
  | zero => rfl
  | succ N ih => rw [scv, scv, ih, lts_wt]
def covC (g : Nat → Int32) (a : Nat → Nat → Int32) (np nv : Nat) (k : Int32) : Int32 := if (!wit k 1 3) = true then -2 else (scv (wts g a np nv) np k (2 ^ nv)).1
def covsC (g : Nat → Int32) (a : Nat → Nat → Int32) (np nv : Nat) (x k : Int32) : Int32 := if nset (g 8) x = true then -1 else if (!wit k 1 3) = true then -2 else bI (!decide (lts (wts g a np nv) x np < k))
def timC (g : Nat → Int32) (a : Nat → Nat → Int32) (np nv : Nat) (x : Int32) : Int32 := if nset (g 8) x = true then -1 else if decide (np = 0) = true then -9 else lts (wts g a np nv) x np

set_option maxHeartbeats 4000000 in
set_option maxRecDepth 100000 in
theorem k_X8_cover (l : Launch) (E : ED) (q : Nat → Nat) (g : Nat → Int32) (a : Nat → Nat → Int32) (s : Nat → Int32) (t : Nat → Nat → Int32) (RV : Value) (X : va_W) (np : Nat) (hn : g 1 = nI np) (hnp : np ≤ 12) (nv : Nat) (hv : g 8 = nI nv) (hnv : nv ≤ 10) (hve : VEq g a np) (hpv : ∀ v, v < nv → pt (a 9 v) (a 10 v) = true) (k : Int32) : WR l E yX8_cover cX8_cover 2 .int 5 132 0 0 [.ref (q 40), .int k] (cW E q g a s t RV X) (fun r (_ : Int32 × (Nat → Int32)) => r = covC g a np nv k) (fun u : Int32 × (Nat → Int32) => cW E q g a (upd s 60 u.1) (va_up t 50 u.2) RV X) := by
  refine WR.mk (by decide) (Nat.le_of_ble_eq_true rfl) [(0, .ref (q 40)), (1, .int k)] rfl (fun Z B ret => ?_)
  refine i_iload_n B 1 dX8_cover_0 rfl ?_
  refine i_iconst (v := 1) B dX8_cover_1 (by decide) ?_
  refine i_iconst (v := 3) B dX8_cover_2 (by decide) ?_
  refine c_roS (rest := []) (As := [.int k, .int 1, .int 3]) B (k_X8_isWithin l E k 1 3) cal_yX8_isWithin is_yX8_isWithin mlX8_72 (by decide) (by decide) rfl (Nat.le_of_ble_eq_true rfl) Has.nil _ rfl dX8_cover_3 (fun r hr => ?_)
  subst hr
  refine i_val (v' := .int (bI (wit k 1 3))) rfl ?_
  refine i_if_ne B 12 dX8_cover_6 (by decide) (fun h1 => ?_) (fun h1 => ?_)
  · replace h1 := bI_n.mp h1
    refine i_aload_n B 0 dX8_cover_12 rfl ?_
    refine i_get (v := .ref (q 43)) B flX8_28 0 rfl rfl dX8_cover_13 ?_
    refine i_aload_n B 0 dX8_cover_16 rfl ?_
    refine i_get (v := .ref (q 41)) B flX8_10 0 rfl rfl dX8_cover_17 ?_
    refine i_aload_n B 0 dX8_cover_20 rfl ?_
    refine i_get (v := .ref (q 42)) B flX8_21 0 rfl rfl dX8_cover_21 ?_
    refine c_wvV (cells := 0) (slots := 0) (rest := []) (As := [.ref (q 41), .ref (q 42)]) B (k_X3_watch l E q g a s t np hn hnp nv hv hnv hve hpv) cal_yX3_watch iv_yX3_watch mlX8_107 rfl 9 rfl (by decide) (by decide) rfl (Nat.le_of_ble_eq_true rfl) ([((q 40), .inr (8, [.ref (q 41), .ref (q 42), .ref (q 43), .ref (q 44), .ref (q 45), .ref (q 46), .ref (q 48), RV]))]) ([((q 44), .inr (0, [.ref (q 12), .ref (q 13), .ref (q 14), .ref (q 15), .int (g 11), .int (g 16), .int (g 17)])), ((q 12), .inl (E.2.1, 4, .inl (a 12))), ((q 13), .inl (E.2.1, 4, .inl (a 13))), ((q 14), .inl (E.2.1, 4, .inl (a 14))), ((q 15), .inl (E.2.1, 4, .inl (a 15))), ((q 45), .inr (1, [.int (g 90), .int (g 91), .int (g 18), .int (g 19)])), ((q 46), .inr (2, [.ref (q 47), .ref (q 23)])), ((q 47), .inr (5, [.ref (q 21), .ref (q 22), .int (g 20)])), ((q 21), .inl (E.2.1, 20, .inl (a 21))), ((q 22), .inl (E.2.1, 20, .inl (a 22))), ((q 23), .inl (E.2.1, 20, .inl (a 23))), ((q 48), .inr (4, [.ref (q 25), .ref (q 26), .ref (q 27), .ref (q 28), .ref (q 29), .int (g 24), .ref (q 51), .ref (q 52), .ref (q 53), .int (s 61), .int (s 62)])), ((q 25), .inl (E.2.1, 40, .inl (a 25))), ((q 26), .inl (E.2.1, 40, .inl (a 26))), ((q 27), .inl (E.2.1, 40, .inl (a 27))), ((q 28), .inl (E.2.1, 40, .inl (a 28))), ((q 29), .inl (E.2.2, 40, .inl (a 29))), ((q 51), .inl (E.2.1, 40, .inl (t 51))), ((q 52), .inl (E.2.1, 40, .inl (t 52))), ((q 53), .inl (E.2.1, 41, .inl (t 53)))] ++ X) rfl _ rfl dX8_cover_24 (fun _ hr => ?_)
    refine i_world (ws' := (cW E q g a (upd s 60 (g 1)) (va_up t 50 (wtr g a np nv (t 50) np)) RV X)) rfl ?_
    refine i_aload_n B 0 dX8_cover_27 rfl ?_
    refine i_get (v := .ref (q 43)) B flX8_28 0 rfl rfl dX8_cover_28 ?_
    refine i_iload_n B 1 dX8_cover_31 rfl ?_
    refine i_iconst (v := 1) B dX8_cover_32 (by decide) ?_
    refine i_aload_n B 0 dX8_cover_33 rfl ?_
    refine i_get (v := .ref (q 42)) B flX8_21 0 rfl rfl dX8_cover_34 ?_
    refine i_get (v := .int (g 8)) B flX8_82 6 rfl rfl dX8_cover_37 ?_
    refine i_ishl B dX8_cover_40 ?_
    refine i_val (v' := .int (nI (2 ^ nv))) (congrArg Value.int (by rw [hv]; exact shl1 nv hnv)) ?_
    refine c_roV (rest := []) (As := [.int k, .int (nI (2 ^ nv))]) B (k_X3_smallestCover l E q (upd s 60 (g 1)) (va_up t 50 (wtr g a np nv (t 50) np)) np hn hnp k (2 ^ nv) (pow_le nv hnv)) cal_yX3_smallestCover iv_yX3_smallestCover mlX8_111 rfl 9 rfl (by decide) (by decide) rfl (Nat.le_of_ble_eq_true rfl) (Has.of [9, 10] rfl rfl) _ rfl dX8_cover_41 (fun r hr => ?_)
    subst hr
    refine i_val (v' := .int (scv (wtr g a np nv (t 50) np) np k (2 ^ nv)).1) rfl ?_
    exact ret _ _ _ ((g 1), (wtr g a np nv (t 50) np)) rfl dX8_cover_44 (by simp only [covC, scv_wt, h1, decide_true, decide_false, Bool.not_true, Bool.not_false, Bool.true_and, Bool.false_and, Bool.and_true, Bool.and_false, Bool.true_or, Bool.or_true, Bool.false_or, Bool.or_false, Bool.and_self, Bool.or_self, bI_t, bI_f, if_true, if_false, ite_true, ite_false, Bool.false_eq_true, Bool.true_eq_false, eq_self, reduceIte, true_or, or_true, false_or, or_false, and_true, true_and, and_false, false_and, not_true_eq_false, not_false_eq_true, decide_eq_true_eq, decide_eq_false_iff_not])
  · replace h1 := bI_0.mp h1
    refine i_bipush (v := (-2)) B dX8_cover_9 (by decide) ?_
    exact ret _ _ _ ((s 60), (t 50)) rfl dX8_cover_11 (by simp only [covC, scv_wt, h1, decide_true, decide_false, Bool.not_true, Bool.not_false, Bool.true_and, Bool.false_and, Bool.and_true, Bool.and_false, Bool.true_or, Bool.or_true, Bool.false_or, Bool.or_false, Bool.and_self, Bool.or_self, bI_t, bI_f, if_true, if_false, ite_true, ite_false, Bool.false_eq_true, Bool.true_eq_false, eq_self, reduceIte, true_or, or_true, false_or, or_false, and_true, true_and, and_false, false_and, not_true_eq_false, not_false_eq_true, decide_eq_true_eq, decide_eq_false_iff_not])

set_option maxHeartbeats 4000000 in
set_option maxRecDepth 100000 in
theorem k_X8_covers (l : Launch) (E : ED) (q : Nat → Nat) (g : Nat → Int32) (a : Nat → Nat → Int32) (s : Nat → Int32) (t : Nat → Nat → Int32) (RV : Value) (X : va_W) (np : Nat) (hn : g 1 = nI np) (hnp : np ≤ 12) (nv : Nat) (hv : g 8 = nI nv) (hnv : nv ≤ 10) (hve : VEq g a np) (hpv : ∀ v, v < nv → pt (a 9 v) (a 10 v) = true) (x k : Int32) : WR l E yX8_covers cX8_covers 3 .int 5 132 0 0 [.ref (q 40), .int x, .int k] (cW E q g a s t RV X) (fun r (_ : Int32 × (Nat → Int32)) => r = covsC g a np nv x k) (fun u : Int32 × (Nat → Int32) => cW E q g a (upd s 60 u.1) (va_up t 50 u.2) RV X) := by
  refine WR.mk (by decide) (Nat.le_of_ble_eq_true rfl) [(0, .ref (q 40)), (1, .int x), (2, .int k)] rfl (fun Z B ret => ?_)
  refine i_aload_n B 0 dX8_covers_0 rfl ?_
  refine i_iload_n B 1 dX8_covers_1 rfl ?_
  refine c_roV (rest := []) (As := [.int x]) B (k_X8_isViewSet l E q g a s t RV X nv hv hnv x) cal_yX8_isViewSet iv_yX8_isViewSet mlX8_114 rfl 0 rfl (by decide) (by decide) rfl (Nat.le_of_ble_eq_true rfl) Has.rf _ rfl dX8_covers_2 (fun r hr => ?_)
  subst hr
  refine i_val (v' := .int (bI (!nset (g 8) x))) rfl ?_
  refine i_if_ne B 10 dX8_covers_5 (by decide) (fun h1 => ?_) (fun h1 => ?_)
  · replace h1 := bI_n.mp h1
    replace h1 : nset (g 8) x = false := by simpa using h1
    refine i_iload_n B 2 dX8_covers_10 rfl ?_
    refine i_iconst (v := 1) B dX8_covers_11 (by decide) ?_
    refine i_iconst (v := 3) B dX8_covers_12 (by decide) ?_
    refine c_roS (rest := []) (As := [.int k, .int 1, .int 3]) B (k_X8_isWithin l E k 1 3) cal_yX8_isWithin is_yX8_isWithin mlX8_72 (by decide) (by decide) rfl (Nat.le_of_ble_eq_true rfl) Has.nil _ rfl dX8_covers_13 (fun r hr => ?_)
    subst hr
    refine i_val (v' := .int (bI (wit k 1 3))) rfl ?_
    refine i_if_ne B 22 dX8_covers_16 (by decide) (fun h2 => ?_) (fun h2 => ?_)
    · replace h2 := bI_n.mp h2
      refine i_aload_n B 0 dX8_covers_22 rfl ?_
      refine i_get (v := .ref (q 43)) B flX8_28 0 rfl rfl dX8_covers_23 ?_
      refine i_aload_n B 0 dX8_covers_26 rfl ?_
      refine i_get (v := .ref (q 41)) B flX8_10 0 rfl rfl dX8_covers_27 ?_
      refine i_aload_n B 0 dX8_covers_30 rfl ?_
      refine i_get (v := .ref (q 42)) B flX8_21 0 rfl rfl dX8_covers_31 ?_
      refine c_wvV (cells := 0) (slots := 0) (rest := []) (As := [.ref (q 41), .ref (q 42)]) B (k_X3_watch l E q g a s t np hn hnp nv hv hnv hve hpv) cal_yX3_watch iv_yX3_watch mlX8_107 rfl 9 rfl (by decide) (by decide) rfl (Nat.le_of_ble_eq_true rfl) ([((q 40), .inr (8, [.ref (q 41), .ref (q 42), .ref (q 43), .ref (q 44), .ref (q 45), .ref (q 46), .ref (q 48), RV]))]) ([((q 44), .inr (0, [.ref (q 12), .ref (q 13), .ref (q 14), .ref (q 15), .int (g 11), .int (g 16), .int (g 17)])), ((q 12), .inl (E.2.1, 4, .inl (a 12))), ((q 13), .inl (E.2.1, 4, .inl (a 13))), ((q 14), .inl (E.2.1, 4, .inl (a 14))), ((q 15), .inl (E.2.1, 4, .inl (a 15))), ((q 45), .inr (1, [.int (g 90), .int (g 91), .int (g 18), .int (g 19)])), ((q 46), .inr (2, [.ref (q 47), .ref (q 23)])), ((q 47), .inr (5, [.ref (q 21), .ref (q 22), .int (g 20)])), ((q 21), .inl (E.2.1, 20, .inl (a 21))), ((q 22), .inl (E.2.1, 20, .inl (a 22))), ((q 23), .inl (E.2.1, 20, .inl (a 23))), ((q 48), .inr (4, [.ref (q 25), .ref (q 26), .ref (q 27), .ref (q 28), .ref (q 29), .int (g 24), .ref (q 51), .ref (q 52), .ref (q 53), .int (s 61), .int (s 62)])), ((q 25), .inl (E.2.1, 40, .inl (a 25))), ((q 26), .inl (E.2.1, 40, .inl (a 26))), ((q 27), .inl (E.2.1, 40, .inl (a 27))), ((q 28), .inl (E.2.1, 40, .inl (a 28))), ((q 29), .inl (E.2.2, 40, .inl (a 29))), ((q 51), .inl (E.2.1, 40, .inl (t 51))), ((q 52), .inl (E.2.1, 40, .inl (t 52))), ((q 53), .inl (E.2.1, 41, .inl (t 53)))] ++ X) rfl _ rfl dX8_covers_34 (fun _ hr => ?_)
      refine i_world (ws' := (cW E q g a (upd s 60 (g 1)) (va_up t 50 (wtr g a np nv (t 50) np)) RV X)) rfl ?_
      refine i_aload_n B 0 dX8_covers_37 rfl ?_
      refine i_get (v := .ref (q 43)) B flX8_28 0 rfl rfl dX8_covers_38 ?_
      refine i_iload_n B 1 dX8_covers_41 rfl ?_
      refine c_roV (rest := []) (As := [.int x]) B (k_X3_leastTimes l E q (upd s 60 (g 1)) (va_up t 50 (wtr g a np nv (t 50) np)) np hn hnp x) cal_yX3_leastTimes iv_yX3_leastTimes mlX8_117 rfl 9 rfl (by decide) (by decide) rfl (Nat.le_of_ble_eq_true rfl) (Has.of [9, 10] rfl rfl) _ rfl dX8_covers_42 (fun r hr => ?_)
      subst hr
      refine i_val (v' := .int (lts (wtr g a np nv (t 50) np) x np)) rfl ?_
      refine i_val (v' := .int (lts (wts g a np nv) x np)) (congrArg Value.int (lts_wt g a np nv (t 50) x)) ?_
      refine i_iload_n B 2 dX8_covers_45 rfl ?_
      refine i_icmp_lt B 53 dX8_covers_46 (by decide) (fun h3 => ?_) (fun h3 => ?_)
      · refine i_iconst (v := 0) B dX8_covers_53 (by decide) ?_
        refine c_roS (rest := []) (As := [.int 0]) B (k_X8_asNumber l E 0) cal_yX8_asNumber is_yX8_asNumber mlX8_93 (by decide) (by decide) rfl (Nat.le_of_ble_eq_true rfl) Has.nil _ rfl dX8_covers_54 (fun r hr => ?_)
        subst hr
        refine i_val (v' := .int 0) (congrArg Value.int (by decide)) ?_
        exact ret _ _ _ ((g 1), (wtr g a np nv (t 50) np)) rfl dX8_covers_57 (by simp only [covsC, h1, h2, h3, decide_true, decide_false, Bool.not_true, Bool.not_false, Bool.true_and, Bool.false_and, Bool.and_true, Bool.and_false, Bool.true_or, Bool.or_true, Bool.false_or, Bool.or_false, Bool.and_self, Bool.or_self, bI_t, bI_f, if_true, if_false, ite_true, ite_false, Bool.false_eq_true, Bool.true_eq_false, eq_self, reduceIte, true_or, or_true, false_or, or_false, and_true, true_and, and_false, false_and, not_true_eq_false, not_false_eq_true, decide_eq_true_eq, decide_eq_false_iff_not])
      · refine i_iconst (v := 1) B dX8_covers_49 (by decide) ?_
        refine i_goto B 54 dX8_covers_50 (by decide) ?_
        refine c_roS (rest := []) (As := [.int 1]) B (k_X8_asNumber l E 1) cal_yX8_asNumber is_yX8_asNumber mlX8_93 (by decide) (by decide) rfl (Nat.le_of_ble_eq_true rfl) Has.nil _ rfl dX8_covers_54 (fun r hr => ?_)
        subst hr
        refine i_val (v' := .int 1) (congrArg Value.int (by decide)) ?_
        exact ret _ _ _ ((g 1), (wtr g a np nv (t 50) np)) rfl dX8_covers_57 (by simp only [covsC, h1, h2, h3, decide_true, decide_false, Bool.not_true, Bool.not_false, Bool.true_and, Bool.false_and, Bool.and_true, Bool.and_false, Bool.true_or, Bool.or_true, Bool.false_or, Bool.or_false, Bool.and_self, Bool.or_self, bI_t, bI_f, if_true, if_false, ite_true, ite_false, Bool.false_eq_true, Bool.true_eq_false, eq_self, reduceIte, true_or, or_true, false_or, or_false, and_true, true_and, and_false, false_and, not_true_eq_false, not_false_eq_true, decide_eq_true_eq, decide_eq_false_iff_not])
    · replace h2 := bI_0.mp h2
      refine i_bipush (v := (-2)) B dX8_covers_19 (by decide) ?_
      exact ret _ _ _ ((s 60), (t 50)) rfl dX8_covers_21 (by simp only [covsC, h1, h2, decide_true, decide_false, Bool.not_true, Bool.not_false, Bool.true_and, Bool.false_and, Bool.and_true, Bool.and_false, Bool.true_or, Bool.or_true, Bool.false_or, Bool.or_false, Bool.and_self, Bool.or_self, bI_t, bI_f, if_true, if_false, ite_true, ite_false, Bool.false_eq_true, Bool.true_eq_false, eq_self, reduceIte, true_or, or_true, false_or, or_false, and_true, true_and, and_false, false_and, not_true_eq_false, not_false_eq_true, decide_eq_true_eq, decide_eq_false_iff_not])
  · replace h1 := bI_0.mp h1
    replace h1 : nset (g 8) x = true := by simpa using h1
    refine i_iconst (v := (-1)) B dX8_covers_8 (by decide) ?_
    exact ret _ _ _ ((s 60), (t 50)) rfl dX8_covers_9 (by simp only [covsC, h1, decide_true, decide_false, Bool.not_true, Bool.not_false, Bool.true_and, Bool.false_and, Bool.and_true, Bool.and_false, Bool.true_or, Bool.or_true, Bool.false_or, Bool.or_false, Bool.and_self, Bool.or_self, bI_t, bI_f, if_true, if_false, ite_true, ite_false, Bool.false_eq_true, Bool.true_eq_false, eq_self, reduceIte, true_or, or_true, false_or, or_false, and_true, true_and, and_false, false_and, not_true_eq_false, not_false_eq_true, decide_eq_true_eq, decide_eq_false_iff_not])

set_option maxHeartbeats 4000000 in
set_option maxRecDepth 100000 in
theorem k_X8_times (l : Launch) (E : ED) (q : Nat → Nat) (g : Nat → Int32) (a : Nat → Nat → Int32) (s : Nat → Int32) (t : Nat → Nat → Int32) (RV : Value) (X : va_W) (np : Nat) (hn : g 1 = nI np) (hnp : np ≤ 12) (nv : Nat) (hv : g 8 = nI nv) (hnv : nv ≤ 10) (hve : VEq g a np) (hpv : ∀ v, v < nv → pt (a 9 v) (a 10 v) = true) (x : Int32) : WR l E yX8_times cX8_times 2 .int 5 132 0 0 [.ref (q 40), .int x] (cW E q g a s t RV X) (fun r (_ : Int32 × (Nat → Int32)) => r = timC g a np nv x) (fun u : Int32 × (Nat → Int32) => cW E q g a (upd s 60 u.1) (va_up t 50 u.2) RV X) := by
  refine WR.mk (by decide) (Nat.le_of_ble_eq_true rfl) [(0, .ref (q 40)), (1, .int x)] rfl (fun Z B ret => ?_)
  refine i_aload_n B 0 dX8_times_0 rfl ?_
  refine i_iload_n B 1 dX8_times_1 rfl ?_
  refine c_roV (rest := []) (As := [.int x]) B (k_X8_isViewSet l E q g a s t RV X nv hv hnv x) cal_yX8_isViewSet iv_yX8_isViewSet mlX8_114 rfl 0 rfl (by decide) (by decide) rfl (Nat.le_of_ble_eq_true rfl) Has.rf _ rfl dX8_times_2 (fun r hr => ?_)
  subst hr
  refine i_val (v' := .int (bI (!nset (g 8) x))) rfl ?_
  refine i_if_ne B 10 dX8_times_5 (by decide) (fun h1 => ?_) (fun h1 => ?_)
  · replace h1 := bI_n.mp h1
    replace h1 : nset (g 8) x = false := by simpa using h1
    refine i_aload_n B 0 dX8_times_10 rfl ?_
    refine i_get (v := .ref (q 41)) B flX8_10 0 rfl rfl dX8_times_11 ?_
    refine i_get (v := .int (g 1)) B flX8_64 1 rfl rfl dX8_times_14 ?_
    refine i_if_ne B 23 dX8_times_17 (by decide) (fun h2 => ?_) (fun h2 => ?_)
    · rw [hn, show (0 : Int32) = nI 0 from rfl, nI_eq (by omega) (by omega)] at h2
      have h2d := decide_eq_false h2
      refine i_aload_n B 0 dX8_times_23 rfl ?_
      refine i_get (v := .ref (q 43)) B flX8_28 0 rfl rfl dX8_times_24 ?_
      refine i_aload_n B 0 dX8_times_27 rfl ?_
      refine i_get (v := .ref (q 41)) B flX8_10 0 rfl rfl dX8_times_28 ?_
      refine i_aload_n B 0 dX8_times_31 rfl ?_
      refine i_get (v := .ref (q 42)) B flX8_21 0 rfl rfl dX8_times_32 ?_
      refine c_wvV (cells := 0) (slots := 0) (rest := []) (As := [.ref (q 41), .ref (q 42)]) B (k_X3_watch l E q g a s t np hn hnp nv hv hnv hve hpv) cal_yX3_watch iv_yX3_watch mlX8_107 rfl 9 rfl (by decide) (by decide) rfl (Nat.le_of_ble_eq_true rfl) ([((q 40), .inr (8, [.ref (q 41), .ref (q 42), .ref (q 43), .ref (q 44), .ref (q 45), .ref (q 46), .ref (q 48), RV]))]) ([((q 44), .inr (0, [.ref (q 12), .ref (q 13), .ref (q 14), .ref (q 15), .int (g 11), .int (g 16), .int (g 17)])), ((q 12), .inl (E.2.1, 4, .inl (a 12))), ((q 13), .inl (E.2.1, 4, .inl (a 13))), ((q 14), .inl (E.2.1, 4, .inl (a 14))), ((q 15), .inl (E.2.1, 4, .inl (a 15))), ((q 45), .inr (1, [.int (g 90), .int (g 91), .int (g 18), .int (g 19)])), ((q 46), .inr (2, [.ref (q 47), .ref (q 23)])), ((q 47), .inr (5, [.ref (q 21), .ref (q 22), .int (g 20)])), ((q 21), .inl (E.2.1, 20, .inl (a 21))), ((q 22), .inl (E.2.1, 20, .inl (a 22))), ((q 23), .inl (E.2.1, 20, .inl (a 23))), ((q 48), .inr (4, [.ref (q 25), .ref (q 26), .ref (q 27), .ref (q 28), .ref (q 29), .int (g 24), .ref (q 51), .ref (q 52), .ref (q 53), .int (s 61), .int (s 62)])), ((q 25), .inl (E.2.1, 40, .inl (a 25))), ((q 26), .inl (E.2.1, 40, .inl (a 26))), ((q 27), .inl (E.2.1, 40, .inl (a 27))), ((q 28), .inl (E.2.1, 40, .inl (a 28))), ((q 29), .inl (E.2.2, 40, .inl (a 29))), ((q 51), .inl (E.2.1, 40, .inl (t 51))), ((q 52), .inl (E.2.1, 40, .inl (t 52))), ((q 53), .inl (E.2.1, 41, .inl (t 53)))] ++ X) rfl _ rfl dX8_times_35 (fun _ hr => ?_)
      refine i_world (ws' := (cW E q g a (upd s 60 (g 1)) (va_up t 50 (wtr g a np nv (t 50) np)) RV X)) rfl ?_
      refine i_aload_n B 0 dX8_times_38 rfl ?_
      refine i_get (v := .ref (q 43)) B flX8_28 0 rfl rfl dX8_times_39 ?_
      refine i_iload_n B 1 dX8_times_42 rfl ?_
      refine c_roV (rest := []) (As := [.int x]) B (k_X3_leastTimes l E q (upd s 60 (g 1)) (va_up t 50 (wtr g a np nv (t 50) np)) np hn hnp x) cal_yX3_leastTimes iv_yX3_leastTimes mlX8_117 rfl 9 rfl (by decide) (by decide) rfl (Nat.le_of_ble_eq_true rfl) (Has.of [9, 10] rfl rfl) _ rfl dX8_times_43 (fun r hr => ?_)
      subst hr
      refine i_val (v' := .int (lts (wtr g a np nv (t 50) np) x np)) rfl ?_
      refine i_val (v' := .int (lts (wts g a np nv) x np)) (congrArg Value.int (lts_wt g a np nv (t 50) x)) ?_
      exact ret _ _ _ ((g 1), (wtr g a np nv (t 50) np)) rfl dX8_times_46 (by simp only [timC, h1, h2d, decide_true, decide_false, Bool.not_true, Bool.not_false, Bool.true_and, Bool.false_and, Bool.and_true, Bool.and_false, Bool.true_or, Bool.or_true, Bool.false_or, Bool.or_false, Bool.and_self, Bool.or_self, bI_t, bI_f, if_true, if_false, ite_true, ite_false, Bool.false_eq_true, Bool.true_eq_false, eq_self, reduceIte, true_or, or_true, false_or, or_false, and_true, true_and, and_false, false_and, not_true_eq_false, not_false_eq_true, decide_eq_true_eq, decide_eq_false_iff_not])
    · rw [hn, show (0 : Int32) = nI 0 from rfl, nI_eq (by omega) (by omega)] at h2
      have h2d := decide_eq_true h2
      refine i_bipush (v := (-9)) B dX8_times_20 (by decide) ?_
      exact ret _ _ _ ((s 60), (t 50)) rfl dX8_times_22 (by simp only [timC, h1, h2d, decide_true, decide_false, Bool.not_true, Bool.not_false, Bool.true_and, Bool.false_and, Bool.and_true, Bool.and_false, Bool.true_or, Bool.or_true, Bool.false_or, Bool.or_false, Bool.and_self, Bool.or_self, bI_t, bI_f, if_true, if_false, ite_true, ite_false, Bool.false_eq_true, Bool.true_eq_false, eq_self, reduceIte, true_or, or_true, false_or, or_false, and_true, true_and, and_false, false_and, not_true_eq_false, not_false_eq_true, decide_eq_true_eq, decide_eq_false_iff_not])
  · replace h1 := bI_0.mp h1
    replace h1 : nset (g 8) x = true := by simpa using h1
    refine i_iconst (v := (-1)) B dX8_times_8 (by decide) ?_
    exact ret _ _ _ ((s 60), (t 50)) rfl dX8_times_9 (by simp only [timC, h1, decide_true, decide_false, Bool.not_true, Bool.not_false, Bool.true_and, Bool.false_and, Bool.and_true, Bool.and_false, Bool.true_or, Bool.or_true, Bool.false_or, Bool.or_false, Bool.and_self, Bool.or_self, bI_t, bI_f, if_true, if_false, ite_true, ite_false, Bool.false_eq_true, Bool.true_eq_false, eq_self, reduceIte, true_or, or_true, false_or, or_false, and_true, true_and, and_false, false_and, not_true_eq_false, not_false_eq_true, decide_eq_true_eq, decide_eq_false_iff_not])

def legC (g : Nat → Int32) (a : Nat → Nat → Int32) (nc : Nat) (x1 y1 x2 y2 : Int32) : Int32 := if (!(pt x1 y1 && pt x2 y2)) = true then -2 else if gsh a x1 y1 x2 y2 nc = true then -9 else cst g (x2 - x1) (y2 - y1)
def mscn (g : Nat → Int32) (a : Nat → Nat → Int32) (np nl : Nat) (k : Int32) : Nat → Int32
  | 0 => 0
  | p + 1 => mscn g a np nl k p + (if decide (pvc g a np p k nl < k) = true then 1 else 0)
def misc (g : Nat → Int32) (a : Nat → Nat → Int32) (np nl : Nat) (i k : Int32) : Nat → Nat → Int32
  | 0, _ => -9
  | n + 1, p => if (decide (pvc g a np p k nl < k) && decide (mscn g a np nl k p = i)) = true then nI p else misc g a np nl i k n (p + 1)
def misC (g : Nat → Int32) (a : Nat → Nat → Int32) (np nl : Nat) (i k : Int32) : Int32 := if (!wit k 1 3) = true then -2 else misc g a np nl i k np 0
def prdC (g : Nat → Int32) (a : Nat → Nat → Int32) (np nl : Nat) (p : Int32) : Int32 := if (!wit p 0 (g 1 - 1)) = true then -1 else pvc g a np (ix p) 20 nl
def matC (g : Nat → Int32) (a : Nat → Nat → Int32) (nm : Nat) (p y1 y2 tol z : Int32) : Int32 := if (!wit p 0 (g 1 - 1)) = true then -1 else if (!(wit y1 0 9 && (wit y2 0 9 && wit tol 0 1000))) = true then -2 else if decide (y1 = y2) = true then -3 else if decide (z = 0) = true then prs (wres a nm p y1 y2 tol) else drs (wres a nm p y1 y2 tol)

set_option maxHeartbeats 4000000 in
set_option maxRecDepth 100000 in
theorem k_X8_leg (l : Launch) (E : ED) (q : Nat → Nat) (g : Nat → Int32) (a : Nat → Nat → Int32) (s : Nat → Int32) (t : Nat → Nat → Int32) (RV : Value) (X : va_W) (nc : Nat) (hc : g 11 = nI nc) (hnc : nc ≤ 4) (x1 y1 x2 y2 : Int32) : RO l E yX8_leg cX8_leg 5 .int 3 79 [.ref (q 40), .int x1, .int y1, .int x2, .int y2] (cW E q g a s t RV X) (fun r => r = legC g a nc x1 y1 x2 y2) := by
  refine RO.mk (by decide) (Nat.le_of_ble_eq_true rfl) [(0, .ref (q 40)), (1, .int x1), (2, .int y1), (3, .int x2), (4, .int y2)] rfl (fun Z B ret => ?_)
  refine i_iload_n B 1 dX8_leg_0 rfl ?_
  refine i_iload_n B 2 dX8_leg_1 rfl ?_
  refine c_roS (rest := []) (As := [.int x1, .int y1]) B (k_X8_isPoint l E x1 y1) cal_yX8_isPoint is_yX8_isPoint mlX8_60 (by decide) (by decide) rfl (Nat.le_of_ble_eq_true rfl) Has.nil _ rfl dX8_leg_2 (fun r hr => ?_)
  subst hr
  refine i_val (v' := .int (bI (pt x1 y1))) rfl ?_
  refine i_if_eq B 17 dX8_leg_5 (by decide) (fun h1 => ?_) (fun h1 => ?_)
  · replace h1 := bI_0.mp h1
    refine i_bipush (v := (-2)) B dX8_leg_17 (by decide) ?_
    exact ret _ _ _ rfl dX8_leg_19 (by simp only [legC, h1, decide_true, decide_false, Bool.not_true, Bool.not_false, Bool.true_and, Bool.false_and, Bool.and_true, Bool.and_false, Bool.true_or, Bool.or_true, Bool.false_or, Bool.or_false, Bool.and_self, Bool.or_self, bI_t, bI_f, if_true, if_false, ite_true, ite_false, Bool.false_eq_true, Bool.true_eq_false, eq_self, reduceIte, true_or, or_true, false_or, or_false, and_true, true_and, and_false, false_and, not_true_eq_false, not_false_eq_true, decide_eq_true_eq, decide_eq_false_iff_not])
  · replace h1 := bI_n.mp h1
    refine i_iload_n B 3 dX8_leg_8 rfl ?_
    refine i_iload B 4 dX8_leg_9 rfl ?_
    refine c_roS (rest := []) (As := [.int x2, .int y2]) B (k_X8_isPoint l E x2 y2) cal_yX8_isPoint is_yX8_isPoint mlX8_60 (by decide) (by decide) rfl (Nat.le_of_ble_eq_true rfl) Has.nil _ rfl dX8_leg_11 (fun r hr => ?_)
    subst hr
    refine i_val (v' := .int (bI (pt x2 y2))) rfl ?_
    refine i_if_ne B 20 dX8_leg_14 (by decide) (fun h2 => ?_) (fun h2 => ?_)
    · replace h2 := bI_n.mp h2
      refine i_aload_n B 0 dX8_leg_20 rfl ?_
      refine i_get (v := .ref (q 44)) B flX8_35 0 rfl rfl dX8_leg_21 ?_
      refine i_iload_n B 1 dX8_leg_24 rfl ?_
      refine i_iload_n B 2 dX8_leg_25 rfl ?_
      refine i_iload_n B 3 dX8_leg_26 rfl ?_
      refine i_iload B 4 dX8_leg_27 rfl ?_
      refine c_roV (rest := []) (As := [.int x1, .int y1, .int x2, .int y2]) B (k_X0_isShut l E q g a nc hc hnc x1 y1 x2 y2) cal_yX0_isShut iv_yX0_isShut mlX8_146 rfl 11 rfl (by decide) (by decide) rfl (Nat.le_of_ble_eq_true rfl) (Has.of [11, 12, 13, 14, 15] rfl rfl) _ rfl dX8_leg_29 (fun r hr => ?_)
      subst hr
      refine i_val (v' := .int (bI (gsh a x1 y1 x2 y2 nc))) rfl ?_
      refine i_if_eq B 38 dX8_leg_32 (by decide) (fun h3 => ?_) (fun h3 => ?_)
      · replace h3 := bI_0.mp h3
        refine i_aload_n B 0 dX8_leg_38 rfl ?_
        refine i_get (v := .ref (q 44)) B flX8_35 0 rfl rfl dX8_leg_39 ?_
        refine i_iload_n B 3 dX8_leg_42 rfl ?_
        refine i_iload_n B 1 dX8_leg_43 rfl ?_
        refine i_isub B dX8_leg_44 ?_
        refine i_iload B 4 dX8_leg_45 rfl ?_
        refine i_iload_n B 2 dX8_leg_47 rfl ?_
        refine i_isub B dX8_leg_48 ?_
        refine c_roV (rest := []) (As := [.int (x2 - x1), .int (y2 - y1)]) B (k_X0_cost l E q g a (x2 - x1) (y2 - y1)) cal_yX0_cost iv_yX0_cost mlX8_150 rfl 11 rfl (by decide) (by decide) rfl (Nat.le_of_ble_eq_true rfl) (Has.of [11, 12, 13, 14, 15] rfl rfl) _ rfl dX8_leg_49 (fun r hr => ?_)
        subst hr
        refine i_val (v' := .int (cst g (x2 - x1) (y2 - y1))) rfl ?_
        exact ret _ _ _ rfl dX8_leg_52 (by simp only [legC, h1, h2, h3, decide_true, decide_false, Bool.not_true, Bool.not_false, Bool.true_and, Bool.false_and, Bool.and_true, Bool.and_false, Bool.true_or, Bool.or_true, Bool.false_or, Bool.or_false, Bool.and_self, Bool.or_self, bI_t, bI_f, if_true, if_false, ite_true, ite_false, Bool.false_eq_true, Bool.true_eq_false, eq_self, reduceIte, true_or, or_true, false_or, or_false, and_true, true_and, and_false, false_and, not_true_eq_false, not_false_eq_true, decide_eq_true_eq, decide_eq_false_iff_not])
      · replace h3 := bI_n.mp h3
        refine i_bipush (v := (-9)) B dX8_leg_35 (by decide) ?_
        exact ret _ _ _ rfl dX8_leg_37 (by simp only [legC, h1, h2, h3, decide_true, decide_false, Bool.not_true, Bool.not_false, Bool.true_and, Bool.false_and, Bool.and_true, Bool.and_false, Bool.true_or, Bool.or_true, Bool.false_or, Bool.or_false, Bool.and_self, Bool.or_self, bI_t, bI_f, if_true, if_false, ite_true, ite_false, Bool.false_eq_true, Bool.true_eq_false, eq_self, reduceIte, true_or, or_true, false_or, or_false, and_true, true_and, and_false, false_and, not_true_eq_false, not_false_eq_true, decide_eq_true_eq, decide_eq_false_iff_not])
    · replace h2 := bI_0.mp h2
      refine i_bipush (v := (-2)) B dX8_leg_17 (by decide) ?_
      exact ret _ _ _ rfl dX8_leg_19 (by simp only [legC, h1, h2, decide_true, decide_false, Bool.not_true, Bool.not_false, Bool.true_and, Bool.false_and, Bool.and_true, Bool.and_false, Bool.true_or, Bool.or_true, Bool.false_or, Bool.or_false, Bool.and_self, Bool.or_self, bI_t, bI_f, if_true, if_false, ite_true, ite_false, Bool.false_eq_true, Bool.true_eq_false, eq_self, reduceIte, true_or, or_true, false_or, or_false, and_true, true_and, and_false, false_and, not_true_eq_false, not_false_eq_true, decide_eq_true_eq, decide_eq_false_iff_not])

set_option maxHeartbeats 4000000 in
set_option maxRecDepth 100000 in
theorem k_X8_log (l : Launch) (E : ED) (q : Nat → Nat) (g : Nat → Int32) (a : Nat → Nat → Int32) (s : Nat → Int32) (t : Nat → Nat → Int32) (RV : Value) (X : va_W) (nl : Nat) (hl : g 20 = nI nl) (hnl : nl ≤ 20) (x y e : Int32) : WR l E yX8_log cX8_log 4 .int 2 45 0 0 [.ref (q 40), .int x, .int y, .int e] (cW E q g a s t RV X) (fun r u => (r, u) = logF g a nl x y e) (fun u : GA => cW E q u.1 u.2 s t RV X) := by
  refine WR.mk (by decide) (Nat.le_of_ble_eq_true rfl) [(0, .ref (q 40)), (1, .int x), (2, .int y), (3, .int e)] rfl (fun Z B ret => ?_)
  refine i_iload_n B 1 dX8_log_0 rfl ?_
  refine i_iload_n B 2 dX8_log_1 rfl ?_
  refine c_roS (rest := []) (As := [.int x, .int y]) B (k_X8_isPoint l E x y) cal_yX8_isPoint is_yX8_isPoint mlX8_60 (by decide) (by decide) rfl (Nat.le_of_ble_eq_true rfl) Has.nil _ rfl dX8_log_2 (fun r hr => ?_)
  subst hr
  refine i_val (v' := .int (bI (pt x y))) rfl ?_
  refine i_if_eq B 17 dX8_log_5 (by decide) (fun h1 => ?_) (fun h1 => ?_)
  · replace h1 := bI_0.mp h1
    refine i_bipush (v := (-2)) B dX8_log_17 (by decide) ?_
    exact ret _ _ _ (g, a) rfl dX8_log_19 (by simp only [logF, h1, decide_true, decide_false, Bool.not_true, Bool.not_false, Bool.true_and, Bool.false_and, Bool.and_true, Bool.and_false, Bool.true_or, Bool.or_true, Bool.false_or, Bool.or_false, Bool.and_self, Bool.or_self, bI_t, bI_f, if_true, if_false, ite_true, ite_false, Bool.false_eq_true, Bool.true_eq_false, eq_self, reduceIte, true_or, or_true, false_or, or_false, and_true, true_and, and_false, false_and, not_true_eq_false, not_false_eq_true, decide_eq_true_eq, decide_eq_false_iff_not])
  · replace h1 := bI_n.mp h1
    refine i_iload_n B 3 dX8_log_8 rfl ?_
    refine i_iconst (v := 0) B dX8_log_9 (by decide) ?_
    refine i_iconst (v := 5) B dX8_log_10 (by decide) ?_
    refine c_roS (rest := []) (As := [.int e, .int 0, .int 5]) B (k_X8_isWithin l E e 0 5) cal_yX8_isWithin is_yX8_isWithin mlX8_72 (by decide) (by decide) rfl (Nat.le_of_ble_eq_true rfl) Has.nil _ rfl dX8_log_11 (fun r hr => ?_)
    subst hr
    refine i_val (v' := .int (bI (wit e 0 5))) rfl ?_
    refine i_if_ne B 20 dX8_log_14 (by decide) (fun h2 => ?_) (fun h2 => ?_)
    · replace h2 := bI_n.mp h2
      refine i_aload_n B 0 dX8_log_20 rfl ?_
      refine i_get (v := .ref (q 46)) B flX8_49 0 rfl rfl dX8_log_21 ?_
      refine i_get (v := .ref (q 47)) B flX8_171 17 rfl rfl dX8_log_24 ?_
      refine i_get (v := .int (g 20)) B flX8_82 18 rfl rfl dX8_log_27 ?_
      refine i_bipush (v := 20) B dX8_log_30 (by decide) ?_
      refine i_icmp_lt B 38 dX8_log_32 (by decide) (fun h3 => ?_) (fun h3 => ?_)
      · rw [hl, show (20 : Int32) = nI 20 from rfl, nI_ltI (by omega) (by omega)] at h3
        refine i_aload_n B 0 dX8_log_38 rfl ?_
        refine i_get (v := .ref (q 46)) B flX8_49 0 rfl rfl dX8_log_39 ?_
        refine i_iload_n B 1 dX8_log_42 rfl ?_
        refine i_iload_n B 2 dX8_log_43 rfl ?_
        refine i_iload_n B 3 dX8_log_44 rfl ?_
        refine c_wiV (cells := 0) (slots := 0) (rest := []) (As := [.int x, .int y, .int e]) B (k_X2_add l E q g a nl hl (by omega) x y e) cal_yX2_add iv_yX2_add mlX8_174 rfl 17 rfl (by decide) (by decide) rfl (Nat.le_of_ble_eq_true rfl) ([((q 40), .inr (8, [.ref (q 41), .ref (q 42), .ref (q 43), .ref (q 44), .ref (q 45), .ref (q 46), .ref (q 48), RV])), ((q 41), .inr (7, [.ref (q 2), .ref (q 3), .ref (q 4), .ref (q 5), .int (g 1), .int (g 6), .int (g 7)])), ((q 2), .inl (E.2.1, 12, .inl (a 2))), ((q 3), .inl (E.2.1, 12, .inl (a 3))), ((q 4), .inl (E.2.1, 12, .inl (a 4))), ((q 5), .inl (E.2.1, 12, .inl (a 5))), ((q 42), .inr (5, [.ref (q 9), .ref (q 10), .int (g 8)])), ((q 9), .inl (E.2.1, 10, .inl (a 9))), ((q 10), .inl (E.2.1, 10, .inl (a 10))), ((q 43), .inr (3, [.ref (q 50), .int (s 60)])), ((q 50), .inl (E.2.1, 12, .inl (t 50))), ((q 44), .inr (0, [.ref (q 12), .ref (q 13), .ref (q 14), .ref (q 15), .int (g 11), .int (g 16), .int (g 17)])), ((q 12), .inl (E.2.1, 4, .inl (a 12))), ((q 13), .inl (E.2.1, 4, .inl (a 13))), ((q 14), .inl (E.2.1, 4, .inl (a 14))), ((q 15), .inl (E.2.1, 4, .inl (a 15))), ((q 45), .inr (1, [.int (g 90), .int (g 91), .int (g 18), .int (g 19)]))]) ([((q 48), .inr (4, [.ref (q 25), .ref (q 26), .ref (q 27), .ref (q 28), .ref (q 29), .int (g 24), .ref (q 51), .ref (q 52), .ref (q 53), .int (s 61), .int (s 62)])), ((q 25), .inl (E.2.1, 40, .inl (a 25))), ((q 26), .inl (E.2.1, 40, .inl (a 26))), ((q 27), .inl (E.2.1, 40, .inl (a 27))), ((q 28), .inl (E.2.1, 40, .inl (a 28))), ((q 29), .inl (E.2.2, 40, .inl (a 29))), ((q 51), .inl (E.2.1, 40, .inl (t 51))), ((q 52), .inl (E.2.1, 40, .inl (t 52))), ((q 53), .inl (E.2.1, 41, .inl (t 53)))] ++ X) rfl _ rfl dX8_log_45 (fun r _ hr => ?_)
        subst hr
        refine i_world (ws' := (cW E q (upd g 20 (nI (nl + 1))) (va_up (va_up (va_up a 21 (upd (a 21) nl x)) 22 (upd (a 22) nl y)) 23 (upd (a 23) nl e)) s t RV X)) rfl ?_
        exact ret _ _ _ ((upd g 20 (nI (nl + 1))), (va_up (va_up (va_up a 21 (upd (a 21) nl x)) 22 (upd (a 22) nl y)) 23 (upd (a 23) nl e))) rfl dX8_log_48 (by have e9 : decide (nl = 20) = false := decide_eq_false (by omega); simp only [logF, h1, h2, h3, e9, decide_true, decide_false, Bool.not_true, Bool.not_false, Bool.true_and, Bool.false_and, Bool.and_true, Bool.and_false, Bool.true_or, Bool.or_true, Bool.false_or, Bool.or_false, Bool.and_self, Bool.or_self, bI_t, bI_f, if_true, if_false, ite_true, ite_false, Bool.false_eq_true, Bool.true_eq_false, eq_self, reduceIte, true_or, or_true, false_or, or_false, and_true, true_and, and_false, false_and, not_true_eq_false, not_false_eq_true, decide_eq_true_eq, decide_eq_false_iff_not])
      · rw [hl, show (20 : Int32) = nI 20 from rfl, nI_ltI (by omega) (by omega)] at h3
        refine i_bipush (v := (-4)) B dX8_log_35 (by decide) ?_
        exact ret _ _ _ (g, a) rfl dX8_log_37 (by have e9 : decide (nl = 20) = true := decide_eq_true (by omega); simp only [logF, h1, h2, h3, e9, decide_true, decide_false, Bool.not_true, Bool.not_false, Bool.true_and, Bool.false_and, Bool.and_true, Bool.and_false, Bool.true_or, Bool.or_true, Bool.false_or, Bool.or_false, Bool.and_self, Bool.or_self, bI_t, bI_f, if_true, if_false, ite_true, ite_false, Bool.false_eq_true, Bool.true_eq_false, eq_self, reduceIte, true_or, or_true, false_or, or_false, and_true, true_and, and_false, false_and, not_true_eq_false, not_false_eq_true, decide_eq_true_eq, decide_eq_false_iff_not])
    · replace h2 := bI_0.mp h2
      refine i_bipush (v := (-2)) B dX8_log_17 (by decide) ?_
      exact ret _ _ _ (g, a) rfl dX8_log_19 (by simp only [logF, h1, h2, decide_true, decide_false, Bool.not_true, Bool.not_false, Bool.true_and, Bool.false_and, Bool.and_true, Bool.and_false, Bool.true_or, Bool.or_true, Bool.false_or, Bool.or_false, Bool.and_self, Bool.or_self, bI_t, bI_f, if_true, if_false, ite_true, ite_false, Bool.false_eq_true, Bool.true_eq_false, eq_self, reduceIte, true_or, or_true, false_or, or_false, and_true, true_and, and_false, false_and, not_true_eq_false, not_false_eq_true, decide_eq_true_eq, decide_eq_false_iff_not])

set_option maxHeartbeats 4000000 in
set_option maxRecDepth 100000 in
theorem k_X8_proves (l : Launch) (E : ED) (q : Nat → Nat) (g : Nat → Int32) (a : Nat → Nat → Int32) (s : Nat → Int32) (t : Nat → Nat → Int32) (RV : Value) (X : va_W) (np : Nat) (hn : g 1 = nI np) (hnp : np ≤ 12) (nl : Nat) (hl : g 20 = nI nl) (hnl : nl ≤ 20) (hve : VEq g a np) (hlr : ∀ i, i < nl → inr (a 21 i - a 23 i) = true ∧ inr (a 21 i + a 23 i) = true ∧ inr (a 22 i - a 23 i) = true ∧ inr (a 22 i + a 23 i) = true) (lg p : Int32) : RO l E yX8_proves cX8_proves 3 .int 5 133 [.ref (q 40), .int lg, .int p] (cW E q g a s t RV X) (fun r => r = prsF g a np lg p) := by
  refine RO.mk (by decide) (Nat.le_of_ble_eq_true rfl) [(0, .ref (q 40)), (1, .int lg), (2, .int p)] rfl (fun Z B ret => ?_)
  refine i_iload_n B 1 dX8_proves_0 rfl ?_
  refine i_if_lt B 26 dX8_proves_1 (by decide) (fun h1 => ?_) (fun h1 => ?_)
  · refine i_iconst (v := (-1)) B dX8_proves_26 (by decide) ?_
    exact ret _ _ _ rfl dX8_proves_27 (by rw [prsF, hl, wit_lo h1]; rfl)
  · refine i_iload_n B 1 dX8_proves_4 rfl ?_
    refine i_aload_n B 0 dX8_proves_5 rfl ?_
    refine i_get (v := .ref (q 46)) B flX8_49 0 rfl rfl dX8_proves_6 ?_
    refine i_get (v := .ref (q 47)) B flX8_171 17 rfl rfl dX8_proves_9 ?_
    refine i_get (v := .int (g 20)) B flX8_82 18 rfl rfl dX8_proves_12 ?_
    refine i_icmp_ge B 26 dX8_proves_15 (by decide) (fun h2 => ?_) (fun h2 => ?_)
    · replace h2 := q_n32.mpr h2
      rw [hl] at h2
      refine i_iconst (v := (-1)) B dX8_proves_26 (by decide) ?_
      exact ret _ _ _ rfl dX8_proves_27 (by rw [prsF, hl, wit_hi (by omega) h1 h2]; rfl)
    · replace h2 := q_m32.mp h2
      rw [hl] at h2
      refine i_aload_n B 0 dX8_proves_18 rfl ?_
      refine i_iload_n B 2 dX8_proves_19 rfl ?_
      refine c_roV (rest := []) (As := [.int p]) B (k_X8_isPanel l E q g a s t RV X np hn hnp p) cal_yX8_isPanel iv_yX8_isPanel mlX8_86 rfl 0 rfl (by decide) (by decide) rfl (Nat.le_of_ble_eq_true rfl) Has.rf _ rfl dX8_proves_20 (fun r hr => ?_)
      subst hr
      refine i_val (v' := .int (bI (wit p 0 ((g 1) - 1)))) rfl ?_
      refine i_if_ne B 28 dX8_proves_23 (by decide) (fun h3 => ?_) (fun h3 => ?_)
      · replace h3 := bI_n.mp h3
        obtain ⟨j, hj, rfl⟩ := lt_ix (n := nl) (by omega) h1 h2
        obtain ⟨i, hi, rfl⟩ := wit_ix (n := np) (by omega) (by rw [← hn]; exact h3)
        refine i_aload_n B 0 dX8_proves_28 rfl ?_
        refine i_get (v := .ref (q 46)) B flX8_49 0 rfl rfl dX8_proves_29 ?_
        refine i_iload_n B 1 dX8_proves_32 rfl ?_
        refine i_aload_n B 0 dX8_proves_33 rfl ?_
        refine i_get (v := .ref (q 41)) B flX8_10 0 rfl rfl dX8_proves_34 ?_
        refine i_iload_n B 2 dX8_proves_37 rfl ?_
        refine c_roV (rest := []) (As := [.int (nI j), .ref (q 41), .int (nI i)]) B (k_X2_isProof l E q g a np hn hnp nl hl hnl hve hlr j i (by omega) (by omega)) cal_yX2_isProof iv_yX2_isProof mlX8_177 rfl 17 rfl (by decide) (by decide) rfl (Nat.le_of_ble_eq_true rfl) (Has.of [17, 18, 19, 20, 21, 1, 2, 3, 4, 5] rfl rfl) _ rfl dX8_proves_38 (fun r hr => ?_)
        subst hr
        refine i_val (v' := .int (bI (prv g a np j i))) rfl ?_
        refine c_roS (rest := []) (As := [.int (bI (prv g a np j i))]) B (k_X8_asNumber l E (bI (prv g a np j i))) cal_yX8_asNumber is_yX8_asNumber mlX8_93 (by decide) (by decide) rfl (Nat.le_of_ble_eq_true rfl) Has.nil _ rfl dX8_proves_41 (fun r hr => ?_)
        subst hr
        refine i_val (v' := .int (bI (prv g a np j i))) (congrArg Value.int (asn_bI _)) ?_
        exact ret _ _ _ rfl dX8_proves_44 (by rw [prsF, hl, ix_wit (by omega) hj, h3, ix_nI (by omega), ix_nI (by omega)]; rfl)
      · replace h3 := bI_0.mp h3
        refine i_iconst (v := (-1)) B dX8_proves_26 (by decide) ?_
        exact ret _ _ _ rfl dX8_proves_27 (by rw [prsF, h3, Bool.and_false]; rfl)

set_option maxHeartbeats 4000000 in
set_option maxRecDepth 100000 in
theorem k_X8_proved (l : Launch) (E : ED) (q : Nat → Nat) (g : Nat → Int32) (a : Nat → Nat → Int32) (s : Nat → Int32) (t : Nat → Nat → Int32) (RV : Value) (X : va_W) (np : Nat) (hn : g 1 = nI np) (hnp : np ≤ 12) (nl : Nat) (hl : g 20 = nI nl) (hnl : nl ≤ 20) (hve : VEq g a np) (hlr : ∀ i, i < nl → inr (a 21 i - a 23 i) = true ∧ inr (a 21 i + a 23 i) = true ∧ inr (a 22 i - a 23 i) = true ∧ inr (a 22 i + a 23 i) = true) (p : Int32) : RO l E yX8_proved cX8_proved 2 .int 6 158 [.ref (q 40), .int p] (cW E q g a s t RV X) (fun r => r = prdC g a np nl p) := by
  refine RO.mk (by decide) (Nat.le_of_ble_eq_true rfl) [(0, .ref (q 40)), (1, .int p)] rfl (fun Z B ret => ?_)
  refine i_aload_n B 0 dX8_proved_0 rfl ?_
  refine i_iload_n B 1 dX8_proved_1 rfl ?_
  refine c_roV (rest := []) (As := [.int p]) B (k_X8_isPanel l E q g a s t RV X np hn hnp p) cal_yX8_isPanel iv_yX8_isPanel mlX8_86 rfl 0 rfl (by decide) (by decide) rfl (Nat.le_of_ble_eq_true rfl) Has.rf _ rfl dX8_proved_2 (fun r hr => ?_)
  subst hr
  refine i_val (v' := .int (bI (wit p 0 ((g 1) - 1)))) rfl ?_
  refine i_if_ne B 10 dX8_proved_5 (by decide) (fun h1 => ?_) (fun h1 => ?_)
  · replace h1 := bI_n.mp h1
    obtain ⟨j, hj, rfl⟩ := wit_ix (n := np) (by omega) (by rw [← hn]; exact h1)
    refine i_aload_n B 0 dX8_proved_10 rfl ?_
    refine i_get (v := .ref (q 46)) B flX8_49 0 rfl rfl dX8_proved_11 ?_
    refine i_aload_n B 0 dX8_proved_14 rfl ?_
    refine i_get (v := .ref (q 41)) B flX8_10 0 rfl rfl dX8_proved_15 ?_
    refine i_iload_n B 1 dX8_proved_18 rfl ?_
    refine i_bipush (v := 20) B dX8_proved_19 (by decide) ?_
    refine c_roV (rest := []) (As := [.ref (q 41), .int (nI j), .int 20]) B (k_X2_proofs l E q g a np hn hnp nl hl hnl hve hlr j (by omega) 20) cal_yX2_proofs iv_yX2_proofs mlX8_181 rfl 17 rfl (by decide) (by decide) rfl (Nat.le_of_ble_eq_true rfl) (Has.of [17, 18, 19, 20, 21, 1, 2, 3, 4, 5] rfl rfl) _ rfl dX8_proved_21 (fun r hr => ?_)
    subst hr
    refine i_val (v' := .int (pvc g a np j 20 nl)) rfl ?_
    exact ret _ _ _ rfl dX8_proved_24 (by simp only [prdC, ix_nI (show j < 2 ^ 31 by omega), h1, decide_true, decide_false, Bool.not_true, Bool.not_false, Bool.true_and, Bool.false_and, Bool.and_true, Bool.and_false, Bool.true_or, Bool.or_true, Bool.false_or, Bool.or_false, Bool.and_self, Bool.or_self, bI_t, bI_f, if_true, if_false, ite_true, ite_false, Bool.false_eq_true, Bool.true_eq_false, eq_self, reduceIte, true_or, or_true, false_or, or_false, and_true, true_and, and_false, false_and, not_true_eq_false, not_false_eq_true, decide_eq_true_eq, decide_eq_false_iff_not])
  · replace h1 := bI_0.mp h1
    refine i_iconst (v := (-1)) B dX8_proved_8 (by decide) ?_
    exact ret _ _ _ rfl dX8_proved_9 (by simp only [prdC, h1, decide_true, decide_false, Bool.not_true, Bool.not_false, Bool.true_and, Bool.false_and, Bool.and_true, Bool.and_false, Bool.true_or, Bool.or_true, Bool.false_or, Bool.or_false, Bool.and_self, Bool.or_self, bI_t, bI_f, if_true, if_false, ite_true, ite_false, Bool.false_eq_true, Bool.true_eq_false, eq_self, reduceIte, true_or, or_true, false_or, or_false, and_true, true_and, and_false, false_and, not_true_eq_false, not_false_eq_true, decide_eq_true_eq, decide_eq_false_iff_not])

set_option maxHeartbeats 4000000 in
set_option maxRecDepth 100000 in
theorem k_X8_missing (l : Launch) (E : ED) (q : Nat → Nat) (g : Nat → Int32) (a : Nat → Nat → Int32) (s : Nat → Int32) (t : Nat → Nat → Int32) (RV : Value) (X : va_W) (np : Nat) (hn : g 1 = nI np) (hnp : np ≤ 12) (nl : Nat) (hl : g 20 = nI nl) (hnl : nl ≤ 20) (hve : VEq g a np) (hlr : ∀ i, i < nl → inr (a 21 i - a 23 i) = true ∧ inr (a 21 i + a 23 i) = true ∧ inr (a 22 i - a 23 i) = true ∧ inr (a 22 i + a 23 i) = true) (i k : Int32) : RO l E yX8_missing cX8_missing 5 .int 6 158 [.ref (q 40), .int i, .int k] (cW E q g a s t RV X) (fun r => r = misC g a np nl i k) := by
  refine RO.mk (by decide) (Nat.le_of_ble_eq_true rfl) [(0, .ref (q 40)), (1, .int i), (2, .int k)] rfl (fun Z B ret => ?_)
  have lp : ∀ (n_lp : Nat) (p : Nat), (np - p < n_lp) → (p ≤ np) → (misc g a np nl i k np 0 = misc g a np nl i k (np - p) p) → (wit k 1 3 = true) → J Z 0 0 (cW E q g a s t RV X) 17 [(4, .int (nI p)), (3, .int (mscn g a np nl k p)), (0, .ref (q 40)), (1, .int i), (2, .int k)] [] := by
    intro n_lp
    induction n_lp with
    | zero => intro p hf_lp hi hm hk; omega
    | succ n_lp ih_lp =>
      intro p hf_lp hi hm hk
      refine i_iload B 0 dX8_missing_17 rfl ?_
      refine i_aload_n B 2 dX8_missing_19 rfl ?_
      refine i_get (v := .ref (q 41)) B flX8_10 0 rfl rfl dX8_missing_20 ?_
      refine i_get (v := .int (g 1)) B flX8_64 1 rfl rfl dX8_missing_23 ?_
      refine i_icmp_ge B 64 dX8_missing_26 (by decide) (fun h1 => ?_) (fun h1 => ?_)
      · replace h1 := q_n32.mpr h1
        rw [hn, nI_ltI (by omega) (by omega)] at h1
        refine i_bipush (v := (-9)) B dX8_missing_64 (by decide) ?_
        exact ret _ _ _ rfl dX8_missing_66 (by rw [misC, hk, hm, show np - p = 0 by omega]; rfl)
      · replace h1 := q_m32.mp h1
        rw [hn, nI_ltI (by omega) (by omega)] at h1
        refine i_aload_n B 2 dX8_missing_29 rfl ?_
        refine i_get (v := .ref (q 46)) B flX8_49 0 rfl rfl dX8_missing_30 ?_
        refine i_aload_n B 2 dX8_missing_33 rfl ?_
        refine i_get (v := .ref (q 41)) B flX8_10 0 rfl rfl dX8_missing_34 ?_
        refine i_iload B 0 dX8_missing_37 rfl ?_
        refine i_iload_n B 4 dX8_missing_39 rfl ?_
        refine c_roV (rest := []) (As := [.ref (q 41), .int (nI p), .int k]) B (k_X2_proofs l E q g a np hn hnp nl hl hnl hve hlr p (by omega) k) cal_yX2_proofs iv_yX2_proofs mlX8_181 rfl 17 rfl (by decide) (by decide) rfl (Nat.le_of_ble_eq_true rfl) (Has.of [17, 18, 19, 20, 21, 1, 2, 3, 4, 5] rfl rfl) _ rfl dX8_missing_40 (fun r hr => ?_)
        subst hr
        refine i_val (v' := .int (pvc g a np p k nl)) rfl ?_
        refine i_iload_n B 4 dX8_missing_43 rfl ?_
        refine i_icmp_ge B 58 dX8_missing_44 (by decide) (fun h2 => ?_) (fun h2 => ?_)
        · replace h2 := q_n32.mpr h2
          refine i_iinc (v := (nI (p + 1))) B 0 [(4, .int (nI (p + 1))), (3, .int (mscn g a np nl k p)), (0, .ref (q 40)), (1, .int i), (2, .int k)] dX8_missing_58 rfl ((nI_1 _)) (by decide) rfl ?_
          refine i_goto B 17 dX8_missing_61 (by decide) ?_
          refine i_Leq (congrArg (fun z_9 => ([(4, .int (nI (p + 1))), (3, .int z_9), (0, .ref (q 40)), (1, .int i), (2, .int k)] : List (Nat × Value))) (show ((mscn g a np nl k p) : Int32) = (mscn g a np nl k (p + 1)) from by rw [mscn]; simp only [h2, decide_true, decide_false, Bool.not_true, Bool.not_false, Bool.true_and, Bool.false_and, Bool.and_true, Bool.and_false, Bool.true_or, Bool.or_true, Bool.false_or, Bool.or_false, Bool.and_self, Bool.or_self, bI_t, bI_f, if_true, if_false, ite_true, ite_false, Bool.false_eq_true, Bool.true_eq_false, eq_self, reduceIte, true_or, or_true, false_or, or_false, and_true, true_and, and_false, false_and, not_true_eq_false, not_false_eq_true, decide_eq_true_eq, decide_eq_false_iff_not, Int32.add_zero])) ?_
          exact ih_lp (p + 1) (by omega) (by omega) (hm.trans (by rw [show np - p = (np - (p + 1)) + 1 by omega, misc]; simp only [h2, decide_true, decide_false, Bool.not_true, Bool.not_false, Bool.true_and, Bool.false_and, Bool.and_true, Bool.and_false, Bool.true_or, Bool.or_true, Bool.false_or, Bool.or_false, Bool.and_self, Bool.or_self, bI_t, bI_f, if_true, if_false, ite_true, ite_false, Bool.false_eq_true, Bool.true_eq_false, eq_self, reduceIte, true_or, or_true, false_or, or_false, and_true, true_and, and_false, false_and, not_true_eq_false, not_false_eq_true, decide_eq_true_eq, decide_eq_false_iff_not])) hk
        · replace h2 := q_m32.mp h2
          refine i_iload_n B 1 dX8_missing_47 rfl ?_
          refine i_iload_n B 3 dX8_missing_48 rfl ?_
          refine i_icmp_ne B 55 dX8_missing_49 (by decide) (fun h3 => ?_) (fun h3 => ?_)
          · have h3d := decide_eq_false h3
            refine i_iinc (v := ((mscn g a np nl k p) + 1)) B 1 [(3, .int ((mscn g a np nl k p) + 1)), (4, .int (nI p)), (0, .ref (q 40)), (1, .int i), (2, .int k)] dX8_missing_55 rfl (rfl) (by decide) rfl ?_
            refine i_iinc (v := (nI (p + 1))) B 1 [(4, .int (nI (p + 1))), (3, .int ((mscn g a np nl k p) + 1)), (0, .ref (q 40)), (1, .int i), (2, .int k)] dX8_missing_58 rfl ((nI_1 _)) (by decide) rfl ?_
            refine i_goto B 17 dX8_missing_61 (by decide) ?_
            refine i_Leq (congrArg (fun z_9 => ([(4, .int (nI (p + 1))), (3, .int z_9), (0, .ref (q 40)), (1, .int i), (2, .int k)] : List (Nat × Value))) (show (((mscn g a np nl k p) + 1) : Int32) = (mscn g a np nl k (p + 1)) from by rw [mscn]; simp only [h2, h3d, decide_true, decide_false, Bool.not_true, Bool.not_false, Bool.true_and, Bool.false_and, Bool.and_true, Bool.and_false, Bool.true_or, Bool.or_true, Bool.false_or, Bool.or_false, Bool.and_self, Bool.or_self, bI_t, bI_f, if_true, if_false, ite_true, ite_false, Bool.false_eq_true, Bool.true_eq_false, eq_self, reduceIte, true_or, or_true, false_or, or_false, and_true, true_and, and_false, false_and, not_true_eq_false, not_false_eq_true, decide_eq_true_eq, decide_eq_false_iff_not, Int32.add_zero])) ?_
            exact ih_lp (p + 1) (by omega) (by omega) (hm.trans (by rw [show np - p = (np - (p + 1)) + 1 by omega, misc]; simp only [h2, h3d, decide_true, decide_false, Bool.not_true, Bool.not_false, Bool.true_and, Bool.false_and, Bool.and_true, Bool.and_false, Bool.true_or, Bool.or_true, Bool.false_or, Bool.or_false, Bool.and_self, Bool.or_self, bI_t, bI_f, if_true, if_false, ite_true, ite_false, Bool.false_eq_true, Bool.true_eq_false, eq_self, reduceIte, true_or, or_true, false_or, or_false, and_true, true_and, and_false, false_and, not_true_eq_false, not_false_eq_true, decide_eq_true_eq, decide_eq_false_iff_not])) hk
          · have h3d := decide_eq_true h3
            refine i_iload B 0 dX8_missing_52 rfl ?_
            exact ret _ _ _ rfl dX8_missing_54 (by rw [misC, hk, hm, show np - p = (np - (p + 1)) + 1 by omega, misc]; simp only [h2, h3d, decide_true, decide_false, Bool.not_true, Bool.not_false, Bool.true_and, Bool.false_and, Bool.and_true, Bool.and_false, Bool.true_or, Bool.or_true, Bool.false_or, Bool.or_false, Bool.and_self, Bool.or_self, bI_t, bI_f, if_true, if_false, ite_true, ite_false, Bool.false_eq_true, Bool.true_eq_false, eq_self, reduceIte, true_or, or_true, false_or, or_false, and_true, true_and, and_false, false_and, not_true_eq_false, not_false_eq_true, decide_eq_true_eq, decide_eq_false_iff_not])
  refine i_iload_n B 2 dX8_missing_0 rfl ?_
  refine i_iconst (v := 1) B dX8_missing_1 (by decide) ?_
  refine i_iconst (v := 3) B dX8_missing_2 (by decide) ?_
  refine c_roS (rest := []) (As := [.int k, .int 1, .int 3]) B (k_X8_isWithin l E k 1 3) cal_yX8_isWithin is_yX8_isWithin mlX8_72 (by decide) (by decide) rfl (Nat.le_of_ble_eq_true rfl) Has.nil _ rfl dX8_missing_3 (fun r hr => ?_)
  subst hr
  refine i_val (v' := .int (bI (wit k 1 3))) rfl ?_
  refine i_if_ne B 12 dX8_missing_6 (by decide) (fun h4 => ?_) (fun h4 => ?_)
  · replace h4 := bI_n.mp h4
    refine i_iconst (v := 0) B dX8_missing_12 (by decide) ?_
    refine i_istore_n B [(3, .int 0), (0, .ref (q 40)), (1, .int i), (2, .int k)] dX8_missing_13 (by decide) rfl ?_
    refine i_iconst (v := 0) B dX8_missing_14 (by decide) ?_
    refine i_istore B [(4, .int 0), (3, .int 0), (0, .ref (q 40)), (1, .int i), (2, .int k)] dX8_missing_15 (by decide) rfl ?_
    refine i_Leq (congrArg (fun z_9 => ([(4, .int z_9), (3, .int 0), (0, .ref (q 40)), (1, .int i), (2, .int k)] : List (Nat × Value))) (show (0 : Int32) = (nI 0) from rfl)) ?_
    refine i_Leq (congrArg (fun z_9 => ([(4, .int (nI 0)), (3, .int z_9), (0, .ref (q 40)), (1, .int i), (2, .int k)] : List (Nat × Value))) (show (0 : Int32) = (mscn g a np nl k 0) from rfl)) ?_
    exact lp (np + 1) 0 (by omega) (Nat.zero_le _) rfl h4
  · replace h4 := bI_0.mp h4
    refine i_bipush (v := (-2)) B dX8_missing_9 (by decide) ?_
    exact ret _ _ _ rfl dX8_missing_11 (by simp only [misC, h4, decide_true, decide_false, Bool.not_true, Bool.not_false, Bool.true_and, Bool.false_and, Bool.and_true, Bool.and_false, Bool.true_or, Bool.or_true, Bool.false_or, Bool.or_false, Bool.and_self, Bool.or_self, bI_t, bI_f, if_true, if_false, ite_true, ite_false, Bool.false_eq_true, Bool.true_eq_false, eq_self, reduceIte, true_or, or_true, false_or, or_false, and_true, true_and, and_false, false_and, not_true_eq_false, not_false_eq_true, decide_eq_true_eq, decide_eq_false_iff_not])

set_option maxHeartbeats 4000000 in
set_option maxRecDepth 100000 in
theorem k_X8_mark (l : Launch) (E : ED) (q : Nat → Nat) (g : Nat → Int32) (a : Nat → Nat → Int32) (s : Nat → Int32) (t : Nat → Nat → Int32) (RV : Value) (X : va_W) (np : Nat) (hn : g 1 = nI np) (hnp : np ≤ 12) (nm : Nat) (hm : g 24 = nI nm) (hnm : nm ≤ 40) (p at_ len yr : Int32) : WR l E yX8_mark cX8_mark 5 .int 2 42 0 0 [.ref (q 40), .int p, .int at_, .int len, .int yr] (cW E q g a s t RV X) (fun r u => (r, u) = markF g a nm p at_ len yr) (fun u : GA => cW E q u.1 u.2 s t RV X) := by
  refine WR.mk (by decide) (Nat.le_of_ble_eq_true rfl) [(0, .ref (q 40)), (1, .int p), (2, .int at_), (3, .int len), (4, .int yr)] rfl (fun Z B ret => ?_)
  refine i_aload_n B 0 dX8_mark_0 rfl ?_
  refine i_iload_n B 1 dX8_mark_1 rfl ?_
  refine c_roV (rest := []) (As := [.int p]) B (k_X8_isPanel l E q g a s t RV X np hn hnp p) cal_yX8_isPanel iv_yX8_isPanel mlX8_86 rfl 0 rfl (by decide) (by decide) rfl (Nat.le_of_ble_eq_true rfl) Has.rf _ rfl dX8_mark_2 (fun r hr => ?_)
  subst hr
  refine i_val (v' := .int (bI (wit p 0 ((g 1) - 1)))) rfl ?_
  refine i_if_ne B 10 dX8_mark_5 (by decide) (fun h1 => ?_) (fun h1 => ?_)
  · replace h1 := bI_n.mp h1
    refine i_iload_n B 2 dX8_mark_10 rfl ?_
    refine i_iconst (v := 0) B dX8_mark_11 (by decide) ?_
    refine i_sipush (v := 1000) B dX8_mark_12 (by decide) ?_
    refine c_roS (rest := []) (As := [.int at_, .int 0, .int 1000]) B (k_X8_isWithin l E at_ 0 1000) cal_yX8_isWithin is_yX8_isWithin mlX8_72 (by decide) (by decide) rfl (Nat.le_of_ble_eq_true rfl) Has.nil _ rfl dX8_mark_15 (fun r hr => ?_)
    subst hr
    refine i_val (v' := .int (bI (wit at_ 0 1000))) rfl ?_
    refine i_if_eq B 40 dX8_mark_18 (by decide) (fun h2 => ?_) (fun h2 => ?_)
    · replace h2 := bI_0.mp h2
      refine i_bipush (v := (-2)) B dX8_mark_40 (by decide) ?_
      exact ret _ _ _ (g, a) rfl dX8_mark_42 (by simp only [markF, h1, h2, decide_true, decide_false, Bool.not_true, Bool.not_false, Bool.true_and, Bool.false_and, Bool.and_true, Bool.and_false, Bool.true_or, Bool.or_true, Bool.false_or, Bool.or_false, Bool.and_self, Bool.or_self, bI_t, bI_f, if_true, if_false, ite_true, ite_false, Bool.false_eq_true, Bool.true_eq_false, eq_self, reduceIte, true_or, or_true, false_or, or_false, and_true, true_and, and_false, false_and, not_true_eq_false, not_false_eq_true, decide_eq_true_eq, decide_eq_false_iff_not])
    · replace h2 := bI_n.mp h2
      refine i_iload_n B 3 dX8_mark_21 rfl ?_
      refine i_iconst (v := 0) B dX8_mark_22 (by decide) ?_
      refine i_sipush (v := 500) B dX8_mark_23 (by decide) ?_
      refine c_roS (rest := []) (As := [.int len, .int 0, .int 500]) B (k_X8_isWithin l E len 0 500) cal_yX8_isWithin is_yX8_isWithin mlX8_72 (by decide) (by decide) rfl (Nat.le_of_ble_eq_true rfl) Has.nil _ rfl dX8_mark_26 (fun r hr => ?_)
      subst hr
      refine i_val (v' := .int (bI (wit len 0 500))) rfl ?_
      refine i_if_eq B 40 dX8_mark_29 (by decide) (fun h3 => ?_) (fun h3 => ?_)
      · replace h3 := bI_0.mp h3
        refine i_bipush (v := (-2)) B dX8_mark_40 (by decide) ?_
        exact ret _ _ _ (g, a) rfl dX8_mark_42 (by simp only [markF, h1, h2, h3, decide_true, decide_false, Bool.not_true, Bool.not_false, Bool.true_and, Bool.false_and, Bool.and_true, Bool.and_false, Bool.true_or, Bool.or_true, Bool.false_or, Bool.or_false, Bool.and_self, Bool.or_self, bI_t, bI_f, if_true, if_false, ite_true, ite_false, Bool.false_eq_true, Bool.true_eq_false, eq_self, reduceIte, true_or, or_true, false_or, or_false, and_true, true_and, and_false, false_and, not_true_eq_false, not_false_eq_true, decide_eq_true_eq, decide_eq_false_iff_not])
      · replace h3 := bI_n.mp h3
        refine i_iload B 4 dX8_mark_32 rfl ?_
        refine c_roS (rest := []) (As := [.int yr]) B (k_X8_isYear l E yr) cal_yX8_isYear is_yX8_isYear mlX8_185 (by decide) (by decide) rfl (Nat.le_of_ble_eq_true rfl) Has.nil _ rfl dX8_mark_34 (fun r hr => ?_)
        subst hr
        refine i_val (v' := .int (bI (wit yr 0 9))) rfl ?_
        refine i_if_ne B 43 dX8_mark_37 (by decide) (fun h4 => ?_) (fun h4 => ?_)
        · replace h4 := bI_n.mp h4
          refine i_aload_n B 0 dX8_mark_43 rfl ?_
          refine i_get (v := .ref (q 48)) B flX8_56 0 rfl rfl dX8_mark_44 ?_
          refine i_get (v := .int (g 24)) B flX8_188 22 rfl rfl dX8_mark_47 ?_
          refine i_bipush (v := 40) B dX8_mark_50 (by decide) ?_
          refine i_icmp_lt B 58 dX8_mark_52 (by decide) (fun h5 => ?_) (fun h5 => ?_)
          · rw [hm, show (40 : Int32) = nI 40 from rfl, nI_ltI (by omega) (by omega)] at h5
            refine i_aload_n B 0 dX8_mark_58 rfl ?_
            refine i_get (v := .ref (q 48)) B flX8_56 0 rfl rfl dX8_mark_59 ?_
            refine i_iload_n B 1 dX8_mark_62 rfl ?_
            refine i_iload_n B 2 dX8_mark_63 rfl ?_
            refine i_iload_n B 3 dX8_mark_64 rfl ?_
            refine i_iload B 4 dX8_mark_65 rfl ?_
            refine c_wiV (cells := 0) (slots := 0) (rest := []) (As := [.int p, .int at_, .int len, .int yr]) B (k_X4_add l E q g a s t nm hm (by omega) p at_ len yr) cal_yX4_add iv_yX4_add mlX8_189 rfl 22 rfl (by decide) (by decide) rfl (Nat.le_of_ble_eq_true rfl) ([((q 40), .inr (8, [.ref (q 41), .ref (q 42), .ref (q 43), .ref (q 44), .ref (q 45), .ref (q 46), .ref (q 48), RV])), ((q 41), .inr (7, [.ref (q 2), .ref (q 3), .ref (q 4), .ref (q 5), .int (g 1), .int (g 6), .int (g 7)])), ((q 2), .inl (E.2.1, 12, .inl (a 2))), ((q 3), .inl (E.2.1, 12, .inl (a 3))), ((q 4), .inl (E.2.1, 12, .inl (a 4))), ((q 5), .inl (E.2.1, 12, .inl (a 5))), ((q 42), .inr (5, [.ref (q 9), .ref (q 10), .int (g 8)])), ((q 9), .inl (E.2.1, 10, .inl (a 9))), ((q 10), .inl (E.2.1, 10, .inl (a 10))), ((q 43), .inr (3, [.ref (q 50), .int (s 60)])), ((q 50), .inl (E.2.1, 12, .inl (t 50))), ((q 44), .inr (0, [.ref (q 12), .ref (q 13), .ref (q 14), .ref (q 15), .int (g 11), .int (g 16), .int (g 17)])), ((q 12), .inl (E.2.1, 4, .inl (a 12))), ((q 13), .inl (E.2.1, 4, .inl (a 13))), ((q 14), .inl (E.2.1, 4, .inl (a 14))), ((q 15), .inl (E.2.1, 4, .inl (a 15))), ((q 45), .inr (1, [.int (g 90), .int (g 91), .int (g 18), .int (g 19)])), ((q 46), .inr (2, [.ref (q 47), .ref (q 23)])), ((q 47), .inr (5, [.ref (q 21), .ref (q 22), .int (g 20)])), ((q 21), .inl (E.2.1, 20, .inl (a 21))), ((q 22), .inl (E.2.1, 20, .inl (a 22))), ((q 23), .inl (E.2.1, 20, .inl (a 23)))]) ([] ++ X) rfl _ rfl dX8_mark_67 (fun r _ hr => ?_)
            subst hr
            refine i_world (ws' := (cW E q (upd g 24 (nI (nm + 1))) (va_up (va_up (va_up (va_up a 25 (upd (a 25) nm p)) 26 (upd (a 26) nm at_)) 27 (upd (a 27) nm len)) 28 (upd (a 28) nm yr)) s t RV X)) rfl ?_
            exact ret _ _ _ ((upd g 24 (nI (nm + 1))), (va_up (va_up (va_up (va_up a 25 (upd (a 25) nm p)) 26 (upd (a 26) nm at_)) 27 (upd (a 27) nm len)) 28 (upd (a 28) nm yr))) rfl dX8_mark_70 (by have e9 : decide (nm = 40) = false := decide_eq_false (by omega); simp only [markF, h1, h2, h3, h4, h5, e9, decide_true, decide_false, Bool.not_true, Bool.not_false, Bool.true_and, Bool.false_and, Bool.and_true, Bool.and_false, Bool.true_or, Bool.or_true, Bool.false_or, Bool.or_false, Bool.and_self, Bool.or_self, bI_t, bI_f, if_true, if_false, ite_true, ite_false, Bool.false_eq_true, Bool.true_eq_false, eq_self, reduceIte, true_or, or_true, false_or, or_false, and_true, true_and, and_false, false_and, not_true_eq_false, not_false_eq_true, decide_eq_true_eq, decide_eq_false_iff_not])
          · rw [hm, show (40 : Int32) = nI 40 from rfl, nI_ltI (by omega) (by omega)] at h5
            refine i_bipush (v := (-4)) B dX8_mark_55 (by decide) ?_
            exact ret _ _ _ (g, a) rfl dX8_mark_57 (by have e9 : decide (nm = 40) = true := decide_eq_true (by omega); simp only [markF, h1, h2, h3, h4, h5, e9, decide_true, decide_false, Bool.not_true, Bool.not_false, Bool.true_and, Bool.false_and, Bool.and_true, Bool.and_false, Bool.true_or, Bool.or_true, Bool.false_or, Bool.or_false, Bool.and_self, Bool.or_self, bI_t, bI_f, if_true, if_false, ite_true, ite_false, Bool.false_eq_true, Bool.true_eq_false, eq_self, reduceIte, true_or, or_true, false_or, or_false, and_true, true_and, and_false, false_and, not_true_eq_false, not_false_eq_true, decide_eq_true_eq, decide_eq_false_iff_not])
        · replace h4 := bI_0.mp h4
          refine i_bipush (v := (-2)) B dX8_mark_40 (by decide) ?_
          exact ret _ _ _ (g, a) rfl dX8_mark_42 (by simp only [markF, h1, h2, h3, h4, decide_true, decide_false, Bool.not_true, Bool.not_false, Bool.true_and, Bool.false_and, Bool.and_true, Bool.and_false, Bool.true_or, Bool.or_true, Bool.false_or, Bool.or_false, Bool.and_self, Bool.or_self, bI_t, bI_f, if_true, if_false, ite_true, ite_false, Bool.false_eq_true, Bool.true_eq_false, eq_self, reduceIte, true_or, or_true, false_or, or_false, and_true, true_and, and_false, false_and, not_true_eq_false, not_false_eq_true, decide_eq_true_eq, decide_eq_false_iff_not])
  · replace h1 := bI_0.mp h1
    refine i_iconst (v := (-1)) B dX8_mark_8 (by decide) ?_
    exact ret _ _ _ (g, a) rfl dX8_mark_9 (by simp only [markF, h1, decide_true, decide_false, Bool.not_true, Bool.not_false, Bool.true_and, Bool.false_and, Bool.and_true, Bool.and_false, Bool.true_or, Bool.or_true, Bool.false_or, Bool.or_false, Bool.and_self, Bool.or_self, bI_t, bI_f, if_true, if_false, ite_true, ite_false, Bool.false_eq_true, Bool.true_eq_false, eq_self, reduceIte, true_or, or_true, false_or, or_false, and_true, true_and, and_false, false_and, not_true_eq_false, not_false_eq_true, decide_eq_true_eq, decide_eq_false_iff_not])

set_option maxHeartbeats 4000000 in
set_option maxRecDepth 100000 in
theorem k_X8_wipe (l : Launch) (E : ED) (q : Nat → Nat) (g : Nat → Int32) (a : Nat → Nat → Int32) (s : Nat → Int32) (t : Nat → Nat → Int32) (RV : Value) (X : va_W) (nm : Nat) (hm : g 24 = nI nm) (hnm : nm ≤ 40) (m : Int32) : WR l E yX8_wipe cX8_wipe 2 .int 0 0 0 0 [.ref (q 40), .int m] (cW E q g a s t RV X) (fun r u => (r, u) = wipeF g a m) (fun u => cW E q g u s t RV X) := by
  refine WR.mk (by decide) (Nat.le_of_ble_eq_true rfl) [(0, .ref (q 40)), (1, .int m)] rfl (fun Z B ret => ?_)
  refine i_iload_n B 1 dX8_wipe_0 rfl ?_
  refine i_if_lt B 15 dX8_wipe_1 (by decide) (fun h1 => ?_) (fun h1 => ?_)
  · refine i_iconst (v := (-1)) B dX8_wipe_15 (by decide) ?_
    exact ret _ _ _ a rfl dX8_wipe_16 (by rw [wipeF, hm, wit_lo h1]; rfl)
  · refine i_iload_n B 1 dX8_wipe_4 rfl ?_
    refine i_aload_n B 0 dX8_wipe_5 rfl ?_
    refine i_get (v := .ref (q 48)) B flX8_56 0 rfl rfl dX8_wipe_6 ?_
    refine i_get (v := .int (g 24)) B flX8_188 22 rfl rfl dX8_wipe_9 ?_
    refine i_icmp_lt B 17 dX8_wipe_12 (by decide) (fun h2 => ?_) (fun h2 => ?_)
    · rw [hm] at h2
      obtain ⟨j, hj, rfl⟩ := lt_ix (n := nm) (by omega) h1 h2
      refine i_aload_n B 0 dX8_wipe_17 rfl ?_
      refine i_get (v := .ref (q 48)) B flX8_56 0 rfl rfl dX8_wipe_18 ?_
      refine i_get (v := .ref (q 29)) B flX8_190 22 rfl rfl dX8_wipe_21 ?_
      refine i_iload_n B 1 dX8_wipe_24 rfl ?_
      refine i_zaldN B 27 j rfl rfl (by omega) (by decide) dX8_wipe_25 ?_
      refine i_if_eq B 32 dX8_wipe_26 (by decide) (fun h3 => ?_) (fun h3 => ?_)
      · have h3d := decide_eq_true h3
        refine i_aload_n B 0 dX8_wipe_32 rfl ?_
        refine i_get (v := .ref (q 48)) B flX8_56 0 rfl rfl dX8_wipe_33 ?_
        refine i_get (v := .ref (q 29)) B flX8_190 22 rfl rfl dX8_wipe_36 ?_
        refine i_iload_n B 1 dX8_wipe_39 rfl ?_
        refine i_iconst (v := 1) B dX8_wipe_40 (by decide) ?_
        refine i_zastN (f := (a 29)) B 27 j (cW E q g (va_up a 29 (upd (a 29) j 1)) s t RV X) rfl rfl (by omega) (by decide) rfl dX8_wipe_41 ?_
        refine i_iconst (v := 1) B dX8_wipe_42 (by decide) ?_
        exact ret _ _ _ (va_up a 29 (upd (a 29) j 1)) rfl dX8_wipe_43 (by rw [wipeF, hm, ix_wit (by omega) hj, ix_nI (by omega)]; simp only [h3d, decide_true, decide_false, Bool.not_true, Bool.not_false, Bool.true_and, Bool.false_and, Bool.and_true, Bool.and_false, Bool.true_or, Bool.or_true, Bool.false_or, Bool.or_false, Bool.and_self, Bool.or_self, bI_t, bI_f, if_true, if_false, ite_true, ite_false, Bool.false_eq_true, Bool.true_eq_false, eq_self, reduceIte, true_or, or_true, false_or, or_false, and_true, true_and, and_false, false_and, not_true_eq_false, not_false_eq_true, decide_eq_true_eq, decide_eq_false_iff_not])
      · have h3d := decide_eq_false h3
        refine i_bipush (v := (-3)) B dX8_wipe_29 (by decide) ?_
        exact ret _ _ _ a rfl dX8_wipe_31 (by rw [wipeF, hm, ix_wit (by omega) hj, ix_nI (by omega)]; simp only [h3d, decide_true, decide_false, Bool.not_true, Bool.not_false, Bool.true_and, Bool.false_and, Bool.and_true, Bool.and_false, Bool.true_or, Bool.or_true, Bool.false_or, Bool.or_false, Bool.and_self, Bool.or_self, bI_t, bI_f, if_true, if_false, ite_true, ite_false, Bool.false_eq_true, Bool.true_eq_false, eq_self, reduceIte, true_or, or_true, false_or, or_false, and_true, true_and, and_false, false_and, not_true_eq_false, not_false_eq_true, decide_eq_true_eq, decide_eq_false_iff_not])
    · rw [hm] at h2
      refine i_iconst (v := (-1)) B dX8_wipe_15 (by decide) ?_
      exact ret _ _ _ a rfl dX8_wipe_16 (by rw [wipeF, hm, wit_hi (by omega) h1 h2]; rfl)

set_option maxHeartbeats 4000000 in
set_option maxRecDepth 100000 in
theorem k_X8_marks (l : Launch) (E : ED) (q : Nat → Nat) (g : Nat → Int32) (a : Nat → Nat → Int32) (s : Nat → Int32) (t : Nat → Nat → Int32) (RV : Value) (X : va_W) (np : Nat) (hn : g 1 = nI np) (hnp : np ≤ 12) (nm : Nat) (hm : g 24 = nI nm) (hnm : nm ≤ 40) (p y z : Int32) : RO l E yX8_marks cX8_marks 4 .int 2 48 [.ref (q 40), .int p, .int y, .int z] (cW E q g a s t RV X) (fun r => r = marksF g a nm p y z) := by
  refine RO.mk (by decide) (Nat.le_of_ble_eq_true rfl) [(0, .ref (q 40)), (1, .int p), (2, .int y), (3, .int z)] rfl (fun Z B ret => ?_)
  refine i_aload_n B 0 dX8_marks_0 rfl ?_
  refine i_iload_n B 1 dX8_marks_1 rfl ?_
  refine c_roV (rest := []) (As := [.int p]) B (k_X8_isPanel l E q g a s t RV X np hn hnp p) cal_yX8_isPanel iv_yX8_isPanel mlX8_86 rfl 0 rfl (by decide) (by decide) rfl (Nat.le_of_ble_eq_true rfl) Has.rf _ rfl dX8_marks_2 (fun r hr => ?_)
  subst hr
  refine i_val (v' := .int (bI (wit p 0 ((g 1) - 1)))) rfl ?_
  refine i_if_ne B 10 dX8_marks_5 (by decide) (fun h1 => ?_) (fun h1 => ?_)
  · replace h1 := bI_n.mp h1
    refine i_iload_n B 2 dX8_marks_10 rfl ?_
    refine c_roS (rest := []) (As := [.int y]) B (k_X8_isYear l E y) cal_yX8_isYear is_yX8_isYear mlX8_185 (by decide) (by decide) rfl (Nat.le_of_ble_eq_true rfl) Has.nil _ rfl dX8_marks_11 (fun r hr => ?_)
    subst hr
    refine i_val (v' := .int (bI (wit y 0 9))) rfl ?_
    refine i_if_ne B 20 dX8_marks_14 (by decide) (fun h2 => ?_) (fun h2 => ?_)
    · replace h2 := bI_n.mp h2
      refine i_aload_n B 0 dX8_marks_20 rfl ?_
      refine i_get (v := .ref (q 48)) B flX8_56 0 rfl rfl dX8_marks_21 ?_
      refine i_iload_n B 1 dX8_marks_24 rfl ?_
      refine i_iload_n B 2 dX8_marks_25 rfl ?_
      refine i_iload_n B 3 dX8_marks_26 rfl ?_
      refine c_roV (rest := []) (As := [.int p, .int y, .int z]) B (k_X4_sum l E q g a s t nm hm hnm p y z) cal_yX4_sum iv_yX4_sum mlX8_194 rfl 22 rfl (by decide) (by decide) rfl (Nat.le_of_ble_eq_true rfl) (Has.of [22, 23, 24, 25, 26, 27, 28, 29, 30] rfl rfl) _ rfl dX8_marks_27 (fun r hr => ?_)
      subst hr
      refine i_val (v' := .int (mks a p y z nm)) rfl ?_
      exact ret _ _ _ rfl dX8_marks_30 (by simp only [marksF, h1, h2, decide_true, decide_false, Bool.not_true, Bool.not_false, Bool.true_and, Bool.false_and, Bool.and_true, Bool.and_false, Bool.true_or, Bool.or_true, Bool.false_or, Bool.or_false, Bool.and_self, Bool.or_self, bI_t, bI_f, if_true, if_false, ite_true, ite_false, Bool.false_eq_true, Bool.true_eq_false, eq_self, reduceIte, true_or, or_true, false_or, or_false, and_true, true_and, and_false, false_and, not_true_eq_false, not_false_eq_true, decide_eq_true_eq, decide_eq_false_iff_not])
    · replace h2 := bI_0.mp h2
      refine i_bipush (v := (-2)) B dX8_marks_17 (by decide) ?_
      exact ret _ _ _ rfl dX8_marks_19 (by simp only [marksF, h1, h2, decide_true, decide_false, Bool.not_true, Bool.not_false, Bool.true_and, Bool.false_and, Bool.and_true, Bool.and_false, Bool.true_or, Bool.or_true, Bool.false_or, Bool.or_false, Bool.and_self, Bool.or_self, bI_t, bI_f, if_true, if_false, ite_true, ite_false, Bool.false_eq_true, Bool.true_eq_false, eq_self, reduceIte, true_or, or_true, false_or, or_false, and_true, true_and, and_false, false_and, not_true_eq_false, not_false_eq_true, decide_eq_true_eq, decide_eq_false_iff_not])
  · replace h1 := bI_0.mp h1
    refine i_iconst (v := (-1)) B dX8_marks_8 (by decide) ?_
    exact ret _ _ _ rfl dX8_marks_9 (by simp only [marksF, h1, decide_true, decide_false, Bool.not_true, Bool.not_false, Bool.true_and, Bool.false_and, Bool.and_true, Bool.and_false, Bool.true_or, Bool.or_true, Bool.false_or, Bool.or_false, Bool.and_self, Bool.or_self, bI_t, bI_f, if_true, if_false, ite_true, ite_false, Bool.false_eq_true, Bool.true_eq_false, eq_self, reduceIte, true_or, or_true, false_or, or_false, and_true, true_and, and_false, false_and, not_true_eq_false, not_false_eq_true, decide_eq_true_eq, decide_eq_false_iff_not])

set_option maxHeartbeats 4000000 in
set_option maxRecDepth 100000 in
theorem k_X8_count (l : Launch) (E : ED) (q : Nat → Nat) (g : Nat → Int32) (a : Nat → Nat → Int32) (s : Nat → Int32) (t : Nat → Nat → Int32) (RV : Value) (X : va_W) (nm : Nat) (hm : g 24 = nI nm) (hnm : nm ≤ 40) (what : Int32) : RO l E yX8_count cX8_count 2 .int 1 22 [.ref (q 40), .int what] (cW E q g a s t RV X) (fun r => r = countF g a nm what) := by
  refine RO.mk (by decide) (Nat.le_of_ble_eq_true rfl) [(0, .ref (q 40)), (1, .int what)] rfl (fun Z B ret => ?_)
  refine i_iload_n B 1 dX8_count_0 rfl ?_
  by_cases h1 : what = 0
  · refine i_tabI B 36 dX8_count_1 (by rw [h1]; decide) (by rw [h1]; decide) (by rw [h1]; rfl) (by decide) ?_
    have h1d := decide_eq_true h1
    refine i_aload_n B 0 dX8_count_36 rfl ?_
    refine i_get (v := .ref (q 41)) B flX8_10 0 rfl rfl dX8_count_37 ?_
    refine i_get (v := .int (g 1)) B flX8_64 1 rfl rfl dX8_count_40 ?_
    exact ret _ _ _ rfl dX8_count_43 (by simp only [countF, h1d, decide_true, decide_false, Bool.not_true, Bool.not_false, Bool.true_and, Bool.false_and, Bool.and_true, Bool.and_false, Bool.true_or, Bool.or_true, Bool.false_or, Bool.or_false, Bool.and_self, Bool.or_self, bI_t, bI_f, if_true, if_false, ite_true, ite_false, Bool.false_eq_true, Bool.true_eq_false, eq_self, reduceIte, true_or, or_true, false_or, or_false, and_true, true_and, and_false, false_and, not_true_eq_false, not_false_eq_true, decide_eq_true_eq, decide_eq_false_iff_not])
  by_cases h2 : what = 1
  · refine i_tabI B 44 dX8_count_1 (by rw [h2]; decide) (by rw [h2]; decide) (by rw [h2]; rfl) (by decide) ?_
    have h2d := decide_eq_true h2
    have h1d := decide_eq_false h1
    refine i_aload_n B 0 dX8_count_44 rfl ?_
    refine i_get (v := .ref (q 42)) B flX8_21 0 rfl rfl dX8_count_45 ?_
    refine i_get (v := .int (g 8)) B flX8_82 6 rfl rfl dX8_count_48 ?_
    exact ret _ _ _ rfl dX8_count_51 (by simp only [countF, h1d, h2d, decide_true, decide_false, Bool.not_true, Bool.not_false, Bool.true_and, Bool.false_and, Bool.and_true, Bool.and_false, Bool.true_or, Bool.or_true, Bool.false_or, Bool.or_false, Bool.and_self, Bool.or_self, bI_t, bI_f, if_true, if_false, ite_true, ite_false, Bool.false_eq_true, Bool.true_eq_false, eq_self, reduceIte, true_or, or_true, false_or, or_false, and_true, true_and, and_false, false_and, not_true_eq_false, not_false_eq_true, decide_eq_true_eq, decide_eq_false_iff_not])
  by_cases h3 : what = 2
  · refine i_tabI B 52 dX8_count_1 (by rw [h3]; decide) (by rw [h3]; decide) (by rw [h3]; rfl) (by decide) ?_
    have h3d := decide_eq_true h3
    have h1d := decide_eq_false h1
    have h2d := decide_eq_false h2
    refine i_aload_n B 0 dX8_count_52 rfl ?_
    refine i_get (v := .ref (q 44)) B flX8_35 0 rfl rfl dX8_count_53 ?_
    refine i_get (v := .int (g 11)) B flX8_121 11 rfl rfl dX8_count_56 ?_
    exact ret _ _ _ rfl dX8_count_59 (by simp only [countF, h1d, h2d, h3d, decide_true, decide_false, Bool.not_true, Bool.not_false, Bool.true_and, Bool.false_and, Bool.and_true, Bool.and_false, Bool.true_or, Bool.or_true, Bool.false_or, Bool.or_false, Bool.and_self, Bool.or_self, bI_t, bI_f, if_true, if_false, ite_true, ite_false, Bool.false_eq_true, Bool.true_eq_false, eq_self, reduceIte, true_or, or_true, false_or, or_false, and_true, true_and, and_false, false_and, not_true_eq_false, not_false_eq_true, decide_eq_true_eq, decide_eq_false_iff_not])
  by_cases h4 : what = 3
  · refine i_tabI B 60 dX8_count_1 (by rw [h4]; decide) (by rw [h4]; decide) (by rw [h4]; rfl) (by decide) ?_
    have h4d := decide_eq_true h4
    have h1d := decide_eq_false h1
    have h2d := decide_eq_false h2
    have h3d := decide_eq_false h3
    refine i_aload_n B 0 dX8_count_60 rfl ?_
    refine i_get (v := .ref (q 46)) B flX8_49 0 rfl rfl dX8_count_61 ?_
    refine i_get (v := .ref (q 47)) B flX8_171 17 rfl rfl dX8_count_64 ?_
    refine i_get (v := .int (g 20)) B flX8_82 18 rfl rfl dX8_count_67 ?_
    exact ret _ _ _ rfl dX8_count_70 (by simp only [countF, h1d, h2d, h3d, h4d, decide_true, decide_false, Bool.not_true, Bool.not_false, Bool.true_and, Bool.false_and, Bool.and_true, Bool.and_false, Bool.true_or, Bool.or_true, Bool.false_or, Bool.or_false, Bool.and_self, Bool.or_self, bI_t, bI_f, if_true, if_false, ite_true, ite_false, Bool.false_eq_true, Bool.true_eq_false, eq_self, reduceIte, true_or, or_true, false_or, or_false, and_true, true_and, and_false, false_and, not_true_eq_false, not_false_eq_true, decide_eq_true_eq, decide_eq_false_iff_not])
  by_cases h5 : what = 4
  · refine i_tabI B 71 dX8_count_1 (by rw [h5]; decide) (by rw [h5]; decide) (by rw [h5]; rfl) (by decide) ?_
    have h5d := decide_eq_true h5
    have h1d := decide_eq_false h1
    have h2d := decide_eq_false h2
    have h3d := decide_eq_false h3
    have h4d := decide_eq_false h4
    refine i_aload_n B 0 dX8_count_71 rfl ?_
    refine i_get (v := .ref (q 48)) B flX8_56 0 rfl rfl dX8_count_72 ?_
    refine c_roV (rest := []) (As := []) B (k_X4_present l E q g a s t nm hm hnm) cal_yX4_present iv_yX4_present mlX8_207 rfl 22 rfl (by decide) (by decide) rfl (Nat.le_of_ble_eq_true rfl) (Has.of [22, 23, 24, 25, 26, 27, 28, 29, 30] rfl rfl) _ rfl dX8_count_75 (fun r hr => ?_)
    subst hr
    refine i_val (v' := .int (cnw (a 29) nm)) rfl ?_
    exact ret _ _ _ rfl dX8_count_78 (by simp only [countF, h1d, h2d, h3d, h4d, h5d, decide_true, decide_false, Bool.not_true, Bool.not_false, Bool.true_and, Bool.false_and, Bool.and_true, Bool.and_false, Bool.true_or, Bool.or_true, Bool.false_or, Bool.or_false, Bool.and_self, Bool.or_self, bI_t, bI_f, if_true, if_false, ite_true, ite_false, Bool.false_eq_true, Bool.true_eq_false, eq_self, reduceIte, true_or, or_true, false_or, or_false, and_true, true_and, and_false, false_and, not_true_eq_false, not_false_eq_true, decide_eq_true_eq, decide_eq_false_iff_not])
  have h1t : what.toInt ≠ 0 := fun e => h1 (Int32.toInt_inj.mp e)
  have h2t : what.toInt ≠ 1 := fun e => h2 (Int32.toInt_inj.mp e)
  have h3t : what.toInt ≠ 2 := fun e => h3 (Int32.toInt_inj.mp e)
  have h4t : what.toInt ≠ 3 := fun e => h4 (Int32.toInt_inj.mp e)
  have h5t : what.toInt ≠ 4 := fun e => h5 (Int32.toInt_inj.mp e)
  have h1d := decide_eq_false h1
  have h2d := decide_eq_false h2
  have h3d := decide_eq_false h3
  have h4d := decide_eq_false h4
  have h5d := decide_eq_false h5
  refine i_tabO B 79 dX8_count_1 (by omega) (by decide) ?_
  refine i_bipush (v := (-2)) B dX8_count_79 (by decide) ?_
  exact ret _ _ _ rfl dX8_count_81 (by simp only [countF, h1d, h2d, h3d, h4d, h5d, decide_true, decide_false, Bool.not_true, Bool.not_false, Bool.true_and, Bool.false_and, Bool.and_true, Bool.and_false, Bool.true_or, Bool.or_true, Bool.false_or, Bool.or_false, Bool.and_self, Bool.or_self, bI_t, bI_f, if_true, if_false, ite_true, ite_false, Bool.false_eq_true, Bool.true_eq_false, eq_self, reduceIte, true_or, or_true, false_or, or_false, and_true, true_and, and_false, false_and, not_true_eq_false, not_false_eq_true, decide_eq_true_eq, decide_eq_false_iff_not])

set_option maxHeartbeats 4000000 in
set_option maxRecDepth 100000 in
theorem k_X8_match (l : Launch) (E : ED) (q : Nat → Nat) (g : Nat → Int32) (a : Nat → Nat → Int32) (s : Nat → Int32) (t : Nat → Nat → Int32) (RV : Value) (X : va_W) (np : Nat) (hn : g 1 = nI np) (hnp : np ≤ 12) (nm : Nat) (hm : g 24 = nI nm) (hnm : nm ≤ 40) (p y1 y2 tol z : Int32) : WR l E yX8_match cX8_match 6 .int 3 76 0 0 [.ref (q 40), .int p, .int y1, .int y2, .int tol, .int z] (cW E q g a s t RV X) (fun r (_ : (Int32 × Int32) × (Nat → Int32) × (Nat → Int32) × (Nat → Int32)) => r = matC g a nm p y1 y2 tol z) (fun u : (Int32 × Int32) × (Nat → Int32) × (Nat → Int32) × (Nat → Int32) => cW E q g a (upd (upd s 61 u.1.1) 62 u.1.2) (va_up (va_up (va_up t 51 u.2.1) 52 u.2.2.1) 53 u.2.2.2) RV X) := by
  refine WR.mk (by decide) (Nat.le_of_ble_eq_true rfl) [(0, .ref (q 40)), (1, .int p), (2, .int y1), (3, .int y2), (4, .int tol), (5, .int z)] rfl (fun Z B ret => ?_)
  refine i_aload_n B 0 dX8_match_0 rfl ?_
  refine i_iload_n B 1 dX8_match_1 rfl ?_
  refine c_roV (rest := []) (As := [.int p]) B (k_X8_isPanel l E q g a s t RV X np hn hnp p) cal_yX8_isPanel iv_yX8_isPanel mlX8_86 rfl 0 rfl (by decide) (by decide) rfl (Nat.le_of_ble_eq_true rfl) Has.rf _ rfl dX8_match_2 (fun r hr => ?_)
  subst hr
  refine i_val (v' := .int (bI (wit p 0 ((g 1) - 1)))) rfl ?_
  refine i_if_ne B 10 dX8_match_5 (by decide) (fun h1 => ?_) (fun h1 => ?_)
  · replace h1 := bI_n.mp h1
    refine i_iload_n B 2 dX8_match_10 rfl ?_
    refine c_roS (rest := []) (As := [.int y1]) B (k_X8_isYear l E y1) cal_yX8_isYear is_yX8_isYear mlX8_185 (by decide) (by decide) rfl (Nat.le_of_ble_eq_true rfl) Has.nil _ rfl dX8_match_11 (fun r hr => ?_)
    subst hr
    refine i_val (v' := .int (bI (wit y1 0 9))) rfl ?_
    refine i_if_eq B 36 dX8_match_14 (by decide) (fun h2 => ?_) (fun h2 => ?_)
    · replace h2 := bI_0.mp h2
      refine i_bipush (v := (-2)) B dX8_match_36 (by decide) ?_
      exact ret _ _ _ (((s 61), (s 62)), (t 51), (t 52), (t 53)) rfl dX8_match_38 (by simp only [matC, h1, h2, decide_true, decide_false, Bool.not_true, Bool.not_false, Bool.true_and, Bool.false_and, Bool.and_true, Bool.and_false, Bool.true_or, Bool.or_true, Bool.false_or, Bool.or_false, Bool.and_self, Bool.or_self, bI_t, bI_f, if_true, if_false, ite_true, ite_false, Bool.false_eq_true, Bool.true_eq_false, eq_self, reduceIte, true_or, or_true, false_or, or_false, and_true, true_and, and_false, false_and, not_true_eq_false, not_false_eq_true, decide_eq_true_eq, decide_eq_false_iff_not])
    · replace h2 := bI_n.mp h2
      refine i_iload_n B 3 dX8_match_17 rfl ?_
      refine c_roS (rest := []) (As := [.int y2]) B (k_X8_isYear l E y2) cal_yX8_isYear is_yX8_isYear mlX8_185 (by decide) (by decide) rfl (Nat.le_of_ble_eq_true rfl) Has.nil _ rfl dX8_match_18 (fun r hr => ?_)
      subst hr
      refine i_val (v' := .int (bI (wit y2 0 9))) rfl ?_
      refine i_if_eq B 36 dX8_match_21 (by decide) (fun h3 => ?_) (fun h3 => ?_)
      · replace h3 := bI_0.mp h3
        refine i_bipush (v := (-2)) B dX8_match_36 (by decide) ?_
        exact ret _ _ _ (((s 61), (s 62)), (t 51), (t 52), (t 53)) rfl dX8_match_38 (by simp only [matC, h1, h2, h3, decide_true, decide_false, Bool.not_true, Bool.not_false, Bool.true_and, Bool.false_and, Bool.and_true, Bool.and_false, Bool.true_or, Bool.or_true, Bool.false_or, Bool.or_false, Bool.and_self, Bool.or_self, bI_t, bI_f, if_true, if_false, ite_true, ite_false, Bool.false_eq_true, Bool.true_eq_false, eq_self, reduceIte, true_or, or_true, false_or, or_false, and_true, true_and, and_false, false_and, not_true_eq_false, not_false_eq_true, decide_eq_true_eq, decide_eq_false_iff_not])
      · replace h3 := bI_n.mp h3
        refine i_iload B 4 dX8_match_24 rfl ?_
        refine i_iconst (v := 0) B dX8_match_26 (by decide) ?_
        refine i_sipush (v := 1000) B dX8_match_27 (by decide) ?_
        refine c_roS (rest := []) (As := [.int tol, .int 0, .int 1000]) B (k_X8_isWithin l E tol 0 1000) cal_yX8_isWithin is_yX8_isWithin mlX8_72 (by decide) (by decide) rfl (Nat.le_of_ble_eq_true rfl) Has.nil _ rfl dX8_match_30 (fun r hr => ?_)
        subst hr
        refine i_val (v' := .int (bI (wit tol 0 1000))) rfl ?_
        refine i_if_ne B 39 dX8_match_33 (by decide) (fun h4 => ?_) (fun h4 => ?_)
        · replace h4 := bI_n.mp h4
          refine i_iload_n B 2 dX8_match_39 rfl ?_
          refine i_iload_n B 3 dX8_match_40 rfl ?_
          refine i_icmp_ne B 47 dX8_match_41 (by decide) (fun h5 => ?_) (fun h5 => ?_)
          · have h5d := decide_eq_false h5
            refine i_aload_n B 0 dX8_match_47 rfl ?_
            refine i_get (v := .ref (q 48)) B flX8_56 0 rfl rfl dX8_match_48 ?_
            refine i_iload_n B 1 dX8_match_51 rfl ?_
            refine i_iload_n B 2 dX8_match_52 rfl ?_
            refine i_iload_n B 3 dX8_match_53 rfl ?_
            refine i_iload B 4 dX8_match_54 rfl ?_
            refine c_wvV (cells := 0) (slots := 0) (rest := []) (As := [.int p, .int y1, .int y2, .int tol]) B (k_X4_pairUp l E q g a s t nm hm hnm p y1 y2 tol) cal_yX4_pairUp iv_yX4_pairUp mlX8_198 rfl 22 rfl (by decide) (by decide) rfl (Nat.le_of_ble_eq_true rfl) ([((q 40), .inr (8, [.ref (q 41), .ref (q 42), .ref (q 43), .ref (q 44), .ref (q 45), .ref (q 46), .ref (q 48), RV])), ((q 41), .inr (7, [.ref (q 2), .ref (q 3), .ref (q 4), .ref (q 5), .int (g 1), .int (g 6), .int (g 7)])), ((q 2), .inl (E.2.1, 12, .inl (a 2))), ((q 3), .inl (E.2.1, 12, .inl (a 3))), ((q 4), .inl (E.2.1, 12, .inl (a 4))), ((q 5), .inl (E.2.1, 12, .inl (a 5))), ((q 42), .inr (5, [.ref (q 9), .ref (q 10), .int (g 8)])), ((q 9), .inl (E.2.1, 10, .inl (a 9))), ((q 10), .inl (E.2.1, 10, .inl (a 10))), ((q 43), .inr (3, [.ref (q 50), .int (s 60)])), ((q 50), .inl (E.2.1, 12, .inl (t 50))), ((q 44), .inr (0, [.ref (q 12), .ref (q 13), .ref (q 14), .ref (q 15), .int (g 11), .int (g 16), .int (g 17)])), ((q 12), .inl (E.2.1, 4, .inl (a 12))), ((q 13), .inl (E.2.1, 4, .inl (a 13))), ((q 14), .inl (E.2.1, 4, .inl (a 14))), ((q 15), .inl (E.2.1, 4, .inl (a 15))), ((q 45), .inr (1, [.int (g 90), .int (g 91), .int (g 18), .int (g 19)])), ((q 46), .inr (2, [.ref (q 47), .ref (q 23)])), ((q 47), .inr (5, [.ref (q 21), .ref (q 22), .int (g 20)])), ((q 21), .inl (E.2.1, 20, .inl (a 21))), ((q 22), .inl (E.2.1, 20, .inl (a 22))), ((q 23), .inl (E.2.1, 20, .inl (a 23)))]) ([] ++ X) rfl _ rfl dX8_match_56 (fun ⟨r1, r2, r3⟩ hr => ?_)
            refine i_world (ws' := (cW E q g a (upd (upd s 61 (prs (wres a nm p y1 y2 tol))) 62 (drs (wres a nm p y1 y2 tol))) (va_up (va_up (va_up t 51 r1) 52 r2) 53 r3) RV X)) rfl ?_
            refine i_iload B 5 dX8_match_59 rfl ?_
            refine i_if_eq B 74 dX8_match_61 (by decide) (fun h6 => ?_) (fun h6 => ?_)
            · have h6d := decide_eq_true h6
              refine i_aload_n B 0 dX8_match_74 rfl ?_
              refine i_get (v := .ref (q 48)) B flX8_56 0 rfl rfl dX8_match_75 ?_
              refine i_get (v := .int (prs (wres a nm p y1 y2 tol))) B flX8_204 22 rfl rfl dX8_match_78 ?_
              exact ret _ _ _ (((prs (wres a nm p y1 y2 tol)), (drs (wres a nm p y1 y2 tol))), r1, r2, r3) rfl dX8_match_81 (by simp only [matC, h1, h2, h3, h4, h5d, h6d, decide_true, decide_false, Bool.not_true, Bool.not_false, Bool.true_and, Bool.false_and, Bool.and_true, Bool.and_false, Bool.true_or, Bool.or_true, Bool.false_or, Bool.or_false, Bool.and_self, Bool.or_self, bI_t, bI_f, if_true, if_false, ite_true, ite_false, Bool.false_eq_true, Bool.true_eq_false, eq_self, reduceIte, true_or, or_true, false_or, or_false, and_true, true_and, and_false, false_and, not_true_eq_false, not_false_eq_true, decide_eq_true_eq, decide_eq_false_iff_not])
            · have h6d := decide_eq_false h6
              refine i_aload_n B 0 dX8_match_64 rfl ?_
              refine i_get (v := .ref (q 48)) B flX8_56 0 rfl rfl dX8_match_65 ?_
              refine i_get (v := .int (drs (wres a nm p y1 y2 tol))) B flX8_201 22 rfl rfl dX8_match_68 ?_
              refine i_goto B 81 dX8_match_71 (by decide) ?_
              exact ret _ _ _ (((prs (wres a nm p y1 y2 tol)), (drs (wres a nm p y1 y2 tol))), r1, r2, r3) rfl dX8_match_81 (by simp only [matC, h1, h2, h3, h4, h5d, h6d, decide_true, decide_false, Bool.not_true, Bool.not_false, Bool.true_and, Bool.false_and, Bool.and_true, Bool.and_false, Bool.true_or, Bool.or_true, Bool.false_or, Bool.or_false, Bool.and_self, Bool.or_self, bI_t, bI_f, if_true, if_false, ite_true, ite_false, Bool.false_eq_true, Bool.true_eq_false, eq_self, reduceIte, true_or, or_true, false_or, or_false, and_true, true_and, and_false, false_and, not_true_eq_false, not_false_eq_true, decide_eq_true_eq, decide_eq_false_iff_not])
          · have h5d := decide_eq_true h5
            refine i_bipush (v := (-3)) B dX8_match_44 (by decide) ?_
            exact ret _ _ _ (((s 61), (s 62)), (t 51), (t 52), (t 53)) rfl dX8_match_46 (by simp only [matC, h1, h2, h3, h4, h5d, decide_true, decide_false, Bool.not_true, Bool.not_false, Bool.true_and, Bool.false_and, Bool.and_true, Bool.and_false, Bool.true_or, Bool.or_true, Bool.false_or, Bool.or_false, Bool.and_self, Bool.or_self, bI_t, bI_f, if_true, if_false, ite_true, ite_false, Bool.false_eq_true, Bool.true_eq_false, eq_self, reduceIte, true_or, or_true, false_or, or_false, and_true, true_and, and_false, false_and, not_true_eq_false, not_false_eq_true, decide_eq_true_eq, decide_eq_false_iff_not])
        · replace h4 := bI_0.mp h4
          refine i_bipush (v := (-2)) B dX8_match_36 (by decide) ?_
          exact ret _ _ _ (((s 61), (s 62)), (t 51), (t 52), (t 53)) rfl dX8_match_38 (by simp only [matC, h1, h2, h3, h4, decide_true, decide_false, Bool.not_true, Bool.not_false, Bool.true_and, Bool.false_and, Bool.and_true, Bool.and_false, Bool.true_or, Bool.or_true, Bool.false_or, Bool.or_false, Bool.and_self, Bool.or_self, bI_t, bI_f, if_true, if_false, ite_true, ite_false, Bool.false_eq_true, Bool.true_eq_false, eq_self, reduceIte, true_or, or_true, false_or, or_false, and_true, true_and, and_false, false_and, not_true_eq_false, not_false_eq_true, decide_eq_true_eq, decide_eq_false_iff_not])
  · replace h1 := bI_0.mp h1
    refine i_iconst (v := (-1)) B dX8_match_8 (by decide) ?_
    exact ret _ _ _ (((s 61), (s 62)), (t 51), (t 52), (t 53)) rfl dX8_match_9 (by simp only [matC, h1, decide_true, decide_false, Bool.not_true, Bool.not_false, Bool.true_and, Bool.false_and, Bool.and_true, Bool.and_false, Bool.true_or, Bool.or_true, Bool.false_or, Bool.or_false, Bool.and_self, Bool.or_self, bI_t, bI_f, if_true, if_false, ite_true, ite_false, Bool.false_eq_true, Bool.true_eq_false, eq_self, reduceIte, true_or, or_true, false_or, or_false, and_true, true_and, and_false, false_and, not_true_eq_false, not_false_eq_true, decide_eq_true_eq, decide_eq_false_iff_not])
