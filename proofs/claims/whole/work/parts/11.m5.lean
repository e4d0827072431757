def prv (g : Nat → Int32) (a : Nat → Nat → Int32) (np l p : Nat) : Bool := sn g a np (a 21 l + a 23 l) (a 22 l + a 23 l) p && (sn g a np (a 21 l + -a 23 l) (a 22 l + a 23 l) p && (sn g a np (a 21 l + a 23 l) (a 22 l + -a 23 l) p && sn g a np (a 21 l + -a 23 l) (a 22 l + -a 23 l) p))
def pvn (g : Nat → Int32) (a : Nat → Nat → Int32) (np p : Nat) : Nat → Int32
  | 0 => 0
  | k + 1 => pvn g a np p k + (if prv g a np k p = true then 1 else 0)
def prsF (g : Nat → Int32) (a : Nat → Nat → Int32) (np : Nat) (l p : Int32) : Int32 := if (!(wit l 0 (g 20 - 1) && wit p 0 (g 1 - 1))) = true then -1 else bI (prv g a np (ix l) (ix p))
def prdF (g : Nat → Int32) (a : Nat → Nat → Int32) (np nl : Nat) (p : Int32) : Int32 := if (!wit p 0 (g 1 - 1)) = true then -1 else pvn g a np (ix p) nl
/-- how many PANELS below p fewer than k LOGS PROVE -/
def msn (g : Nat → Int32) (a : Nat → Nat → Int32) (np nl : Nat) (k : Int32) : Nat → Int32
  | 0 => 0
  | p + 1 => msn g a np nl k p + (if decide (pvn g a np p nl < k) = true then 1 else 0)
def mis (g : Nat → Int32) (a : Nat → Nat → Int32) (np nl : Nat) (i k : Int32) : Nat → Nat → Int32
  | 0, _ => -9
  | n + 1, p => if (decide (pvn g a np p nl < k) && decide (msn g a np nl k p = i)) = true then nI p else mis g a np nl i k n (p + 1)
def misF (g : Nat → Int32) (a : Nat → Nat → Int32) (np nl : Nat) (i k : Int32) : Int32 := if (!wit k 1 3) = true then -2 else mis g a np nl i k np 0

set_option maxHeartbeats 4000000 in
set_option maxRecDepth 100000 in
theorem k_X9_isProved (l : Launch) (E : ED) (h : Nat) (q : Nat → Nat) (g : Nat → Int32) (a : Nat → Nat → Int32) (np : Nat) (hn : g 1 = nI np) (hnp : np ≤ 12) (lg p : Nat) (hll : lg < 20) (hp : p < 12) : RO l E yX9_isProved cX9_isProved 5 .boolean 4 120 [.ref h, .int (nI lg), .int (nI p)] (mW E h q g a) (fun r => r = bI (prv g a np lg p)) := by
  refine RO.mk (by decide) (Nat.le_of_ble_eq_true rfl) [(0, .ref h), (1, .int (nI lg)), (2, .int (nI p))] rfl (fun Z B ret => ?_)
  refine i_iconst (v := 1) B dX9_isProved_0 (by decide) ?_
  refine i_istore_n B [(3, .int 1), (0, .ref h), (1, .int (nI lg)), (2, .int (nI p))] dX9_isProved_1 (by decide) rfl ?_
  refine i_iconst (v := 0) B dX9_isProved_2 (by decide) ?_
  refine i_istore B [(4, .int 0), (3, .int 1), (0, .ref h), (1, .int (nI lg)), (2, .int (nI p))] dX9_isProved_3 (by decide) rfl ?_
  refine i_iload B 0 dX9_isProved_5 rfl ?_
  refine i_iconst (v := 4) B dX9_isProved_7 (by decide) ?_
  refine i_icmp_ge B 94 dX9_isProved_8 (by decide) (fun h1 => absurd h1 (by decide)) (fun _ => ?_)
  refine i_iload_n B 1 dX9_isProved_11 rfl ?_
  refine i_if_eq B 86 dX9_isProved_12 (by decide) (fun h2 => absurd h2 (by decide)) (fun _ => ?_)
  refine i_aload_n B 2 dX9_isProved_15 rfl ?_
  refine i_aload_n B 2 dX9_isProved_16 rfl ?_
  refine i_get (v := .ref (q 21)) B flX9_50 0 rfl rfl dX9_isProved_17 ?_
  refine i_iload_n B 3 dX9_isProved_20 rfl ?_
  refine i_ialdN B 11 lg rfl rfl (by omega) (by decide) dX9_isProved_21 ?_
  refine i_iload B 0 dX9_isProved_22 rfl ?_
  refine i_iconst (v := 2) B dX9_isProved_24 (by decide) ?_
  refine i_irem B dX9_isProved_25 (by decide) ?_
  refine i_val (v' := .int 0) (by decide) ?_
  refine i_if_ne B 38 dX9_isProved_26 (by decide) (fun h3 => absurd h3 (by decide)) (fun _ => ?_)
  refine i_aload_n B 2 dX9_isProved_29 rfl ?_
  refine i_get (v := .ref (q 23)) B flX9_56 0 rfl rfl dX9_isProved_30 ?_
  refine i_iload_n B 3 dX9_isProved_33 rfl ?_
  refine i_ialdN B 13 lg rfl rfl (by omega) (by decide) dX9_isProved_34 ?_
  refine i_goto B 45 dX9_isProved_35 (by decide) ?_
  refine i_iadd B dX9_isProved_45 ?_
  refine i_aload_n B 2 dX9_isProved_46 rfl ?_
  refine i_get (v := .ref (q 22)) B flX9_53 0 rfl rfl dX9_isProved_47 ?_
  refine i_iload_n B 3 dX9_isProved_50 rfl ?_
  refine i_ialdN B 12 lg rfl rfl (by omega) (by decide) dX9_isProved_51 ?_
  refine i_iload B 0 dX9_isProved_52 rfl ?_
  refine i_iconst (v := 2) B dX9_isProved_54 (by decide) ?_
  refine i_icmp_ge B 67 dX9_isProved_55 (by decide) (fun h4 => absurd h4 (by decide)) (fun _ => ?_)
  refine i_aload_n B 2 dX9_isProved_58 rfl ?_
  refine i_get (v := .ref (q 23)) B flX9_56 0 rfl rfl dX9_isProved_59 ?_
  refine i_iload_n B 3 dX9_isProved_62 rfl ?_
  refine i_ialdN B 13 lg rfl rfl (by omega) (by decide) dX9_isProved_63 ?_
  refine i_goto B 74 dX9_isProved_64 (by decide) ?_
  refine i_iadd B dX9_isProved_74 ?_
  refine i_iload_n B 4 dX9_isProved_75 rfl ?_
  refine c_roV (rest := []) (As := [.int (((a 21) lg) + ((a 23) lg)), .int (((a 22) lg) + ((a 23) lg)), .int (nI p)]) B (k_X9_isSeen l E h q g a np p hn hnp (by omega) (((a 21) lg) + ((a 23) lg)) (((a 22) lg) + ((a 23) lg))) cal_yX9_isSeen iv_yX9_isSeen mlX9_144 rfl 0 rfl (by decide) (by decide) rfl (Nat.le_of_ble_eq_true rfl) Has.rf _ rfl dX9_isProved_76 (fun r hr => ?_)
  subst hr
  refine i_val (v' := .int (bI (sn g a np (((a 21) lg) + ((a 23) lg)) (((a 22) lg) + ((a 23) lg)) p))) rfl ?_
  refine i_if_eq B 86 dX9_isProved_79 (by decide) (fun h5 => ?_) (fun h5 => ?_)
  · replace h5 := bI_0.mp h5
    refine i_iconst (v := 0) B dX9_isProved_86 (by decide) ?_
    refine i_istore_n B [(3, .int 0), (4, .int 0), (0, .ref h), (1, .int (nI lg)), (2, .int (nI p))] dX9_isProved_87 (by decide) rfl ?_
    refine i_iinc (v := 1) B 1 [(4, .int 1), (3, .int 0), (0, .ref h), (1, .int (nI lg)), (2, .int (nI p))] dX9_isProved_88 rfl (by decide) (by decide) rfl ?_
    refine i_goto B 5 dX9_isProved_91 (by decide) ?_
    refine i_iload B 0 dX9_isProved_5 rfl ?_
    refine i_iconst (v := 4) B dX9_isProved_7 (by decide) ?_
    refine i_icmp_ge B 94 dX9_isProved_8 (by decide) (fun h6 => absurd h6 (by decide)) (fun _ => ?_)
    refine i_iload_n B 1 dX9_isProved_11 rfl ?_
    refine i_if_eq B 86 dX9_isProved_12 (by decide) (fun _ => ?_) (fun h7 => absurd h7 (by decide))
    refine i_iconst (v := 0) B dX9_isProved_86 (by decide) ?_
    refine i_istore_n B [(3, .int 0), (4, .int 1), (0, .ref h), (1, .int (nI lg)), (2, .int (nI p))] dX9_isProved_87 (by decide) rfl ?_
    refine i_iinc (v := 2) B 1 [(4, .int 2), (3, .int 0), (0, .ref h), (1, .int (nI lg)), (2, .int (nI p))] dX9_isProved_88 rfl (by decide) (by decide) rfl ?_
    refine i_goto B 5 dX9_isProved_91 (by decide) ?_
    refine i_iload B 0 dX9_isProved_5 rfl ?_
    refine i_iconst (v := 4) B dX9_isProved_7 (by decide) ?_
    refine i_icmp_ge B 94 dX9_isProved_8 (by decide) (fun h8 => absurd h8 (by decide)) (fun _ => ?_)
    refine i_iload_n B 1 dX9_isProved_11 rfl ?_
    refine i_if_eq B 86 dX9_isProved_12 (by decide) (fun _ => ?_) (fun h9 => absurd h9 (by decide))
    refine i_iconst (v := 0) B dX9_isProved_86 (by decide) ?_
    refine i_istore_n B [(3, .int 0), (4, .int 2), (0, .ref h), (1, .int (nI lg)), (2, .int (nI p))] dX9_isProved_87 (by decide) rfl ?_
    refine i_iinc (v := 3) B 1 [(4, .int 3), (3, .int 0), (0, .ref h), (1, .int (nI lg)), (2, .int (nI p))] dX9_isProved_88 rfl (by decide) (by decide) rfl ?_
    refine i_goto B 5 dX9_isProved_91 (by decide) ?_
    refine i_iload B 0 dX9_isProved_5 rfl ?_
    refine i_iconst (v := 4) B dX9_isProved_7 (by decide) ?_
    refine i_icmp_ge B 94 dX9_isProved_8 (by decide) (fun h10 => absurd h10 (by decide)) (fun _ => ?_)
    refine i_iload_n B 1 dX9_isProved_11 rfl ?_
    refine i_if_eq B 86 dX9_isProved_12 (by decide) (fun _ => ?_) (fun h11 => absurd h11 (by decide))
    refine i_iconst (v := 0) B dX9_isProved_86 (by decide) ?_
    refine i_istore_n B [(3, .int 0), (4, .int 3), (0, .ref h), (1, .int (nI lg)), (2, .int (nI p))] dX9_isProved_87 (by decide) rfl ?_
    refine i_iinc (v := 4) B 1 [(4, .int 4), (3, .int 0), (0, .ref h), (1, .int (nI lg)), (2, .int (nI p))] dX9_isProved_88 rfl (by decide) (by decide) rfl ?_
    refine i_goto B 5 dX9_isProved_91 (by decide) ?_
    refine i_iload B 0 dX9_isProved_5 rfl ?_
    refine i_iconst (v := 4) B dX9_isProved_7 (by decide) ?_
    refine i_icmp_ge B 94 dX9_isProved_8 (by decide) (fun _ => ?_) (fun h12 => absurd h12 (by decide))
    refine i_iload_n B 1 dX9_isProved_94 rfl ?_
    exact ret _ _ _ (by decide) dX9_isProved_95 (by simp only [prv, h5, decide_true, decide_false, Bool.not_true, Bool.not_false, Bool.true_and, Bool.false_and, Bool.and_true, Bool.and_false, Bool.true_or, Bool.or_true, Bool.false_or, Bool.or_false, Bool.and_self, Bool.or_self, bI_t, bI_f, if_true, if_false, ite_true, ite_false, Bool.false_eq_true, Bool.true_eq_false, eq_self, reduceIte, true_or, or_true, false_or, or_false, and_true, true_and, and_false, false_and, not_true_eq_false, not_false_eq_true, decide_eq_true_eq, decide_eq_false_iff_not])
  · replace h5 := bI_n.mp h5
    refine i_iconst (v := 1) B dX9_isProved_82 (by decide) ?_
    refine i_goto B 87 dX9_isProved_83 (by decide) ?_
    refine i_istore_n B [(3, .int 1), (4, .int 0), (0, .ref h), (1, .int (nI lg)), (2, .int (nI p))] dX9_isProved_87 (by decide) rfl ?_
    refine i_iinc (v := 1) B 1 [(4, .int 1), (3, .int 1), (0, .ref h), (1, .int (nI lg)), (2, .int (nI p))] dX9_isProved_88 rfl (by decide) (by decide) rfl ?_
    refine i_goto B 5 dX9_isProved_91 (by decide) ?_
    refine i_iload B 0 dX9_isProved_5 rfl ?_
    refine i_iconst (v := 4) B dX9_isProved_7 (by decide) ?_
    refine i_icmp_ge B 94 dX9_isProved_8 (by decide) (fun h13 => absurd h13 (by decide)) (fun _ => ?_)
    refine i_iload_n B 1 dX9_isProved_11 rfl ?_
    refine i_if_eq B 86 dX9_isProved_12 (by decide) (fun h14 => absurd h14 (by decide)) (fun _ => ?_)
    refine i_aload_n B 2 dX9_isProved_15 rfl ?_
    refine i_aload_n B 2 dX9_isProved_16 rfl ?_
    refine i_get (v := .ref (q 21)) B flX9_50 0 rfl rfl dX9_isProved_17 ?_
    refine i_iload_n B 3 dX9_isProved_20 rfl ?_
    refine i_ialdN B 11 lg rfl rfl (by omega) (by decide) dX9_isProved_21 ?_
    refine i_iload B 0 dX9_isProved_22 rfl ?_
    refine i_iconst (v := 2) B dX9_isProved_24 (by decide) ?_
    refine i_irem B dX9_isProved_25 (by decide) ?_
    refine i_val (v' := .int 1) (by decide) ?_
    refine i_if_ne B 38 dX9_isProved_26 (by decide) (fun _ => ?_) (fun h15 => absurd h15 (by decide))
    refine i_aload_n B 2 dX9_isProved_38 rfl ?_
    refine i_get (v := .ref (q 23)) B flX9_56 0 rfl rfl dX9_isProved_39 ?_
    refine i_iload_n B 3 dX9_isProved_42 rfl ?_
    refine i_ialdN B 13 lg rfl rfl (by omega) (by decide) dX9_isProved_43 ?_
    refine i_ineg B dX9_isProved_44 ?_
    refine i_iadd B dX9_isProved_45 ?_
    refine i_aload_n B 2 dX9_isProved_46 rfl ?_
    refine i_get (v := .ref (q 22)) B flX9_53 0 rfl rfl dX9_isProved_47 ?_
    refine i_iload_n B 3 dX9_isProved_50 rfl ?_
    refine i_ialdN B 12 lg rfl rfl (by omega) (by decide) dX9_isProved_51 ?_
    refine i_iload B 0 dX9_isProved_52 rfl ?_
    refine i_iconst (v := 2) B dX9_isProved_54 (by decide) ?_
    refine i_icmp_ge B 67 dX9_isProved_55 (by decide) (fun h16 => absurd h16 (by decide)) (fun _ => ?_)
    refine i_aload_n B 2 dX9_isProved_58 rfl ?_
    refine i_get (v := .ref (q 23)) B flX9_56 0 rfl rfl dX9_isProved_59 ?_
    refine i_iload_n B 3 dX9_isProved_62 rfl ?_
    refine i_ialdN B 13 lg rfl rfl (by omega) (by decide) dX9_isProved_63 ?_
    refine i_goto B 74 dX9_isProved_64 (by decide) ?_
    refine i_iadd B dX9_isProved_74 ?_
    refine i_iload_n B 4 dX9_isProved_75 rfl ?_
    refine c_roV (rest := []) (As := [.int (((a 21) lg) + (-((a 23) lg))), .int (((a 22) lg) + ((a 23) lg)), .int (nI p)]) B (k_X9_isSeen l E h q g a np p hn hnp (by omega) (((a 21) lg) + (-((a 23) lg))) (((a 22) lg) + ((a 23) lg))) cal_yX9_isSeen iv_yX9_isSeen mlX9_144 rfl 0 rfl (by decide) (by decide) rfl (Nat.le_of_ble_eq_true rfl) Has.rf _ rfl dX9_isProved_76 (fun r hr => ?_)
    subst hr
    refine i_val (v' := .int (bI (sn g a np (((a 21) lg) + (-((a 23) lg))) (((a 22) lg) + ((a 23) lg)) p))) rfl ?_
    refine i_if_eq B 86 dX9_isProved_79 (by decide) (fun h17 => ?_) (fun h17 => ?_)
    · replace h17 := bI_0.mp h17
      refine i_iconst (v := 0) B dX9_isProved_86 (by decide) ?_
      refine i_istore_n B [(3, .int 0), (4, .int 1), (0, .ref h), (1, .int (nI lg)), (2, .int (nI p))] dX9_isProved_87 (by decide) rfl ?_
      refine i_iinc (v := 2) B 1 [(4, .int 2), (3, .int 0), (0, .ref h), (1, .int (nI lg)), (2, .int (nI p))] dX9_isProved_88 rfl (by decide) (by decide) rfl ?_
      refine i_goto B 5 dX9_isProved_91 (by decide) ?_
      refine i_iload B 0 dX9_isProved_5 rfl ?_
      refine i_iconst (v := 4) B dX9_isProved_7 (by decide) ?_
      refine i_icmp_ge B 94 dX9_isProved_8 (by decide) (fun h18 => absurd h18 (by decide)) (fun _ => ?_)
      refine i_iload_n B 1 dX9_isProved_11 rfl ?_
      refine i_if_eq B 86 dX9_isProved_12 (by decide) (fun _ => ?_) (fun h19 => absurd h19 (by decide))
      refine i_iconst (v := 0) B dX9_isProved_86 (by decide) ?_
      refine i_istore_n B [(3, .int 0), (4, .int 2), (0, .ref h), (1, .int (nI lg)), (2, .int (nI p))] dX9_isProved_87 (by decide) rfl ?_
      refine i_iinc (v := 3) B 1 [(4, .int 3), (3, .int 0), (0, .ref h), (1, .int (nI lg)), (2, .int (nI p))] dX9_isProved_88 rfl (by decide) (by decide) rfl ?_
      refine i_goto B 5 dX9_isProved_91 (by decide) ?_
      refine i_iload B 0 dX9_isProved_5 rfl ?_
      refine i_iconst (v := 4) B dX9_isProved_7 (by decide) ?_
      refine i_icmp_ge B 94 dX9_isProved_8 (by decide) (fun h20 => absurd h20 (by decide)) (fun _ => ?_)
      refine i_iload_n B 1 dX9_isProved_11 rfl ?_
      refine i_if_eq B 86 dX9_isProved_12 (by decide) (fun _ => ?_) (fun h21 => absurd h21 (by decide))
      refine i_iconst (v := 0) B dX9_isProved_86 (by decide) ?_
      refine i_istore_n B [(3, .int 0), (4, .int 3), (0, .ref h), (1, .int (nI lg)), (2, .int (nI p))] dX9_isProved_87 (by decide) rfl ?_
      refine i_iinc (v := 4) B 1 [(4, .int 4), (3, .int 0), (0, .ref h), (1, .int (nI lg)), (2, .int (nI p))] dX9_isProved_88 rfl (by decide) (by decide) rfl ?_
      refine i_goto B 5 dX9_isProved_91 (by decide) ?_
      refine i_iload B 0 dX9_isProved_5 rfl ?_
      refine i_iconst (v := 4) B dX9_isProved_7 (by decide) ?_
      refine i_icmp_ge B 94 dX9_isProved_8 (by decide) (fun _ => ?_) (fun h22 => absurd h22 (by decide))
      refine i_iload_n B 1 dX9_isProved_94 rfl ?_
      exact ret _ _ _ (by decide) dX9_isProved_95 (by simp only [prv, h5, h17, decide_true, decide_false, Bool.not_true, Bool.not_false, Bool.true_and, Bool.false_and, Bool.and_true, Bool.and_false, Bool.true_or, Bool.or_true, Bool.false_or, Bool.or_false, Bool.and_self, Bool.or_self, bI_t, bI_f, if_true, if_false, ite_true, ite_false, Bool.false_eq_true, Bool.true_eq_false, eq_self, reduceIte, true_or, or_true, false_or, or_false, and_true, true_and, and_false, false_and, not_true_eq_false, not_false_eq_true, decide_eq_true_eq, decide_eq_false_iff_not])
    · replace h17 := bI_n.mp h17
      refine i_iconst (v := 1) B dX9_isProved_82 (by decide) ?_
      refine i_goto B 87 dX9_isProved_83 (by decide) ?_
      refine i_istore_n B [(3, .int 1), (4, .int 1), (0, .ref h), (1, .int (nI lg)), (2, .int (nI p))] dX9_isProved_87 (by decide) rfl ?_
      refine i_iinc (v := 2) B 1 [(4, .int 2), (3, .int 1), (0, .ref h), (1, .int (nI lg)), (2, .int (nI p))] dX9_isProved_88 rfl (by decide) (by decide) rfl ?_
      refine i_goto B 5 dX9_isProved_91 (by decide) ?_
      refine i_iload B 0 dX9_isProved_5 rfl ?_
      refine i_iconst (v := 4) B dX9_isProved_7 (by decide) ?_
      refine i_icmp_ge B 94 dX9_isProved_8 (by decide) (fun h23 => absurd h23 (by decide)) (fun _ => ?_)
      refine i_iload_n B 1 dX9_isProved_11 rfl ?_
      refine i_if_eq B 86 dX9_isProved_12 (by decide) (fun h24 => absurd h24 (by decide)) (fun _ => ?_)
      refine i_aload_n B 2 dX9_isProved_15 rfl ?_
      refine i_aload_n B 2 dX9_isProved_16 rfl ?_
      refine i_get (v := .ref (q 21)) B flX9_50 0 rfl rfl dX9_isProved_17 ?_
      refine i_iload_n B 3 dX9_isProved_20 rfl ?_
      refine i_ialdN B 11 lg rfl rfl (by omega) (by decide) dX9_isProved_21 ?_
      refine i_iload B 0 dX9_isProved_22 rfl ?_
      refine i_iconst (v := 2) B dX9_isProved_24 (by decide) ?_
      refine i_irem B dX9_isProved_25 (by decide) ?_
      refine i_val (v' := .int 0) (by decide) ?_
      refine i_if_ne B 38 dX9_isProved_26 (by decide) (fun h25 => absurd h25 (by decide)) (fun _ => ?_)
      refine i_aload_n B 2 dX9_isProved_29 rfl ?_
      refine i_get (v := .ref (q 23)) B flX9_56 0 rfl rfl dX9_isProved_30 ?_
      refine i_iload_n B 3 dX9_isProved_33 rfl ?_
      refine i_ialdN B 13 lg rfl rfl (by omega) (by decide) dX9_isProved_34 ?_
      refine i_goto B 45 dX9_isProved_35 (by decide) ?_
      refine i_iadd B dX9_isProved_45 ?_
      refine i_aload_n B 2 dX9_isProved_46 rfl ?_
      refine i_get (v := .ref (q 22)) B flX9_53 0 rfl rfl dX9_isProved_47 ?_
      refine i_iload_n B 3 dX9_isProved_50 rfl ?_
      refine i_ialdN B 12 lg rfl rfl (by omega) (by decide) dX9_isProved_51 ?_
      refine i_iload B 0 dX9_isProved_52 rfl ?_
      refine i_iconst (v := 2) B dX9_isProved_54 (by decide) ?_
      refine i_icmp_ge B 67 dX9_isProved_55 (by decide) (fun _ => ?_) (fun h26 => absurd h26 (by decide))
      refine i_aload_n B 2 dX9_isProved_67 rfl ?_
      refine i_get (v := .ref (q 23)) B flX9_56 0 rfl rfl dX9_isProved_68 ?_
      refine i_iload_n B 3 dX9_isProved_71 rfl ?_
      refine i_ialdN B 13 lg rfl rfl (by omega) (by decide) dX9_isProved_72 ?_
      refine i_ineg B dX9_isProved_73 ?_
      refine i_iadd B dX9_isProved_74 ?_
      refine i_iload_n B 4 dX9_isProved_75 rfl ?_
      refine c_roV (rest := []) (As := [.int (((a 21) lg) + ((a 23) lg)), .int (((a 22) lg) + (-((a 23) lg))), .int (nI p)]) B (k_X9_isSeen l E h q g a np p hn hnp (by omega) (((a 21) lg) + ((a 23) lg)) (((a 22) lg) + (-((a 23) lg)))) cal_yX9_isSeen iv_yX9_isSeen mlX9_144 rfl 0 rfl (by decide) (by decide) rfl (Nat.le_of_ble_eq_true rfl) Has.rf _ rfl dX9_isProved_76 (fun r hr => ?_)
      subst hr
      refine i_val (v' := .int (bI (sn g a np (((a 21) lg) + ((a 23) lg)) (((a 22) lg) + (-((a 23) lg))) p))) rfl ?_
      refine i_if_eq B 86 dX9_isProved_79 (by decide) (fun h27 => ?_) (fun h27 => ?_)
      · replace h27 := bI_0.mp h27
        refine i_iconst (v := 0) B dX9_isProved_86 (by decide) ?_
        refine i_istore_n B [(3, .int 0), (4, .int 2), (0, .ref h), (1, .int (nI lg)), (2, .int (nI p))] dX9_isProved_87 (by decide) rfl ?_
        refine i_iinc (v := 3) B 1 [(4, .int 3), (3, .int 0), (0, .ref h), (1, .int (nI lg)), (2, .int (nI p))] dX9_isProved_88 rfl (by decide) (by decide) rfl ?_
        refine i_goto B 5 dX9_isProved_91 (by decide) ?_
        refine i_iload B 0 dX9_isProved_5 rfl ?_
        refine i_iconst (v := 4) B dX9_isProved_7 (by decide) ?_
        refine i_icmp_ge B 94 dX9_isProved_8 (by decide) (fun h28 => absurd h28 (by decide)) (fun _ => ?_)
        refine i_iload_n B 1 dX9_isProved_11 rfl ?_
        refine i_if_eq B 86 dX9_isProved_12 (by decide) (fun _ => ?_) (fun h29 => absurd h29 (by decide))
        refine i_iconst (v := 0) B dX9_isProved_86 (by decide) ?_
        refine i_istore_n B [(3, .int 0), (4, .int 3), (0, .ref h), (1, .int (nI lg)), (2, .int (nI p))] dX9_isProved_87 (by decide) rfl ?_
        refine i_iinc (v := 4) B 1 [(4, .int 4), (3, .int 0), (0, .ref h), (1, .int (nI lg)), (2, .int (nI p))] dX9_isProved_88 rfl (by decide) (by decide) rfl ?_
        refine i_goto B 5 dX9_isProved_91 (by decide) ?_
        refine i_iload B 0 dX9_isProved_5 rfl ?_
        refine i_iconst (v := 4) B dX9_isProved_7 (by decide) ?_
        refine i_icmp_ge B 94 dX9_isProved_8 (by decide) (fun _ => ?_) (fun h30 => absurd h30 (by decide))
        refine i_iload_n B 1 dX9_isProved_94 rfl ?_
        exact ret _ _ _ (by decide) dX9_isProved_95 (by simp only [prv, h5, h17, h27, decide_true, decide_false, Bool.not_true, Bool.not_false, Bool.true_and, Bool.false_and, Bool.and_true, Bool.and_false, Bool.true_or, Bool.or_true, Bool.false_or, Bool.or_false, Bool.and_self, Bool.or_self, bI_t, bI_f, if_true, if_false, ite_true, ite_false, Bool.false_eq_true, Bool.true_eq_false, eq_self, reduceIte, true_or, or_true, false_or, or_false, and_true, true_and, and_false, false_and, not_true_eq_false, not_false_eq_true, decide_eq_true_eq, decide_eq_false_iff_not])
      · replace h27 := bI_n.mp h27
        refine i_iconst (v := 1) B dX9_isProved_82 (by decide) ?_
        refine i_goto B 87 dX9_isProved_83 (by decide) ?_
        refine i_istore_n B [(3, .int 1), (4, .int 2), (0, .ref h), (1, .int (nI lg)), (2, .int (nI p))] dX9_isProved_87 (by decide) rfl ?_
        refine i_iinc (v := 3) B 1 [(4, .int 3), (3, .int 1), (0, .ref h), (1, .int (nI lg)), (2, .int (nI p))] dX9_isProved_88 rfl (by decide) (by decide) rfl ?_
        refine i_goto B 5 dX9_isProved_91 (by decide) ?_
        refine i_iload B 0 dX9_isProved_5 rfl ?_
        refine i_iconst (v := 4) B dX9_isProved_7 (by decide) ?_
        refine i_icmp_ge B 94 dX9_isProved_8 (by decide) (fun h31 => absurd h31 (by decide)) (fun _ => ?_)
        refine i_iload_n B 1 dX9_isProved_11 rfl ?_
        refine i_if_eq B 86 dX9_isProved_12 (by decide) (fun h32 => absurd h32 (by decide)) (fun _ => ?_)
        refine i_aload_n B 2 dX9_isProved_15 rfl ?_
        refine i_aload_n B 2 dX9_isProved_16 rfl ?_
        refine i_get (v := .ref (q 21)) B flX9_50 0 rfl rfl dX9_isProved_17 ?_
        refine i_iload_n B 3 dX9_isProved_20 rfl ?_
        refine i_ialdN B 11 lg rfl rfl (by omega) (by decide) dX9_isProved_21 ?_
        refine i_iload B 0 dX9_isProved_22 rfl ?_
        refine i_iconst (v := 2) B dX9_isProved_24 (by decide) ?_
        refine i_irem B dX9_isProved_25 (by decide) ?_
        refine i_val (v' := .int 1) (by decide) ?_
        refine i_if_ne B 38 dX9_isProved_26 (by decide) (fun _ => ?_) (fun h33 => absurd h33 (by decide))
        refine i_aload_n B 2 dX9_isProved_38 rfl ?_
        refine i_get (v := .ref (q 23)) B flX9_56 0 rfl rfl dX9_isProved_39 ?_
        refine i_iload_n B 3 dX9_isProved_42 rfl ?_
        refine i_ialdN B 13 lg rfl rfl (by omega) (by decide) dX9_isProved_43 ?_
        refine i_ineg B dX9_isProved_44 ?_
        refine i_iadd B dX9_isProved_45 ?_
        refine i_aload_n B 2 dX9_isProved_46 rfl ?_
        refine i_get (v := .ref (q 22)) B flX9_53 0 rfl rfl dX9_isProved_47 ?_
        refine i_iload_n B 3 dX9_isProved_50 rfl ?_
        refine i_ialdN B 12 lg rfl rfl (by omega) (by decide) dX9_isProved_51 ?_
        refine i_iload B 0 dX9_isProved_52 rfl ?_
        refine i_iconst (v := 2) B dX9_isProved_54 (by decide) ?_
        refine i_icmp_ge B 67 dX9_isProved_55 (by decide) (fun _ => ?_) (fun h34 => absurd h34 (by decide))
        refine i_aload_n B 2 dX9_isProved_67 rfl ?_
        refine i_get (v := .ref (q 23)) B flX9_56 0 rfl rfl dX9_isProved_68 ?_
        refine i_iload_n B 3 dX9_isProved_71 rfl ?_
        refine i_ialdN B 13 lg rfl rfl (by omega) (by decide) dX9_isProved_72 ?_
        refine i_ineg B dX9_isProved_73 ?_
        refine i_iadd B dX9_isProved_74 ?_
        refine i_iload_n B 4 dX9_isProved_75 rfl ?_
        refine c_roV (rest := []) (As := [.int (((a 21) lg) + (-((a 23) lg))), .int (((a 22) lg) + (-((a 23) lg))), .int (nI p)]) B (k_X9_isSeen l E h q g a np p hn hnp (by omega) (((a 21) lg) + (-((a 23) lg))) (((a 22) lg) + (-((a 23) lg)))) cal_yX9_isSeen iv_yX9_isSeen mlX9_144 rfl 0 rfl (by decide) (by decide) rfl (Nat.le_of_ble_eq_true rfl) Has.rf _ rfl dX9_isProved_76 (fun r hr => ?_)
        subst hr
        refine i_val (v' := .int (bI (sn g a np (((a 21) lg) + (-((a 23) lg))) (((a 22) lg) + (-((a 23) lg))) p))) rfl ?_
        refine i_if_eq B 86 dX9_isProved_79 (by decide) (fun h35 => ?_) (fun h35 => ?_)
        · replace h35 := bI_0.mp h35
          refine i_iconst (v := 0) B dX9_isProved_86 (by decide) ?_
          refine i_istore_n B [(3, .int 0), (4, .int 3), (0, .ref h), (1, .int (nI lg)), (2, .int (nI p))] dX9_isProved_87 (by decide) rfl ?_
          refine i_iinc (v := 4) B 1 [(4, .int 4), (3, .int 0), (0, .ref h), (1, .int (nI lg)), (2, .int (nI p))] dX9_isProved_88 rfl (by decide) (by decide) rfl ?_
          refine i_goto B 5 dX9_isProved_91 (by decide) ?_
          refine i_iload B 0 dX9_isProved_5 rfl ?_
          refine i_iconst (v := 4) B dX9_isProved_7 (by decide) ?_
          refine i_icmp_ge B 94 dX9_isProved_8 (by decide) (fun _ => ?_) (fun h36 => absurd h36 (by decide))
          refine i_iload_n B 1 dX9_isProved_94 rfl ?_
          exact ret _ _ _ (by decide) dX9_isProved_95 (by simp only [prv, h5, h17, h27, h35, decide_true, decide_false, Bool.not_true, Bool.not_false, Bool.true_and, Bool.false_and, Bool.and_true, Bool.and_false, Bool.true_or, Bool.or_true, Bool.false_or, Bool.or_false, Bool.and_self, Bool.or_self, bI_t, bI_f, if_true, if_false, ite_true, ite_false, Bool.false_eq_true, Bool.true_eq_false, eq_self, reduceIte, true_or, or_true, false_or, or_false, and_true, true_and, and_false, false_and, not_true_eq_false, not_false_eq_true, decide_eq_true_eq, decide_eq_false_iff_not])
        · replace h35 := bI_n.mp h35
          refine i_iconst (v := 1) B dX9_isProved_82 (by decide) ?_
          refine i_goto B 87 dX9_isProved_83 (by decide) ?_
          refine i_istore_n B [(3, .int 1), (4, .int 3), (0, .ref h), (1, .int (nI lg)), (2, .int (nI p))] dX9_isProved_87 (by decide) rfl ?_
          refine i_iinc (v := 4) B 1 [(4, .int 4), (3, .int 1), (0, .ref h), (1, .int (nI lg)), (2, .int (nI p))] dX9_isProved_88 rfl (by decide) (by decide) rfl ?_
          refine i_goto B 5 dX9_isProved_91 (by decide) ?_
          refine i_iload B 0 dX9_isProved_5 rfl ?_
          refine i_iconst (v := 4) B dX9_isProved_7 (by decide) ?_
          refine i_icmp_ge B 94 dX9_isProved_8 (by decide) (fun _ => ?_) (fun h37 => absurd h37 (by decide))
          refine i_iload_n B 1 dX9_isProved_94 rfl ?_
          exact ret _ _ _ (by decide) dX9_isProved_95 (by simp only [prv, h5, h17, h27, h35, decide_true, decide_false, Bool.not_true, Bool.not_false, Bool.true_and, Bool.false_and, Bool.and_true, Bool.and_false, Bool.true_or, Bool.or_true, Bool.false_or, Bool.or_false, Bool.and_self, Bool.or_self, bI_t, bI_f, if_true, if_false, ite_true, ite_false, Bool.false_eq_true, Bool.true_eq_false, eq_self, reduceIte, true_or, or_true, false_or, or_false, and_true, true_and, and_false, false_and, not_true_eq_false, not_false_eq_true, decide_eq_true_eq, decide_eq_false_iff_not])

set_option maxHeartbeats 4000000 in
set_option maxRecDepth 100000 in
theorem k_X9_provedOf (l : Launch) (E : ED) (h : Nat) (q : Nat → Nat) (g : Nat → Int32) (a : Nat → Nat → Int32) (np : Nat) (hn : g 1 = nI np) (hnp : np ≤ 12) (nl : Nat) (hl : g 20 = nI nl) (hnl : nl ≤ 20) (p : Nat) (hp : p < 12) : RO l E yX9_provedOf cX9_provedOf 4 .int 5 144 [.ref h, .int (nI p)] (mW E h q g a) (fun r => r = pvn g a np p nl) := by
  refine RO.mk (by decide) (Nat.le_of_ble_eq_true rfl) [(0, .ref h), (1, .int (nI p))] rfl (fun Z B ret => ?_)
  have lp : ∀ (n_lp : Nat) (i : Nat), (nl - i < n_lp) → (i ≤ nl) → J Z 0 0 (mW E h q g a) 4 [(3, .int (nI i)), (2, .int (pvn g a np p i)), (0, .ref h), (1, .int (nI p))] [] := by
    intro n_lp
    induction n_lp with
    | zero => intro i hf_lp hi; omega
    | succ n_lp ih_lp =>
      intro i hf_lp hi
      refine i_iload_n B 0 dX9_provedOf_4 rfl ?_
      refine i_aload_n B 2 dX9_provedOf_5 rfl ?_
      refine i_get (v := .int (g 20)) B flX9_204 0 rfl rfl dX9_provedOf_6 ?_
      refine i_icmp_ge B 35 dX9_provedOf_9 (by decide) (fun h1 => ?_) (fun h1 => ?_)
      · replace h1 := q_n32.mpr h1
        rw [hl, nI_ltI (by omega) (by omega)] at h1
        refine i_iload_n B 1 dX9_provedOf_35 rfl ?_
        exact ret _ _ _ rfl dX9_provedOf_36 (by rw [show nl = i by omega])
      · replace h1 := q_m32.mp h1
        rw [hl, nI_ltI (by omega) (by omega)] at h1
        refine i_iload_n B 1 dX9_provedOf_12 rfl ?_
        refine i_aload_n B 2 dX9_provedOf_13 rfl ?_
        refine i_iload_n B 0 dX9_provedOf_14 rfl ?_
        refine i_iload_n B 3 dX9_provedOf_15 rfl ?_
        refine c_roV (rest := [.int (pvn g a np p i)]) (As := [.int (nI i), .int (nI p)]) B (k_X9_isProved l E h q g a np hn hnp i p (by omega) (by omega)) cal_yX9_isProved iv_yX9_isProved mlX9_207 rfl 0 rfl (by decide) (by decide) rfl (Nat.le_of_ble_eq_true rfl) Has.rf _ rfl dX9_provedOf_16 (fun r hr => ?_)
        subst hr
        refine i_val (v' := .int (bI (prv g a np i p))) rfl ?_
        refine i_if_eq B 26 dX9_provedOf_19 (by decide) (fun h2 => ?_) (fun h2 => ?_)
        · replace h2 := bI_0.mp h2
          refine i_iconst (v := 0) B dX9_provedOf_26 (by decide) ?_
          refine i_iadd B dX9_provedOf_27 ?_
          refine i_istore_n B [(2, .int ((pvn g a np p i) + 0)), (3, .int (nI i)), (0, .ref h), (1, .int (nI p))] dX9_provedOf_28 (by decide) rfl ?_
          refine i_iinc (v := (nI (i + 1))) B 1 [(3, .int (nI (i + 1))), (2, .int ((pvn g a np p i) + 0)), (0, .ref h), (1, .int (nI p))] dX9_provedOf_29 rfl ((nI_1 _)) (by decide) rfl ?_
          refine i_goto B 4 dX9_provedOf_32 (by decide) ?_
          refine i_Leq (congrArg (fun z_9 => ([(3, .int (nI (i + 1))), (2, .int z_9), (0, .ref h), (1, .int (nI p))] : List (Nat × Value))) (show (((pvn g a np p i) + 0) : Int32) = (pvn g a np p (i + 1)) from by rw [pvn]; simp only [h2, decide_true, decide_false, Bool.not_true, Bool.not_false, Bool.true_and, Bool.false_and, Bool.and_true, Bool.and_false, Bool.true_or, Bool.or_true, Bool.false_or, Bool.or_false, bI_t, bI_f, if_true, if_false, ite_true, ite_false, Bool.false_eq_true, Bool.true_eq_false, eq_self, reduceIte, true_or, or_true, false_or, or_false, and_true, true_and, and_false, false_and, not_true_eq_false, not_false_eq_true, decide_eq_true_eq, decide_eq_false_iff_not])) ?_
          exact ih_lp (i + 1) (by omega) (by omega)
        · replace h2 := bI_n.mp h2
          refine i_iconst (v := 1) B dX9_provedOf_22 (by decide) ?_
          refine i_goto B 27 dX9_provedOf_23 (by decide) ?_
          refine i_iadd B dX9_provedOf_27 ?_
          refine i_istore_n B [(2, .int ((pvn g a np p i) + 1)), (3, .int (nI i)), (0, .ref h), (1, .int (nI p))] dX9_provedOf_28 (by decide) rfl ?_
          refine i_iinc (v := (nI (i + 1))) B 1 [(3, .int (nI (i + 1))), (2, .int ((pvn g a np p i) + 1)), (0, .ref h), (1, .int (nI p))] dX9_provedOf_29 rfl ((nI_1 _)) (by decide) rfl ?_
          refine i_goto B 4 dX9_provedOf_32 (by decide) ?_
          refine i_Leq (congrArg (fun z_9 => ([(3, .int (nI (i + 1))), (2, .int z_9), (0, .ref h), (1, .int (nI p))] : List (Nat × Value))) (show (((pvn g a np p i) + 1) : Int32) = (pvn g a np p (i + 1)) from by rw [pvn]; simp only [h2, decide_true, decide_false, Bool.not_true, Bool.not_false, Bool.true_and, Bool.false_and, Bool.and_true, Bool.and_false, Bool.true_or, Bool.or_true, Bool.false_or, Bool.or_false, bI_t, bI_f, if_true, if_false, ite_true, ite_false, Bool.false_eq_true, Bool.true_eq_false, eq_self, reduceIte, true_or, or_true, false_or, or_false, and_true, true_and, and_false, false_and, not_true_eq_false, not_false_eq_true, decide_eq_true_eq, decide_eq_false_iff_not])) ?_
          exact ih_lp (i + 1) (by omega) (by omega)
  refine i_iconst (v := 0) B dX9_provedOf_0 (by decide) ?_
  refine i_istore_n B [(2, .int 0), (0, .ref h), (1, .int (nI p))] dX9_provedOf_1 (by decide) rfl ?_
  refine i_iconst (v := 0) B dX9_provedOf_2 (by decide) ?_
  refine i_istore_n B [(3, .int 0), (2, .int 0), (0, .ref h), (1, .int (nI p))] dX9_provedOf_3 (by decide) rfl ?_
  refine i_Leq (congrArg (fun z_9 => ([(3, .int z_9), (2, .int 0), (0, .ref h), (1, .int (nI p))] : List (Nat × Value))) (show (0 : Int32) = (nI 0) from rfl)) ?_
  refine i_Leq (congrArg (fun z_9 => ([(3, .int (nI 0)), (2, .int z_9), (0, .ref h), (1, .int (nI p))] : List (Nat × Value))) (show (0 : Int32) = (pvn g a np p 0) from rfl)) ?_
  exact lp (nl + 1) 0 (by omega) (Nat.zero_le _)

set_option maxHeartbeats 4000000 in
set_option maxRecDepth 100000 in
theorem k_X9_proves (l : Launch) (E : ED) (h : Nat) (q : Nat → Nat) (g : Nat → Int32) (a : Nat → Nat → Int32) (np : Nat) (hn : g 1 = nI np) (hnp : np ≤ 12) (nl : Nat) (hl : g 20 = nI nl) (hnl : nl ≤ 20) (lg p : Int32) : WR l E yX9_proves cX9_proves 3 .int 5 144 0 0 [.ref h, .int lg, .int p] (mW E h q g a) (fun r (_ : Unit) => r = prsF g a np lg p) (fun _ : Unit => mW E h q g a) := by
  refine WR.mk (by decide) (Nat.le_of_ble_eq_true rfl) [(0, .ref h), (1, .int lg), (2, .int p)] rfl (fun Z B ret => ?_)
  refine i_aload_n B 0 dX9_proves_0 rfl ?_
  refine i_iconst (v := 0) B dX9_proves_1 (by decide) ?_
  refine i_put B flX9_99 0 (mW E h q g a) rfl rfl rfl rfl (Nat.le_of_ble_eq_true rfl) rfl dX9_proves_2 ?_
  refine i_iload_n B 1 dX9_proves_5 rfl ?_
  refine i_i2l B dX9_proves_6 ?_
  refine i_lconst (v := 0) B dX9_proves_7 (by decide) ?_
  refine i_aload_n B 0 dX9_proves_8 rfl ?_
  refine i_get (v := .int (g 20)) B flX9_204 0 rfl rfl dX9_proves_9 ?_
  refine i_iconst (v := 1) B dX9_proves_12 (by decide) ?_
  refine i_isub B dX9_proves_13 ?_
  refine i_i2l B dX9_proves_14 ?_
  refine c_roS (rest := []) (As := [.long (Int32.toInt64 lg), .long 0, .long (Int32.toInt64 ((g 20) - 1))]) B (k_X9_in l E (Int32.toInt64 lg) 0 (Int32.toInt64 ((g 20) - 1))) cal_yX9_in is_yX9_in mlX9_104 (by decide) (by decide) rfl (Nat.le_of_ble_eq_true rfl) Has.nil _ rfl dX9_proves_15 (fun r hr => ?_)
  subst hr
  refine i_val (v' := .int (bI (wit lg 0 ((g 20) - 1)))) (congrArg (fun z => Value.int (bI z)) (pin_i lg 0 ((g 20) - 1))) ?_
  refine i_if_eq B 29 dX9_proves_18 (by decide) (fun h1 => ?_) (fun h1 => ?_)
  · replace h1 := bI_0.mp h1
    refine i_iconst (v := (-1)) B dX9_proves_29 (by decide) ?_
    refine i_goto B 47 dX9_proves_30 (by decide) ?_
    exact ret _ _ _ () rfl dX9_proves_47 (by simp only [prsF, h1, decide_true, decide_false, Bool.not_true, Bool.not_false, Bool.true_and, Bool.false_and, Bool.and_true, Bool.and_false, Bool.true_or, Bool.or_true, Bool.false_or, Bool.or_false, Bool.and_self, Bool.or_self, bI_t, bI_f, if_true, if_false, ite_true, ite_false, Bool.false_eq_true, Bool.true_eq_false, eq_self, reduceIte, true_or, or_true, false_or, or_false, and_true, true_and, and_false, false_and, not_true_eq_false, not_false_eq_true, decide_eq_true_eq, decide_eq_false_iff_not])
  · replace h1 := bI_n.mp h1
    refine i_aload_n B 0 dX9_proves_21 rfl ?_
    refine i_iload_n B 2 dX9_proves_22 rfl ?_
    refine c_roV (rest := []) (As := [.int p]) B (k_X9_noPanel l E h q g a p) cal_yX9_noPanel iv_yX9_noPanel mlX9_140 rfl 0 rfl (by decide) (by decide) rfl (Nat.le_of_ble_eq_true rfl) Has.rf _ rfl dX9_proves_23 (fun r hr => ?_)
    subst hr
    refine i_val (v' := .int (bI (!wit p 0 ((g 1) - 1)))) rfl ?_
    refine i_if_eq B 33 dX9_proves_26 (by decide) (fun h2 => ?_) (fun h2 => ?_)
    · replace h2 := bI_0.mp h2
      replace h2 : wit p 0 ((g 1) - 1) = true := by simpa using h2
      obtain ⟨j, hj, rfl⟩ := wit_ix (n := nl) (by omega) (by rw [← hl]; exact h1)
      obtain ⟨i, hi, rfl⟩ := wit_ix (n := np) (by omega) (by rw [← hn]; exact h2)
      refine i_aload_n B 0 dX9_proves_33 rfl ?_
      refine i_iload_n B 1 dX9_proves_34 rfl ?_
      refine i_iload_n B 2 dX9_proves_35 rfl ?_
      refine c_roV (rest := []) (As := [.int (nI j), .int (nI i)]) B (k_X9_isProved l E h q g a np hn hnp j i (by omega) (by omega)) cal_yX9_isProved iv_yX9_isProved mlX9_207 rfl 0 rfl (by decide) (by decide) rfl (Nat.le_of_ble_eq_true rfl) Has.rf _ rfl dX9_proves_36 (fun r hr => ?_)
      subst hr
      refine i_val (v' := .int (bI (prv g a np j i))) rfl ?_
      refine i_if_eq B 46 dX9_proves_39 (by decide) (fun h3 => ?_) (fun h3 => ?_)
      · replace h3 := bI_0.mp h3
        refine i_iconst (v := 0) B dX9_proves_46 (by decide) ?_
        exact ret _ _ _ () rfl dX9_proves_47 (by simp only [prsF, ix_nI (show j < 2 ^ 31 by omega), ix_nI (show i < 2 ^ 31 by omega), h1, h2, h3, decide_true, decide_false, Bool.not_true, Bool.not_false, Bool.true_and, Bool.false_and, Bool.and_true, Bool.and_false, Bool.true_or, Bool.or_true, Bool.false_or, Bool.or_false, Bool.and_self, Bool.or_self, bI_t, bI_f, if_true, if_false, ite_true, ite_false, Bool.false_eq_true, Bool.true_eq_false, eq_self, reduceIte, true_or, or_true, false_or, or_false, and_true, true_and, and_false, false_and, not_true_eq_false, not_false_eq_true, decide_eq_true_eq, decide_eq_false_iff_not])
      · replace h3 := bI_n.mp h3
        refine i_iconst (v := 1) B dX9_proves_42 (by decide) ?_
        refine i_goto B 47 dX9_proves_43 (by decide) ?_
        exact ret _ _ _ () rfl dX9_proves_47 (by simp only [prsF, ix_nI (show j < 2 ^ 31 by omega), ix_nI (show i < 2 ^ 31 by omega), h1, h2, h3, decide_true, decide_false, Bool.not_true, Bool.not_false, Bool.true_and, Bool.false_and, Bool.and_true, Bool.and_false, Bool.true_or, Bool.or_true, Bool.false_or, Bool.or_false, Bool.and_self, Bool.or_self, bI_t, bI_f, if_true, if_false, ite_true, ite_false, Bool.false_eq_true, Bool.true_eq_false, eq_self, reduceIte, true_or, or_true, false_or, or_false, and_true, true_and, and_false, false_and, not_true_eq_false, not_false_eq_true, decide_eq_true_eq, decide_eq_false_iff_not])
    · replace h2 := bI_n.mp h2
      replace h2 : wit p 0 ((g 1) - 1) = false := by simpa using h2
      refine i_iconst (v := (-1)) B dX9_proves_29 (by decide) ?_
      refine i_goto B 47 dX9_proves_30 (by decide) ?_
      exact ret _ _ _ () rfl dX9_proves_47 (by simp only [prsF, h1, h2, decide_true, decide_false, Bool.not_true, Bool.not_false, Bool.true_and, Bool.false_and, Bool.and_true, Bool.and_false, Bool.true_or, Bool.or_true, Bool.false_or, Bool.or_false, Bool.and_self, Bool.or_self, bI_t, bI_f, if_true, if_false, ite_true, ite_false, Bool.false_eq_true, Bool.true_eq_false, eq_self, reduceIte, true_or, or_true, false_or, or_false, and_true, true_and, and_false, false_and, not_true_eq_false, not_false_eq_true, decide_eq_true_eq, decide_eq_false_iff_not])

set_option maxHeartbeats 4000000 in
set_option maxRecDepth 100000 in
theorem k_X9_proved (l : Launch) (E : ED) (h : Nat) (q : Nat → Nat) (g : Nat → Int32) (a : Nat → Nat → Int32) (np : Nat) (hn : g 1 = nI np) (hnp : np ≤ 12) (nl : Nat) (hl : g 20 = nI nl) (hnl : nl ≤ 20) (p : Int32) : WR l E yX9_proved cX9_proved 2 .int 6 167 0 0 [.ref h, .int p] (mW E h q g a) (fun r (_ : Unit) => r = prdF g a np nl p) (fun _ : Unit => mW E h q g a) := by
  refine WR.mk (by decide) (Nat.le_of_ble_eq_true rfl) [(0, .ref h), (1, .int p)] rfl (fun Z B ret => ?_)
  refine i_aload_n B 0 dX9_proved_0 rfl ?_
  refine i_iconst (v := 0) B dX9_proved_1 (by decide) ?_
  refine i_put B flX9_99 0 (mW E h q g a) rfl rfl rfl rfl (Nat.le_of_ble_eq_true rfl) rfl dX9_proved_2 ?_
  refine i_aload_n B 0 dX9_proved_5 rfl ?_
  refine i_iload_n B 1 dX9_proved_6 rfl ?_
  refine c_roV (rest := []) (As := [.int p]) B (k_X9_noPanel l E h q g a p) cal_yX9_noPanel iv_yX9_noPanel mlX9_140 rfl 0 rfl (by decide) (by decide) rfl (Nat.le_of_ble_eq_true rfl) Has.rf _ rfl dX9_proved_7 (fun r hr => ?_)
  subst hr
  refine i_val (v' := .int (bI (!wit p 0 ((g 1) - 1)))) rfl ?_
  refine i_if_eq B 17 dX9_proved_10 (by decide) (fun h1 => ?_) (fun h1 => ?_)
  · replace h1 := bI_0.mp h1
    replace h1 : wit p 0 ((g 1) - 1) = true := by simpa using h1
    obtain ⟨j, hj, rfl⟩ := wit_ix (n := np) (by omega) (by rw [← hn]; exact h1)
    refine i_aload_n B 0 dX9_proved_17 rfl ?_
    refine i_iload_n B 1 dX9_proved_18 rfl ?_
    refine c_roV (rest := []) (As := [.int (nI j)]) B (k_X9_provedOf l E h q g a np hn hnp nl hl hnl j (by omega)) cal_yX9_provedOf iv_yX9_provedOf mlX9_210 rfl 0 rfl (by decide) (by decide) rfl (Nat.le_of_ble_eq_true rfl) Has.rf _ rfl dX9_proved_19 (fun r hr => ?_)
    subst hr
    refine i_val (v' := .int (pvn g a np j nl)) rfl ?_
    exact ret _ _ _ () rfl dX9_proved_22 (by simp only [prdF, ix_nI (show j < 2 ^ 31 by omega), h1, decide_true, decide_false, Bool.not_true, Bool.not_false, Bool.true_and, Bool.false_and, Bool.and_true, Bool.and_false, Bool.true_or, Bool.or_true, Bool.false_or, Bool.or_false, Bool.and_self, Bool.or_self, bI_t, bI_f, if_true, if_false, ite_true, ite_false, Bool.false_eq_true, Bool.true_eq_false, eq_self, reduceIte, true_or, or_true, false_or, or_false, and_true, true_and, and_false, false_and, not_true_eq_false, not_false_eq_true, decide_eq_true_eq, decide_eq_false_iff_not])
  · replace h1 := bI_n.mp h1
    replace h1 : wit p 0 ((g 1) - 1) = false := by simpa using h1
    refine i_iconst (v := (-1)) B dX9_proved_13 (by decide) ?_
    refine i_goto B 22 dX9_proved_14 (by decide) ?_
    exact ret _ _ _ () rfl dX9_proved_22 (by simp only [prdF, h1, decide_true, decide_false, Bool.not_true, Bool.not_false, Bool.true_and, Bool.false_and, Bool.and_true, Bool.and_false, Bool.true_or, Bool.or_true, Bool.false_or, Bool.or_false, Bool.and_self, Bool.or_self, bI_t, bI_f, if_true, if_false, ite_true, ite_false, Bool.false_eq_true, Bool.true_eq_false, eq_self, reduceIte, true_or, or_true, false_or, or_false, and_true, true_and, and_false, false_and, not_true_eq_false, not_false_eq_true, decide_eq_true_eq, decide_eq_false_iff_not])

set_option maxHeartbeats 4000000 in
set_option maxRecDepth 100000 in
theorem k_X9_missing (l : Launch) (E : ED) (h : Nat) (q : Nat → Nat) (g : Nat → Int32) (a : Nat → Nat → Int32) (np : Nat) (hn : g 1 = nI np) (hnp : np ≤ 12) (nl : Nat) (hl : g 20 = nI nl) (hnl : nl ≤ 20) (i k : Int32) : WR l E yX9_missing cX9_missing 5 .int 6 167 0 0 [.ref h, .int i, .int k] (mW E h q g a) (fun r (_ : Unit) => r = misF g a np nl i k) (fun _ : Unit => mW E h q g a) := by
  refine WR.mk (by decide) (Nat.le_of_ble_eq_true rfl) [(0, .ref h), (1, .int i), (2, .int k)] rfl (fun Z B ret => ?_)
  have lp : ∀ (n_lp : Nat) (p : Nat), (np - p < n_lp) → (p ≤ np) → (mis g a np nl i k np 0 = mis g a np nl i k (np - p) p) → (wit k 1 3 = true) → J Z 0 0 (mW E h q g a) 25 [(4, .int (nI p)), (3, .int (msn g a np nl k p)), (0, .ref h), (1, .int i), (2, .int k)] [] := by
    intro n_lp
    induction n_lp with
    | zero => intro p hf_lp hi hm hk; omega
    | succ n_lp ih_lp =>
      intro p hf_lp hi hm hk
      refine i_iload B 0 dX9_missing_25 rfl ?_
      refine i_aload_n B 2 dX9_missing_27 rfl ?_
      refine i_get (v := .int (g 1)) B flX9_108 0 rfl rfl dX9_missing_28 ?_
      refine i_icmp_ge B 61 dX9_missing_31 (by decide) (fun h1 => ?_) (fun h1 => ?_)
      · replace h1 := q_n32.mpr h1
        rw [hn, nI_ltI (by omega) (by omega)] at h1
        refine i_bipush (v := (-9)) B dX9_missing_61 (by decide) ?_
        exact ret _ _ _ () rfl dX9_missing_63 (by rw [misF, hk, hm, show np - p = 0 by omega]; rfl)
      · replace h1 := q_m32.mp h1
        rw [hn, nI_ltI (by omega) (by omega)] at h1
        refine i_aload_n B 2 dX9_missing_34 rfl ?_
        refine i_iload B 0 dX9_missing_35 rfl ?_
        refine c_roV (rest := []) (As := [.int (nI p)]) B (k_X9_provedOf l E h q g a np hn hnp nl hl hnl p (by omega)) cal_yX9_provedOf iv_yX9_provedOf mlX9_210 rfl 0 rfl (by decide) (by decide) rfl (Nat.le_of_ble_eq_true rfl) Has.rf _ rfl dX9_missing_37 (fun r hr => ?_)
        subst hr
        refine i_val (v' := .int (pvn g a np p nl)) rfl ?_
        refine i_iload_n B 4 dX9_missing_40 rfl ?_
        refine i_icmp_ge B 55 dX9_missing_41 (by decide) (fun h2 => ?_) (fun h2 => ?_)
        · replace h2 := q_n32.mpr h2
          refine i_iinc (v := (nI (p + 1))) B 0 [(4, .int (nI (p + 1))), (3, .int (msn g a np nl k p)), (0, .ref h), (1, .int i), (2, .int k)] dX9_missing_55 rfl ((nI_1 _)) (by decide) rfl ?_
          refine i_goto B 25 dX9_missing_58 (by decide) ?_
          refine i_Leq (congrArg (fun z_9 => ([(4, .int (nI (p + 1))), (3, .int z_9), (0, .ref h), (1, .int i), (2, .int k)] : List (Nat × Value))) (show ((msn g a np nl k p) : Int32) = (msn g a np nl k (p + 1)) from by rw [msn]; simp only [h2, decide_true, decide_false, Bool.not_true, Bool.not_false, Bool.true_and, Bool.false_and, Bool.and_true, Bool.and_false, Bool.true_or, Bool.or_true, Bool.false_or, Bool.or_false, bI_t, bI_f, if_true, if_false, ite_true, ite_false, Bool.false_eq_true, Bool.true_eq_false, eq_self, reduceIte, true_or, or_true, false_or, or_false, and_true, true_and, and_false, false_and, not_true_eq_false, not_false_eq_true, decide_eq_true_eq, decide_eq_false_iff_not, Int32.add_zero])) ?_
          exact ih_lp (p + 1) (by omega) (by omega) (hm.trans (by rw [show np - p = (np - (p + 1)) + 1 by omega, mis]; simp only [h2, decide_true, decide_false, Bool.not_true, Bool.not_false, Bool.true_and, Bool.false_and, Bool.and_true, Bool.and_false, Bool.true_or, Bool.or_true, Bool.false_or, Bool.or_false, bI_t, bI_f, if_true, if_false, ite_true, ite_false, Bool.false_eq_true, Bool.true_eq_false, eq_self, reduceIte, true_or, or_true, false_or, or_false, and_true, true_and, and_false, false_and, not_true_eq_false, not_false_eq_true, decide_eq_true_eq, decide_eq_false_iff_not])) hk
        · replace h2 := q_m32.mp h2
          refine i_iload_n B 1 dX9_missing_44 rfl ?_
          refine i_iload_n B 3 dX9_missing_45 rfl ?_
          refine i_icmp_ne B 52 dX9_missing_46 (by decide) (fun h3 => ?_) (fun h3 => ?_)
          · have h3d := decide_eq_false h3
            refine i_iinc (v := ((msn g a np nl k p) + 1)) B 1 [(3, .int ((msn g a np nl k p) + 1)), (4, .int (nI p)), (0, .ref h), (1, .int i), (2, .int k)] dX9_missing_52 rfl (rfl) (by decide) rfl ?_
            refine i_iinc (v := (nI (p + 1))) B 1 [(4, .int (nI (p + 1))), (3, .int ((msn g a np nl k p) + 1)), (0, .ref h), (1, .int i), (2, .int k)] dX9_missing_55 rfl ((nI_1 _)) (by decide) rfl ?_
            refine i_goto B 25 dX9_missing_58 (by decide) ?_
            refine i_Leq (congrArg (fun z_9 => ([(4, .int (nI (p + 1))), (3, .int z_9), (0, .ref h), (1, .int i), (2, .int k)] : List (Nat × Value))) (show (((msn g a np nl k p) + 1) : Int32) = (msn g a np nl k (p + 1)) from by rw [msn]; simp only [h2, h3d, decide_true, decide_false, Bool.not_true, Bool.not_false, Bool.true_and, Bool.false_and, Bool.and_true, Bool.and_false, Bool.true_or, Bool.or_true, Bool.false_or, Bool.or_false, bI_t, bI_f, if_true, if_false, ite_true, ite_false, Bool.false_eq_true, Bool.true_eq_false, eq_self, reduceIte, true_or, or_true, false_or, or_false, and_true, true_and, and_false, false_and, not_true_eq_false, not_false_eq_true, decide_eq_true_eq, decide_eq_false_iff_not, Int32.add_zero])) ?_
            exact ih_lp (p + 1) (by omega) (by omega) (hm.trans (by rw [show np - p = (np - (p + 1)) + 1 by omega, mis]; simp only [h2, h3d, decide_true, decide_false, Bool.not_true, Bool.not_false, Bool.true_and, Bool.false_and, Bool.and_true, Bool.and_false, Bool.true_or, Bool.or_true, Bool.false_or, Bool.or_false, bI_t, bI_f, if_true, if_false, ite_true, ite_false, Bool.false_eq_true, Bool.true_eq_false, eq_self, reduceIte, true_or, or_true, false_or, or_false, and_true, true_and, and_false, false_and, not_true_eq_false, not_false_eq_true, decide_eq_true_eq, decide_eq_false_iff_not])) hk
          · have h3d := decide_eq_true h3
            refine i_iload B 0 dX9_missing_49 rfl ?_
            exact ret _ _ _ () rfl dX9_missing_51 (by rw [misF, hk, hm, show np - p = (np - (p + 1)) + 1 by omega, mis]; simp only [h2, h3d, decide_true, decide_false, Bool.not_true, Bool.not_false, Bool.true_and, Bool.false_and, Bool.and_true, Bool.and_false, Bool.true_or, Bool.or_true, Bool.false_or, Bool.or_false, bI_t, bI_f, if_true, if_false, ite_true, ite_false, Bool.false_eq_true, Bool.true_eq_false, eq_self, reduceIte, true_or, or_true, false_or, or_false, and_true, true_and, and_false, false_and, not_true_eq_false, not_false_eq_true, decide_eq_true_eq, decide_eq_false_iff_not])
  refine i_aload_n B 0 dX9_missing_0 rfl ?_
  refine i_iconst (v := 0) B dX9_missing_1 (by decide) ?_
  refine i_put B flX9_99 0 (mW E h q g a) rfl rfl rfl rfl (Nat.le_of_ble_eq_true rfl) rfl dX9_missing_2 ?_
  refine i_iload_n B 2 dX9_missing_5 rfl ?_
  refine i_i2l B dX9_missing_6 ?_
  refine i_lconst (v := 1) B dX9_missing_7 (by decide) ?_
  refine i_ldc2 B ckX9_152 dX9_missing_8 ?_
  refine c_roS (rest := []) (As := [.long (Int32.toInt64 k), .long 1, .long 3]) B (k_X9_in l E (Int32.toInt64 k) 1 3) cal_yX9_in is_yX9_in mlX9_104 (by decide) (by decide) rfl (Nat.le_of_ble_eq_true rfl) Has.nil _ rfl dX9_missing_11 (fun r hr => ?_)
  subst hr
  refine i_val (v' := .int (bI (wit k 1 3))) (congrArg (fun z => Value.int (bI z)) (pin_i k 1 3)) ?_
  refine i_if_ne B 20 dX9_missing_14 (by decide) (fun h4 => ?_) (fun h4 => ?_)
  · replace h4 := bI_n.mp h4
    refine i_iconst (v := 0) B dX9_missing_20 (by decide) ?_
    refine i_istore_n B [(3, .int 0), (0, .ref h), (1, .int i), (2, .int k)] dX9_missing_21 (by decide) rfl ?_
    refine i_iconst (v := 0) B dX9_missing_22 (by decide) ?_
    refine i_istore B [(4, .int 0), (3, .int 0), (0, .ref h), (1, .int i), (2, .int k)] dX9_missing_23 (by decide) rfl ?_
    refine i_Leq (congrArg (fun z_9 => ([(4, .int z_9), (3, .int 0), (0, .ref h), (1, .int i), (2, .int k)] : List (Nat × Value))) (show (0 : Int32) = (nI 0) from rfl)) ?_
    refine i_Leq (congrArg (fun z_9 => ([(4, .int (nI 0)), (3, .int z_9), (0, .ref h), (1, .int i), (2, .int k)] : List (Nat × Value))) (show (0 : Int32) = (msn g a np nl k 0) from rfl)) ?_
    exact lp (np + 1) 0 (by omega) (Nat.zero_le _) rfl h4
  · replace h4 := bI_0.mp h4
    refine i_bipush (v := (-2)) B dX9_missing_17 (by decide) ?_
    exact ret _ _ _ () rfl dX9_missing_19 (by simp only [misF, h4, decide_true, decide_false, Bool.not_true, Bool.not_false, Bool.true_and, Bool.false_and, Bool.and_true, Bool.and_false, Bool.true_or, Bool.or_true, Bool.false_or, Bool.or_false, Bool.and_self, Bool.or_self, bI_t, bI_f, if_true, if_false, ite_true, ite_false, Bool.false_eq_true, Bool.true_eq_false, eq_self, reduceIte, true_or, or_true, false_or, or_false, and_true, true_and, and_false, false_and, not_true_eq_false, not_false_eq_true, decide_eq_true_eq, decide_eq_false_iff_not])
