set_option maxHeartbeats 4000000 in
set_option maxRecDepth 100000 in
theorem k_X6_xOf (l : Launch) (E : ED) (q : Nat → Nat) (g : Nat → Int32) (a : Nat → Nat → Int32) (s : Nat → Int32) (t : Nat → Nat → Int32) (hb : g 90 = a 9 10 ∧ g 91 = a 10 10) (v : Nat) (hv11 : v < 11) : RO l E yX6_xOf cX6_xOf 2 .int 0 0 [.ref (q 49), .int (nI v)] (cW E q g a s t (.ref (q 49)) (sR E q s t)) (fun r => r = a 9 v) := by
  refine RO.mk (by decide) (Nat.le_of_ble_eq_true rfl) [(0, .ref (q 49)), (1, .int (nI v))] rfl (fun Z B ret => ?_)
  refine i_iload_n B 1 dX6_xOf_0 rfl ?_
  refine i_bipush (v := 10) B dX6_xOf_1 (by decide) ?_
  refine i_icmp_ne B 16 dX6_xOf_3 (by decide) (fun h1 => ?_) (fun h1 => ?_)
  · rw [show (10 : Int32) = nI 10 from rfl, nI_eq (by omega) (by omega)] at h1
    have h1d := decide_eq_false h1
    refine i_aload_n B 0 dX6_xOf_16 rfl ?_
    refine i_get (v := .ref (q 42)) B flX6_24 31 rfl rfl dX6_xOf_17 ?_
    refine i_get (v := .ref (q 9)) B flX6_80 6 rfl rfl dX6_xOf_20 ?_
    refine i_iload_n B 1 dX6_xOf_23 rfl ?_
    refine i_ialdN B 7 v rfl rfl (by omega) (by decide) dX6_xOf_24 ?_
    exact ret _ _ _ rfl dX6_xOf_25 (rfl)
  · rw [show (10 : Int32) = nI 10 from rfl, nI_eq (by omega) (by omega)] at h1
    have h1d := decide_eq_true h1
    refine i_aload_n B 0 dX6_xOf_6 rfl ?_
    refine i_get (v := .ref (q 45)) B flX6_32 31 rfl rfl dX6_xOf_7 ?_
    refine i_get (v := .int (g 90)) B flX6_75 16 rfl rfl dX6_xOf_10 ?_
    refine i_goto B 25 dX6_xOf_13 (by decide) ?_
    exact ret _ _ _ rfl dX6_xOf_25 (by rw [h1]; exact hb.1)

set_option maxHeartbeats 4000000 in
set_option maxRecDepth 100000 in
theorem k_X6_yOf (l : Launch) (E : ED) (q : Nat → Nat) (g : Nat → Int32) (a : Nat → Nat → Int32) (s : Nat → Int32) (t : Nat → Nat → Int32) (hb : g 90 = a 9 10 ∧ g 91 = a 10 10) (v : Nat) (hv11 : v < 11) : RO l E yX6_yOf cX6_yOf 2 .int 0 0 [.ref (q 49), .int (nI v)] (cW E q g a s t (.ref (q 49)) (sR E q s t)) (fun r => r = a 10 v) := by
  refine RO.mk (by decide) (Nat.le_of_ble_eq_true rfl) [(0, .ref (q 49)), (1, .int (nI v))] rfl (fun Z B ret => ?_)
  refine i_iload_n B 1 dX6_yOf_0 rfl ?_
  refine i_bipush (v := 10) B dX6_yOf_1 (by decide) ?_
  refine i_icmp_ne B 16 dX6_yOf_3 (by decide) (fun h1 => ?_) (fun h1 => ?_)
  · rw [show (10 : Int32) = nI 10 from rfl, nI_eq (by omega) (by omega)] at h1
    have h1d := decide_eq_false h1
    refine i_aload_n B 0 dX6_yOf_16 rfl ?_
    refine i_get (v := .ref (q 42)) B flX6_24 31 rfl rfl dX6_yOf_17 ?_
    refine i_get (v := .ref (q 10)) B flX6_88 6 rfl rfl dX6_yOf_20 ?_
    refine i_iload_n B 1 dX6_yOf_23 rfl ?_
    refine i_ialdN B 8 v rfl rfl (by omega) (by decide) dX6_yOf_24 ?_
    exact ret _ _ _ rfl dX6_yOf_25 (rfl)
  · rw [show (10 : Int32) = nI 10 from rfl, nI_eq (by omega) (by omega)] at h1
    have h1d := decide_eq_true h1
    refine i_aload_n B 0 dX6_yOf_6 rfl ?_
    refine i_get (v := .ref (q 45)) B flX6_32 31 rfl rfl dX6_yOf_7 ?_
    refine i_get (v := .int (g 91)) B flX6_85 16 rfl rfl dX6_yOf_10 ?_
    refine i_goto B 25 dX6_yOf_13 (by decide) ?_
    exact ret _ _ _ rfl dX6_yOf_25 (by rw [h1]; exact hb.2)

set_option maxHeartbeats 4000000 in
set_option maxRecDepth 100000 in
theorem k_X6_costBy (l : Launch) (E : ED) (q : Nat → Nat) (g : Nat → Int32) (a : Nat → Nat → Int32) (s : Nat → Int32) (t : Nat → Nat → Int32) (x S b : Nat) (hx : x < 11) (hS : S < 1024) (hb : b < 10) : RO l E yX6_costBy cX6_costBy 4 .int 0 0 [.ref (q 49), .int (nI x), .int (nI S), .int (nI b)] (cW E q g a s t (.ref (q 49)) (sR E q s t)) (fun r => r = t 54 (x * 11 + b) + t 55 (S * 10 + b)) := by
  refine RO.mk (by decide) (Nat.le_of_ble_eq_true rfl) [(0, .ref (q 49)), (1, .int (nI x)), (2, .int (nI S)), (3, .int (nI b))] rfl (fun Z B ret => ?_)
  refine i_aload_n B 0 dX6_costBy_0 rfl ?_
  refine i_get (v := .ref (q 54)) B flX6_11 31 rfl rfl dX6_costBy_1 ?_
  refine i_iload_n B 1 dX6_costBy_4 rfl ?_
  refine i_bipush (v := 11) B dX6_costBy_5 (by decide) ?_
  refine i_imul B dX6_costBy_7 ?_
  refine i_iload_n B 3 dX6_costBy_8 rfl ?_
  refine i_iadd B dX6_costBy_9 ?_
  refine i_ialdN B 32 (x * 11 + b) rfl (by rw [show (11 : Int32) = nI 11 from rfl, pk_mul, nI_add]) (by omega) (by decide) dX6_costBy_10 ?_
  refine i_val (v' := .int ((t 54) (x * 11 + b))) rfl ?_
  refine i_aload_n B 0 dX6_costBy_11 rfl ?_
  refine i_get (v := .ref (q 55)) B flX6_15 31 rfl rfl dX6_costBy_12 ?_
  refine i_iload_n B 2 dX6_costBy_15 rfl ?_
  refine i_bipush (v := 10) B dX6_costBy_16 (by decide) ?_
  refine i_imul B dX6_costBy_18 ?_
  refine i_iload_n B 3 dX6_costBy_19 rfl ?_
  refine i_iadd B dX6_costBy_20 ?_
  refine i_ialdN B 33 (S * 10 + b) rfl (by rw [show (10 : Int32) = nI 10 from rfl, pk_mul, nI_add]) (by omega) (by decide) dX6_costBy_21 ?_
  refine i_val (v' := .int ((t 55) (S * 10 + b))) rfl ?_
  refine i_iadd B dX6_costBy_22 ?_
  exact ret _ _ _ rfl dX6_costBy_23 (rfl)

theorem hsb_bit {S b : Nat} (hS : S < 2 ^ 31) (hb : b < 32) : hsb (nI S) (nI b) = S.testBit b := by
  rw [hsb, bit_val hS hb]
  cases S.testBit b <;> rfl
/-- the least of the ways on, those below b looked at -/
def cfr (lc tl : Nat → Int32) (S x : Nat) : Nat → Int32
  | 0 => 1000000
  | b + 1 => if S.testBit b = true then mn (cfr lc tl S x b) (lc (x * 11 + b) + tl (S * 10 + b)) else cfr lc tl S x b
def cfm (lc tl : Nat → Int32) (S x : Nat) : Int32 := if decide (S = 0) = true then lc (x * 11 + 10) else cfr lc tl S x 10
def nvw (lc tl : Nat → Int32) (S x : Nat) : Nat → Nat × Int32
  | 0 => (0, 1000000)
  | b + 1 => if (S.testBit b && decide (lc (x * 11 + b) + tl (S * 10 + b) < (nvw lc tl S x b).2)) = true then (b, lc (x * 11 + b) + tl (S * 10 + b)) else nvw lc tl S x b
theorem nvw_lt (lc tl : Nat → Int32) (S x n : Nat) : (nvw lc tl S x n).1 ≤ n := by
  induction n with
  | zero => exact Nat.le_refl _
  | succ n ih =>
    rw [nvw]
    split
    · exact Nat.le_succ n
    · omega

set_option maxHeartbeats 4000000 in
set_option maxRecDepth 100000 in
theorem k_X6_costFrom (l : Launch) (E : ED) (q : Nat → Nat) (g : Nat → Int32) (a : Nat → Nat → Int32) (s : Nat → Int32) (t : Nat → Nat → Int32) (x S : Nat) (hx : x < 11) (hS : S < 1024) : RO l E yX6_costFrom cX6_costFrom 5 .int 1 23 [.ref (q 49), .int (nI x), .int (nI S)] (cW E q g a s t (.ref (q 49)) (sR E q s t)) (fun r => r = cfm (t 54) (t 55) S x) := by
  refine RO.mk (by decide) (Nat.le_of_ble_eq_true rfl) [(0, .ref (q 49)), (1, .int (nI x)), (2, .int (nI S))] rfl (fun Z B ret => ?_)
  have lp : ∀ (n_lp : Nat) (b : Nat), (10 - b < n_lp) → (b ≤ 10) → (decide (S = 0) = false) → J Z 0 0 (cW E q g a s t (.ref (q 49)) (sR E q s t)) 23 [(4, .int (nI b)), (3, .int (cfr (t 54) (t 55) S x b)), (0, .ref (q 49)), (1, .int (nI x)), (2, .int (nI S))] [] := by
    intro n_lp
    induction n_lp with
    | zero => intro b hf_lp hb hS0; omega
    | succ n_lp ih_lp =>
      intro b hf_lp hb hS0
      refine i_iload B 0 dX6_costFrom_23 rfl ?_
      refine i_bipush (v := 10) B dX6_costFrom_25 (by decide) ?_
      refine i_icmp_ge B 58 dX6_costFrom_27 (by decide) (fun h1 => ?_) (fun h1 => ?_)
      · replace h1 := q_n32.mpr h1
        rw [show (10 : Int32) = nI 10 from rfl, nI_ltI (by omega) (by omega)] at h1
        refine i_iload_n B 1 dX6_costFrom_58 rfl ?_
        exact ret _ _ _ rfl dX6_costFrom_59 (by rw [cfm, hS0, show b = 10 by omega]; rfl)
      · replace h1 := q_m32.mp h1
        rw [show (10 : Int32) = nI 10 from rfl, nI_ltI (by omega) (by omega)] at h1
        refine i_iload_n B 4 dX6_costFrom_30 rfl ?_
        refine i_iload B 0 dX6_costFrom_31 rfl ?_
        refine c_roSN (rest := []) (As := [.int (nI S), .int (nI b)]) B (k_X8_has l E (nI S) (nI b)) cal_yX8_has is_yX8_has (fun U h => h.2.2.2.2.2.2.2.2) (by decide) (by decide) rfl (Nat.le_of_ble_eq_true rfl) Has.nil _ rfl dX6_costFrom_33 (fun r hr => ?_)
        subst hr
        refine i_val (v' := .int (bI (hsb (nI S) (nI b)))) rfl ?_
        refine i_val (v' := .int (bI (S.testBit b))) (congrArg Value.int (by rw [hsb_bit (by omega) (by omega)])) ?_
        refine i_if_eq B 52 dX6_costFrom_36 (by decide) (fun h2 => ?_) (fun h2 => ?_)
        · replace h2 := bI_0.mp h2
          refine i_iinc (v := (nI (b + 1))) B 0 [(4, .int (nI (b + 1))), (3, .int (cfr (t 54) (t 55) S x b)), (0, .ref (q 49)), (1, .int (nI x)), (2, .int (nI S))] dX6_costFrom_52 rfl ((nI_1 _)) (by decide) rfl ?_
          refine i_goto B 23 dX6_costFrom_55 (by decide) ?_
          refine i_Leq (congrArg (fun z_9 => ([(4, .int (nI (b + 1))), (3, .int z_9), (0, .ref (q 49)), (1, .int (nI x)), (2, .int (nI S))] : List (Nat × Value))) (show ((cfr (t 54) (t 55) S x b) : Int32) = (cfr (t 54) (t 55) S x (b + 1)) from by rw [cfr, h2]; rfl)) ?_
          exact ih_lp (b + 1) (by omega) (by omega) hS0
        · replace h2 := bI_n.mp h2
          refine i_iload_n B 1 dX6_costFrom_39 rfl ?_
          refine i_aload_n B 2 dX6_costFrom_40 rfl ?_
          refine i_iload_n B 3 dX6_costFrom_41 rfl ?_
          refine i_iload_n B 4 dX6_costFrom_42 rfl ?_
          refine i_iload B 0 dX6_costFrom_43 rfl ?_
          refine c_roV (rest := [.int (cfr (t 54) (t 55) S x b)]) (As := [.int (nI x), .int (nI S), .int (nI b)]) B (k_X6_costBy l E q g a s t x S b (by omega) (by omega) (by omega)) cal_yX6_costBy iv_yX6_costBy mlX6_94 rfl 31 rfl (by decide) (by decide) rfl (Nat.le_of_ble_eq_true rfl) Has.rf _ rfl dX6_costFrom_45 (fun r hr => ?_)
          subst hr
          refine i_val (v' := .int ((t 54) (x * 11 + b) + (t 55) (S * 10 + b))) rfl ?_
          refine i_min B mlX6_98 is_Mmin ini_java_lang_Math cd_Mmin (by decide) (Nat.le_of_ble_eq_true rfl) (by decide) dX6_costFrom_48 ?_
          refine i_val (v' := .int (mn (cfr (t 54) (t 55) S x b) ((t 54) (x * 11 + b) + (t 55) (S * 10 + b)))) rfl ?_
          refine i_istore_n B [(3, .int (mn (cfr (t 54) (t 55) S x b) ((t 54) (x * 11 + b) + (t 55) (S * 10 + b)))), (4, .int (nI b)), (0, .ref (q 49)), (1, .int (nI x)), (2, .int (nI S))] dX6_costFrom_51 (by decide) rfl ?_
          refine i_iinc (v := (nI (b + 1))) B 1 [(4, .int (nI (b + 1))), (3, .int (mn (cfr (t 54) (t 55) S x b) ((t 54) (x * 11 + b) + (t 55) (S * 10 + b)))), (0, .ref (q 49)), (1, .int (nI x)), (2, .int (nI S))] dX6_costFrom_52 rfl ((nI_1 _)) (by decide) rfl ?_
          refine i_goto B 23 dX6_costFrom_55 (by decide) ?_
          refine i_Leq (congrArg (fun z_9 => ([(4, .int (nI (b + 1))), (3, .int z_9), (0, .ref (q 49)), (1, .int (nI x)), (2, .int (nI S))] : List (Nat × Value))) (show ((mn (cfr (t 54) (t 55) S x b) ((t 54) (x * 11 + b) + (t 55) (S * 10 + b))) : Int32) = (cfr (t 54) (t 55) S x (b + 1)) from by rw [cfr, h2]; rfl)) ?_
          exact ih_lp (b + 1) (by omega) (by omega) hS0
  refine i_iload_n B 2 dX6_costFrom_0 rfl ?_
  refine i_if_ne B 17 dX6_costFrom_1 (by decide) (fun h3 => ?_) (fun h3 => ?_)
  · rw [show (0 : Int32) = nI 0 from rfl, nI_eq (by omega) (by omega)] at h3
    have h3d := decide_eq_false h3
    refine i_ldc B ckX6_71 dX6_costFrom_17 ?_
    refine i_istore_n B [(3, .int 1000000), (0, .ref (q 49)), (1, .int (nI x)), (2, .int (nI S))] dX6_costFrom_19 (by decide) rfl ?_
    refine i_iconst (v := 0) B dX6_costFrom_20 (by decide) ?_
    refine i_istore B [(4, .int 0), (3, .int 1000000), (0, .ref (q 49)), (1, .int (nI x)), (2, .int (nI S))] dX6_costFrom_21 (by decide) rfl ?_
    refine i_Leq (congrArg (fun z_9 => ([(4, .int z_9), (3, .int 1000000), (0, .ref (q 49)), (1, .int (nI x)), (2, .int (nI S))] : List (Nat × Value))) (show (0 : Int32) = (nI 0) from rfl)) ?_
    refine i_Leq (congrArg (fun z_9 => ([(4, .int (nI 0)), (3, .int z_9), (0, .ref (q 49)), (1, .int (nI x)), (2, .int (nI S))] : List (Nat × Value))) (show (1000000 : Int32) = (cfr (t 54) (t 55) S x 0) from rfl)) ?_
    exact lp (11) 0 (by omega) (Nat.zero_le _) h3d
  · rw [show (0 : Int32) = nI 0 from rfl, nI_eq (by omega) (by omega)] at h3
    have h3d := decide_eq_true h3
    refine i_aload_n B 0 dX6_costFrom_4 rfl ?_
    refine i_get (v := .ref (q 54)) B flX6_11 31 rfl rfl dX6_costFrom_5 ?_
    refine i_iload_n B 1 dX6_costFrom_8 rfl ?_
    refine i_bipush (v := 11) B dX6_costFrom_9 (by decide) ?_
    refine i_imul B dX6_costFrom_11 ?_
    refine i_bipush (v := 10) B dX6_costFrom_12 (by decide) ?_
    refine i_iadd B dX6_costFrom_14 ?_
    refine i_ialdN B 32 (x * 11 + 10) rfl (by rw [show (11 : Int32) = nI 11 from rfl, show (10 : Int32) = nI 10 from rfl, pk_mul, nI_add]) (by omega) (by decide) dX6_costFrom_15 ?_
    refine i_val (v' := .int ((t 54) (x * 11 + 10))) rfl ?_
    exact ret _ _ _ rfl dX6_costFrom_16 (by simp only [cfm, h3d, decide_true, decide_false, Bool.not_true, Bool.not_false, Bool.true_and, Bool.false_and, Bool.and_true, Bool.and_false, Bool.true_or, Bool.or_true, Bool.false_or, Bool.or_false, Bool.and_self, Bool.or_self, bI_t, bI_f, if_true, if_false, ite_true, ite_false, Bool.false_eq_true, Bool.true_eq_false, eq_self, reduceIte, true_or, or_true, false_or, or_false, and_true, true_and, and_false, false_and, not_true_eq_false, not_false_eq_true, decide_eq_true_eq, decide_eq_false_iff_not])

set_option maxHeartbeats 4000000 in
set_option maxRecDepth 100000 in
theorem k_X6_hasRound (l : Launch) (E : ED) (q : Nat → Nat) (g : Nat → Int32) (a : Nat → Nat → Int32) (s : Nat → Int32) (t : Nat → Nat → Int32) (S : Nat) (hS : S < 1024) : RO l E yX6_hasRound cX6_hasRound 2 .boolean 0 0 [.ref (q 49), .int (nI S)] (cW E q g a s t (.ref (q 49)) (sR E q s t)) (fun r => r = bI (!decide (S = 0) && decide (t 56 S < 1000000))) := by
  refine RO.mk (by decide) (Nat.le_of_ble_eq_true rfl) [(0, .ref (q 49)), (1, .int (nI S))] rfl (fun Z B ret => ?_)
  refine i_iload_n B 1 dX6_hasRound_0 rfl ?_
  refine i_if_eq B 19 dX6_hasRound_1 (by decide) (fun h1 => ?_) (fun h1 => ?_)
  · rw [show (0 : Int32) = nI 0 from rfl, nI_eq (by omega) (by omega)] at h1
    have h1d := decide_eq_true h1
    refine i_iconst (v := 0) B dX6_hasRound_19 (by decide) ?_
    exact ret _ _ _ (by decide) dX6_hasRound_20 (by simp only [h1d, decide_true, decide_false, Bool.not_true, Bool.not_false, Bool.true_and, Bool.false_and, Bool.and_true, Bool.and_false, Bool.true_or, Bool.or_true, Bool.false_or, Bool.or_false, Bool.and_self, Bool.or_self, bI_t, bI_f, if_true, if_false, ite_true, ite_false, Bool.false_eq_true, Bool.true_eq_false, eq_self, reduceIte, true_or, or_true, false_or, or_false, and_true, true_and, and_false, false_and, not_true_eq_false, not_false_eq_true, decide_eq_true_eq, decide_eq_false_iff_not])
  · rw [show (0 : Int32) = nI 0 from rfl, nI_eq (by omega) (by omega)] at h1
    have h1d := decide_eq_false h1
    refine i_aload_n B 0 dX6_hasRound_4 rfl ?_
    refine i_get (v := .ref (q 56)) B flX6_18 31 rfl rfl dX6_hasRound_5 ?_
    refine i_iload_n B 1 dX6_hasRound_8 rfl ?_
    refine i_ialdN B 34 S rfl rfl (by omega) (by decide) dX6_hasRound_9 ?_
    refine i_val (v' := .int ((t 56) S)) rfl ?_
    refine i_ldc B ckX6_71 dX6_hasRound_10 ?_
    refine i_icmp_ge B 19 dX6_hasRound_12 (by decide) (fun h2 => ?_) (fun h2 => ?_)
    · replace h2 := q_n32.mpr h2
      refine i_iconst (v := 0) B dX6_hasRound_19 (by decide) ?_
      exact ret _ _ _ (by decide) dX6_hasRound_20 (by simp only [h1d, h2, decide_true, decide_false, Bool.not_true, Bool.not_false, Bool.true_and, Bool.false_and, Bool.and_true, Bool.and_false, Bool.true_or, Bool.or_true, Bool.false_or, Bool.or_false, Bool.and_self, Bool.or_self, bI_t, bI_f, if_true, if_false, ite_true, ite_false, Bool.false_eq_true, Bool.true_eq_false, eq_self, reduceIte, true_or, or_true, false_or, or_false, and_true, true_and, and_false, false_and, not_true_eq_false, not_false_eq_true, decide_eq_true_eq, decide_eq_false_iff_not])
    · replace h2 := q_m32.mp h2
      refine i_iconst (v := 1) B dX6_hasRound_15 (by decide) ?_
      refine i_goto B 20 dX6_hasRound_16 (by decide) ?_
      exact ret _ _ _ (by decide) dX6_hasRound_20 (by simp only [h1d, h2, decide_true, decide_false, Bool.not_true, Bool.not_false, Bool.true_and, Bool.false_and, Bool.and_true, Bool.and_false, Bool.true_or, Bool.or_true, Bool.false_or, Bool.or_false, Bool.and_self, Bool.or_self, bI_t, bI_f, if_true, if_false, ite_true, ite_false, Bool.false_eq_true, Bool.true_eq_false, eq_self, reduceIte, true_or, or_true, false_or, or_false, and_true, true_and, and_false, false_and, not_true_eq_false, not_false_eq_true, decide_eq_true_eq, decide_eq_false_iff_not])

set_option maxHeartbeats 4000000 in
set_option maxRecDepth 100000 in
theorem k_X6_roundCost (l : Launch) (E : ED) (q : Nat → Nat) (g : Nat → Int32) (a : Nat → Nat → Int32) (s : Nat → Int32) (t : Nat → Nat → Int32) (S : Nat) (hS : S < 1024) : RO l E yX6_roundCost cX6_roundCost 2 .int 1 21 [.ref (q 49), .int (nI S)] (cW E q g a s t (.ref (q 49)) (sR E q s t)) (fun r => r = if (!decide (S = 0) && decide (t 56 S < 1000000)) = true then t 56 S else -9) := by
  refine RO.mk (by decide) (Nat.le_of_ble_eq_true rfl) [(0, .ref (q 49)), (1, .int (nI S))] rfl (fun Z B ret => ?_)
  refine i_aload_n B 0 dX6_roundCost_0 rfl ?_
  refine i_iload_n B 1 dX6_roundCost_1 rfl ?_
  refine c_roV (rest := []) (As := [.int (nI S)]) B (k_X6_hasRound l E q g a s t S (by omega)) cal_yX6_hasRound iv_yX6_hasRound mlX6_103 rfl 31 rfl (by decide) (by decide) rfl (Nat.le_of_ble_eq_true rfl) Has.rf _ rfl dX6_roundCost_2 (fun r hr => ?_)
  subst hr
  refine i_val (v' := .int (bI (!decide (S = 0) && decide ((t 56) S < 1000000)))) rfl ?_
  refine i_if_eq B 17 dX6_roundCost_5 (by decide) (fun h1 => ?_) (fun h1 => ?_)
  · replace h1 := bI_0.mp h1
    refine i_bipush (v := (-9)) B dX6_roundCost_17 (by decide) ?_
    exact ret _ _ _ rfl dX6_roundCost_19 (by rw [h1]; rfl)
  · replace h1 := bI_n.mp h1
    refine i_aload_n B 0 dX6_roundCost_8 rfl ?_
    refine i_get (v := .ref (q 56)) B flX6_18 31 rfl rfl dX6_roundCost_9 ?_
    refine i_iload_n B 1 dX6_roundCost_12 rfl ?_
    refine i_ialdN B 34 S rfl rfl (by omega) (by decide) dX6_roundCost_13 ?_
    refine i_val (v' := .int ((t 56) S)) rfl ?_
    refine i_goto B 19 dX6_roundCost_14 (by decide) ?_
    exact ret _ _ _ rfl dX6_roundCost_19 (by rw [h1]; rfl)

set_option maxHeartbeats 4000000 in
set_option maxRecDepth 100000 in
theorem k_X6_nextView (l : Launch) (E : ED) (q : Nat → Nat) (g : Nat → Int32) (a : Nat → Nat → Int32) (s : Nat → Int32) (t : Nat → Nat → Int32) (x S : Nat) (hx : x < 11) (hS : S < 1024) : RO l E yX6_nextView cX6_nextView 6 .int 1 23 [.ref (q 49), .int (nI x), .int (nI S)] (cW E q g a s t (.ref (q 49)) (sR E q s t)) (fun r => r = nI (nvw (t 54) (t 55) S x 10).1) := by
  refine RO.mk (by decide) (Nat.le_of_ble_eq_true rfl) [(0, .ref (q 49)), (1, .int (nI x)), (2, .int (nI S))] rfl (fun Z B ret => ?_)
  have lp : ∀ (n_lp : Nat) (b : Nat), (10 - b < n_lp) → (b ≤ 10) → J Z 0 0 (cW E q g a s t (.ref (q 49)) (sR E q s t)) 9 [(5, .int (nI b)), (4, .int (nvw (t 54) (t 55) S x b).2), (3, .int (nI (nvw (t 54) (t 55) S x b).1)), (0, .ref (q 49)), (1, .int (nI x)), (2, .int (nI S))] [] := by
    intro n_lp
    induction n_lp with
    | zero => intro b hf_lp hb; omega
    | succ n_lp ih_lp =>
      intro b hf_lp hb
      refine i_iload B 0 dX6_nextView_9 rfl ?_
      refine i_bipush (v := 10) B dX6_nextView_11 (by decide) ?_
      refine i_icmp_ge B 57 dX6_nextView_13 (by decide) (fun h1 => ?_) (fun h1 => ?_)
      · replace h1 := q_n32.mpr h1
        rw [show (10 : Int32) = nI 10 from rfl, nI_ltI (by omega) (by omega)] at h1
        refine i_iload_n B 2 dX6_nextView_57 rfl ?_
        exact ret _ _ _ rfl dX6_nextView_58 (by rw [show b = 10 by omega])
      · replace h1 := q_m32.mp h1
        rw [show (10 : Int32) = nI 10 from rfl, nI_ltI (by omega) (by omega)] at h1
        refine i_iload_n B 5 dX6_nextView_16 rfl ?_
        refine i_iload B 0 dX6_nextView_17 rfl ?_
        refine c_roSN (rest := []) (As := [.int (nI S), .int (nI b)]) B (k_X8_has l E (nI S) (nI b)) cal_yX8_has is_yX8_has (fun U h => h.2.2.2.2.2.2.2.2) (by decide) (by decide) rfl (Nat.le_of_ble_eq_true rfl) Has.nil _ rfl dX6_nextView_19 (fun r hr => ?_)
        subst hr
        refine i_val (v' := .int (bI (hsb (nI S) (nI b)))) rfl ?_
        refine i_val (v' := .int (bI (S.testBit b))) (congrArg Value.int (by rw [hsb_bit (by omega) (by omega)])) ?_
        refine i_if_eq B 51 dX6_nextView_22 (by decide) (fun h2 => ?_) (fun h2 => ?_)
        · replace h2 := bI_0.mp h2
          refine i_iinc (v := (nI (b + 1))) B 0 [(5, .int (nI (b + 1))), (4, .int (nvw (t 54) (t 55) S x b).2), (3, .int (nI (nvw (t 54) (t 55) S x b).1)), (0, .ref (q 49)), (1, .int (nI x)), (2, .int (nI S))] dX6_nextView_51 rfl ((nI_1 _)) (by decide) rfl ?_
          refine i_goto B 9 dX6_nextView_54 (by decide) ?_
          refine i_Leq (congrArg (fun z_9 => ([(5, .int (nI (b + 1))), (4, .int z_9), (3, .int (nI (nvw (t 54) (t 55) S x b).1)), (0, .ref (q 49)), (1, .int (nI x)), (2, .int (nI S))] : List (Nat × Value))) (show ((nvw (t 54) (t 55) S x b).2 : Int32) = (nvw (t 54) (t 55) S x (b + 1)).2 from by rw [nvw]; simp only [h2, decide_true, decide_false, Bool.not_true, Bool.not_false, Bool.true_and, Bool.false_and, Bool.and_true, Bool.and_false, Bool.true_or, Bool.or_true, Bool.false_or, Bool.or_false, Bool.and_self, Bool.or_self, bI_t, bI_f, if_true, if_false, ite_true, ite_false, Bool.false_eq_true, Bool.true_eq_false, eq_self, reduceIte, true_or, or_true, false_or, or_false, and_true, true_and, and_false, false_and, not_true_eq_false, not_false_eq_true, decide_eq_true_eq, decide_eq_false_iff_not])) ?_
          refine i_Leq (congrArg (fun z_9 => ([(5, .int (nI (b + 1))), (4, .int (nvw (t 54) (t 55) S x (b + 1)).2), (3, .int z_9), (0, .ref (q 49)), (1, .int (nI x)), (2, .int (nI S))] : List (Nat × Value))) (show ((nI (nvw (t 54) (t 55) S x b).1) : Int32) = (nI (nvw (t 54) (t 55) S x (b + 1)).1) from by rw [nvw]; simp only [h2, decide_true, decide_false, Bool.not_true, Bool.not_false, Bool.true_and, Bool.false_and, Bool.and_true, Bool.and_false, Bool.true_or, Bool.or_true, Bool.false_or, Bool.or_false, Bool.and_self, Bool.or_self, bI_t, bI_f, if_true, if_false, ite_true, ite_false, Bool.false_eq_true, Bool.true_eq_false, eq_self, reduceIte, true_or, or_true, false_or, or_false, and_true, true_and, and_false, false_and, not_true_eq_false, not_false_eq_true, decide_eq_true_eq, decide_eq_false_iff_not])) ?_
          exact ih_lp (b + 1) (by omega) (by omega)
        · replace h2 := bI_n.mp h2
          refine i_aload_n B 3 dX6_nextView_25 rfl ?_
          refine i_iload_n B 4 dX6_nextView_26 rfl ?_
          refine i_iload_n B 5 dX6_nextView_27 rfl ?_
          refine i_iload B 0 dX6_nextView_28 rfl ?_
          refine c_roV (rest := []) (As := [.int (nI x), .int (nI S), .int (nI b)]) B (k_X6_costBy l E q g a s t x S b (by omega) (by omega) (by omega)) cal_yX6_costBy iv_yX6_costBy mlX6_94 rfl 31 rfl (by decide) (by decide) rfl (Nat.le_of_ble_eq_true rfl) Has.rf _ rfl dX6_nextView_30 (fun r hr => ?_)
          subst hr
          refine i_val (v' := .int ((t 54) (x * 11 + b) + (t 55) (S * 10 + b))) rfl ?_
          refine i_iload B 1 dX6_nextView_33 rfl ?_
          refine i_icmp_ge B 51 dX6_nextView_35 (by decide) (fun h3 => ?_) (fun h3 => ?_)
          · replace h3 := q_n32.mpr h3
            refine i_iinc (v := (nI (b + 1))) B 0 [(5, .int (nI (b + 1))), (4, .int (nvw (t 54) (t 55) S x b).2), (3, .int (nI (nvw (t 54) (t 55) S x b).1)), (0, .ref (q 49)), (1, .int (nI x)), (2, .int (nI S))] dX6_nextView_51 rfl ((nI_1 _)) (by decide) rfl ?_
            refine i_goto B 9 dX6_nextView_54 (by decide) ?_
            refine i_Leq (congrArg (fun z_9 => ([(5, .int (nI (b + 1))), (4, .int z_9), (3, .int (nI (nvw (t 54) (t 55) S x b).1)), (0, .ref (q 49)), (1, .int (nI x)), (2, .int (nI S))] : List (Nat × Value))) (show ((nvw (t 54) (t 55) S x b).2 : Int32) = (nvw (t 54) (t 55) S x (b + 1)).2 from by rw [nvw]; simp only [h2, h3, decide_true, decide_false, Bool.not_true, Bool.not_false, Bool.true_and, Bool.false_and, Bool.and_true, Bool.and_false, Bool.true_or, Bool.or_true, Bool.false_or, Bool.or_false, Bool.and_self, Bool.or_self, bI_t, bI_f, if_true, if_false, ite_true, ite_false, Bool.false_eq_true, Bool.true_eq_false, eq_self, reduceIte, true_or, or_true, false_or, or_false, and_true, true_and, and_false, false_and, not_true_eq_false, not_false_eq_true, decide_eq_true_eq, decide_eq_false_iff_not])) ?_
            refine i_Leq (congrArg (fun z_9 => ([(5, .int (nI (b + 1))), (4, .int (nvw (t 54) (t 55) S x (b + 1)).2), (3, .int z_9), (0, .ref (q 49)), (1, .int (nI x)), (2, .int (nI S))] : List (Nat × Value))) (show ((nI (nvw (t 54) (t 55) S x b).1) : Int32) = (nI (nvw (t 54) (t 55) S x (b + 1)).1) from by rw [nvw]; simp only [h2, h3, decide_true, decide_false, Bool.not_true, Bool.not_false, Bool.true_and, Bool.false_and, Bool.and_true, Bool.and_false, Bool.true_or, Bool.or_true, Bool.false_or, Bool.or_false, Bool.and_self, Bool.or_self, bI_t, bI_f, if_true, if_false, ite_true, ite_false, Bool.false_eq_true, Bool.true_eq_false, eq_self, reduceIte, true_or, or_true, false_or, or_false, and_true, true_and, and_false, false_and, not_true_eq_false, not_false_eq_true, decide_eq_true_eq, decide_eq_false_iff_not])) ?_
            exact ih_lp (b + 1) (by omega) (by omega)
          · replace h3 := q_m32.mp h3
            refine i_iload B 0 dX6_nextView_38 rfl ?_
            refine i_istore_n B [(3, .int (nI b)), (5, .int (nI b)), (4, .int (nvw (t 54) (t 55) S x b).2), (0, .ref (q 49)), (1, .int (nI x)), (2, .int (nI S))] dX6_nextView_40 (by decide) rfl ?_
            refine i_aload_n B 3 dX6_nextView_41 rfl ?_
            refine i_iload_n B 4 dX6_nextView_42 rfl ?_
            refine i_iload_n B 5 dX6_nextView_43 rfl ?_
            refine i_iload B 1 dX6_nextView_44 rfl ?_
            refine c_roV (rest := []) (As := [.int (nI x), .int (nI S), .int (nI b)]) B (k_X6_costBy l E q g a s t x S b (by omega) (by omega) (by omega)) cal_yX6_costBy iv_yX6_costBy mlX6_94 rfl 31 rfl (by decide) (by decide) rfl (Nat.le_of_ble_eq_true rfl) Has.rf _ rfl dX6_nextView_46 (fun r hr => ?_)
            subst hr
            refine i_val (v' := .int ((t 54) (x * 11 + b) + (t 55) (S * 10 + b))) rfl ?_
            refine i_istore B [(4, .int ((t 54) (x * 11 + b) + (t 55) (S * 10 + b))), (3, .int (nI b)), (5, .int (nI b)), (0, .ref (q 49)), (1, .int (nI x)), (2, .int (nI S))] dX6_nextView_49 (by decide) rfl ?_
            refine i_iinc (v := (nI (b + 1))) B 2 [(5, .int (nI (b + 1))), (4, .int ((t 54) (x * 11 + b) + (t 55) (S * 10 + b))), (3, .int (nI b)), (0, .ref (q 49)), (1, .int (nI x)), (2, .int (nI S))] dX6_nextView_51 rfl ((nI_1 _)) (by decide) rfl ?_
            refine i_goto B 9 dX6_nextView_54 (by decide) ?_
            refine i_Leq (congrArg (fun z_9 => ([(5, .int (nI (b + 1))), (4, .int z_9), (3, .int (nI b)), (0, .ref (q 49)), (1, .int (nI x)), (2, .int (nI S))] : List (Nat × Value))) (show (((t 54) (x * 11 + b) + (t 55) (S * 10 + b)) : Int32) = (nvw (t 54) (t 55) S x (b + 1)).2 from by rw [nvw]; simp only [h2, h3, decide_true, decide_false, Bool.not_true, Bool.not_false, Bool.true_and, Bool.false_and, Bool.and_true, Bool.and_false, Bool.true_or, Bool.or_true, Bool.false_or, Bool.or_false, Bool.and_self, Bool.or_self, bI_t, bI_f, if_true, if_false, ite_true, ite_false, Bool.false_eq_true, Bool.true_eq_false, eq_self, reduceIte, true_or, or_true, false_or, or_false, and_true, true_and, and_false, false_and, not_true_eq_false, not_false_eq_true, decide_eq_true_eq, decide_eq_false_iff_not])) ?_
            refine i_Leq (congrArg (fun z_9 => ([(5, .int (nI (b + 1))), (4, .int (nvw (t 54) (t 55) S x (b + 1)).2), (3, .int z_9), (0, .ref (q 49)), (1, .int (nI x)), (2, .int (nI S))] : List (Nat × Value))) (show ((nI b) : Int32) = (nI (nvw (t 54) (t 55) S x (b + 1)).1) from by rw [nvw]; simp only [h2, h3, decide_true, decide_false, Bool.not_true, Bool.not_false, Bool.true_and, Bool.false_and, Bool.and_true, Bool.and_false, Bool.true_or, Bool.or_true, Bool.false_or, Bool.or_false, Bool.and_self, Bool.or_self, bI_t, bI_f, if_true, if_false, ite_true, ite_false, Bool.false_eq_true, Bool.true_eq_false, eq_self, reduceIte, true_or, or_true, false_or, or_false, and_true, true_and, and_false, false_and, not_true_eq_false, not_false_eq_true, decide_eq_true_eq, decide_eq_false_iff_not])) ?_
            exact ih_lp (b + 1) (by omega) (by omega)
  refine i_iconst (v := 0) B dX6_nextView_0 (by decide) ?_
  refine i_istore_n B [(3, .int 0), (0, .ref (q 49)), (1, .int (nI x)), (2, .int (nI S))] dX6_nextView_1 (by decide) rfl ?_
  refine i_ldc B ckX6_71 dX6_nextView_2 ?_
  refine i_istore B [(4, .int 1000000), (3, .int 0), (0, .ref (q 49)), (1, .int (nI x)), (2, .int (nI S))] dX6_nextView_4 (by decide) rfl ?_
  refine i_iconst (v := 0) B dX6_nextView_6 (by decide) ?_
  refine i_istore B [(5, .int 0), (4, .int 1000000), (3, .int 0), (0, .ref (q 49)), (1, .int (nI x)), (2, .int (nI S))] dX6_nextView_7 (by decide) rfl ?_
  refine i_Leq (congrArg (fun z_9 => ([(5, .int z_9), (4, .int 1000000), (3, .int 0), (0, .ref (q 49)), (1, .int (nI x)), (2, .int (nI S))] : List (Nat × Value))) (show (0 : Int32) = (nI 0) from rfl)) ?_
  refine i_Leq (congrArg (fun z_9 => ([(5, .int (nI 0)), (4, .int z_9), (3, .int 0), (0, .ref (q 49)), (1, .int (nI x)), (2, .int (nI S))] : List (Nat × Value))) (show (1000000 : Int32) = (nvw (t 54) (t 55) S x 0).2 from rfl)) ?_
  refine i_Leq (congrArg (fun z_9 => ([(5, .int (nI 0)), (4, .int (nvw (t 54) (t 55) S x 0).2), (3, .int z_9), (0, .ref (q 49)), (1, .int (nI x)), (2, .int (nI S))] : List (Nat × Value))) (show (0 : Int32) = (nI (nvw (t 54) (t 55) S x 0).1) from rfl)) ?_
  exact lp (11) 0 (by omega) (Nat.zero_le _)
