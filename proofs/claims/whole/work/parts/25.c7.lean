theorem nx_or (a b : Nat) : nI a ||| nI b = nI (a ||| b) := by
  apply Int32.toBitVec_inj.1
  show BitVec.ofNat 32 a ||| BitVec.ofNat 32 b = BitVec.ofNat 32 (a ||| b)
  apply BitVec.eq_of_getLsbD_eq
  intro i hi
  simp [hi]
def ff : Nat := 4294967295
theorem ff_m1 : (-1 : Int32) = nI ff := by decide
theorem ff_bit (i : Nat) : ff.testBit i = decide (i < 32) := Nat.testBit_two_pow_sub_one 32 i
theorem bit_hi {P i : Nat} (hP : P < 2 ^ 31) (hi : 32 ≤ i) : P.testBit i = false := Nat.testBit_lt_two_pow (Nat.lt_of_lt_of_le hP (Nat.pow_le_pow_right (by omega) (by omega)))
theorem andn_bits {P S : Nat} (hP : P < 2 ^ 31) (i : Nat) : (P &&& (S ^^^ ff)).testBit i = (P.testBit i && !S.testBit i) := by
  rw [Nat.testBit_and, Nat.testBit_xor, ff_bit]
  by_cases h : i < 32
  · simp [h]
  · rw [bit_hi hP (by omega), Bool.false_and, Bool.false_and]
/-- P & ~S is nothing: P is a part of S -/
theorem andn_iff {P S : Nat} (hP : P < 2 ^ 31) (hS : S < 2 ^ 31) : (nI P &&& (nI S ^^^ -1) = 0) ↔ P &&& S = P := by
  rw [ff_m1, nx_xor, nx_and, show (0 : Int32) = nI 0 from rfl, nI_eq (Nat.lt_of_le_of_lt Nat.and_le_left hP) (by omega)]
  constructor
  · intro h
    apply Nat.eq_of_testBit_eq
    intro i
    have e := andn_bits (S := S) hP i
    rw [h, Nat.zero_testBit] at e
    rw [Nat.testBit_and]
    cases h1 : P.testBit i <;> cases h2 : S.testBit i <;> simp_all
  · intro h
    apply Nat.eq_of_testBit_eq
    intro i
    rw [andn_bits hP, Nat.zero_testBit]
    have e : (P &&& S).testBit i = P.testBit i := by rw [h]
    rw [Nat.testBit_and] at e
    cases h1 : P.testBit i <;> cases h2 : S.testBit i <;> simp_all
theorem clr_bit {P v : Nat} (hP : P < 1024) (hv : v < 10) (hb : P.testBit v = true) : nI P &&& (1 <<< (nI v &&& 31) ^^^ -1) = nI (P ^^^ 2 ^ v) := by
  rw [shl1 v (by omega), ff_m1, nx_xor, nx_and]
  apply congrArg
  apply Nat.eq_of_testBit_eq
  intro i
  rw [andn_bits (by omega), Nat.testBit_xor, Nat.testBit_two_pow]
  by_cases e : v = i
  · subst e; rw [hb]; simp
  · simp [e]
def lgk (g : Nat → Int32) (a : Nat → Nat → Int32) (nc : Nat) (ax ay bx by_ : Int32) : Int32 := if gsh a ax ay bx by_ nc = true then 1000000 else cst g (bx - ax) (by_ - ay)
/-- both say the same of a LEG -/
def LegEq (g : Nat → Int32) (a : Nat → Nat → Int32) (nc : Nat) : Prop := ∀ ax ay bx by_ : Int32, pt ax ay = true → pt bx by_ = true → lgk g a nc ax ay bx by_ = legF g a nc ax ay bx by_
theorem gsh_cg {a b : Nat → Nat → Int32} (h2 : b 12 = a 12) (h3 : b 13 = a 13) (h4 : b 14 = a 14) (h5 : b 15 = a 15) (x1 y1 x2 y2 : Int32) (n : Nat) : gsh b x1 y1 x2 y2 n = gsh a x1 y1 x2 y2 n := by
  induction n with
  | zero => rfl
  | succ n ih => rw [gsh, gsh, ih, gin, gin, h2, h3, h4, h5]
theorem bst_top {lg : Nat → Nat → Int32} {hov : Int32} {T : Nat → Nat → Int32} {S x nv n : Nat} (hS : S < 2 ^ nv) (hn : nv ≤ n) : bst lg hov T S x n = bst lg hov T S x nv := by
  induction n with
  | zero => rw [show nv = 0 by omega]
  | succ n ih =>
    by_cases e : nv = n + 1
    · rw [e]
    · rw [bst, ih (by omega), if_neg]
      rw [Nat.testBit_lt_two_pow (Nat.lt_of_lt_of_le hS (Nat.pow_le_pow_right (by omega) (by omega)))]
      decide
/-- the class's least way is the reference's, over true rows -/
theorem cfm_eq {lg : Nat → Nat → Int32} {hov : Int32} {nv T x : Nat} {lc tl : Nat → Int32} (hT : T < 2 ^ nv) (hnv : nv ≤ 10) (h0 : T = 0 → lc (x * 11 + 10) = lg x 10) (h : ∀ b, b < 10 → T.testBit b = true → lc (x * 11 + b) = lg x b ∧ tl (T * 10 + b) = hov + Rr lg hov nv (T ^^^ 2 ^ b) b) : cfm lc tl T x = Rr lg hov nv T x := by
  rw [cfm, Rr_eq, ← bst_top (n := 10) hT hnv]
  by_cases e : T = 0
  · subst e
    rw [if_pos (by decide), h0 rfl]
    have aux : ∀ n, bst lg hov (Rr lg hov nv) 0 x n = lg x 10 := by
      intro n
      induction n with
      | zero => rfl
      | succ n ih => rw [bst, Nat.zero_testBit, if_neg (by decide), ih]
    rw [aux]
  · rw [if_neg (by simp [e])]
    have aux : ∀ n, n ≤ 10 → cfr lc tl T x n = bst lg hov (Rr lg hov nv) T x n := by
      intro n
      induction n with
      | zero => intro _; rw [cfr, bst, if_neg (by simp [e])]
      | succ n ih =>
        intro hn
        rw [cfr, bst, ih (by omega)]
        by_cases b : T.testBit n = true
        · rw [if_pos b, if_pos b, mn, (h n (by omega) b).1, (h n (by omega) b).2, Int32.add_assoc]
        · rw [if_neg b, if_neg b]
    exact aux 10 (by omega)

set_option maxHeartbeats 4000000 in
set_option maxRecDepth 100000 in
theorem k_X6_init (l : Launch) (E : ED) (h v1 v2 v3 : Nat) : WV l E yX6_init cX6_init 4 1 20 4 12409 [.ref h, .ref v1, .ref v2, .ref v3] [(h, .inr (6, [.null, .null, .null, .null, .null, .null, .null, .int 0, .int 0]))] (fun _ : Nat → Nat => True) (fun u => [(h, .inr (6, [.ref v1, .ref v2, .ref v3, .ref (u 54), .ref (u 55), .ref (u 56), .ref (u 57), .int 0, .int 0])), (u 54, .inl (E.2.1, 121, .inl (fun _ => 0))), (u 55, .inl (E.2.1, 10240, .inl (fun _ => 0))), (u 56, .inl (E.2.1, 1024, .inl (fun _ => 0))), (u 57, .inl (E.2.1, 1024, .inl (fun _ => 0)))]) := by
  refine WV.mk (by decide) (Nat.le_of_ble_eq_true rfl) [(0, .ref h), (1, .ref v1), (2, .ref v2), (3, .ref v3)] rfl (fun Z B hI ret => ?_)
  have hI := hI rfl
  refine i_aload_n B 0 dX6_init_0 rfl ?_
  refine i_objInit B mlX6_5 ii_objectInit cd_objectInit dX6_init_1 (by decide) (Nat.le_of_ble_eq_true rfl) ?_
  refine i_aload_n B 0 dX6_init_4 rfl ?_
  refine i_bipush (v := 121) B dX6_init_5 (by decide) ?_
  refine i_newI B 121 wd_arrayClass_int rfl (by decide) (by decide) (by decide) dX6_init_7 (fun n7 => ?_)
  refine i_world (ws' := [(h, .inr (6, [.null, .null, .null, .null, .null, .null, .null, .int 0, .int 0])), (n7, .inl (E.2.1, 121, .inl (fun _ => 0)))]) rfl ?_
  refine i_putF B hI flX6_11 0 [(h, .inr (6, [.null, .null, .null, .ref n7, .null, .null, .null, .int 0, .int 0])), (n7, .inl (E.2.1, 121, .inl (fun _ => 0)))] rfl rfl rfl rfl rfl (Nat.le_of_ble_eq_true rfl) rfl dX6_init_9 ?_
  refine i_aload_n B 0 dX6_init_12 rfl ?_
  refine i_sipush (v := 10240) B dX6_init_13 (by decide) ?_
  refine i_newI B 10240 wd_arrayClass_int rfl (by decide) (by decide) (by decide) dX6_init_16 (fun n16 => ?_)
  refine i_world (ws' := [(h, .inr (6, [.null, .null, .null, .ref n7, .null, .null, .null, .int 0, .int 0])), (n7, .inl (E.2.1, 121, .inl (fun _ => 0))), (n16, .inl (E.2.1, 10240, .inl (fun _ => 0)))]) rfl ?_
  refine i_putF B hI flX6_15 0 [(h, .inr (6, [.null, .null, .null, .ref n7, .ref n16, .null, .null, .int 0, .int 0])), (n7, .inl (E.2.1, 121, .inl (fun _ => 0))), (n16, .inl (E.2.1, 10240, .inl (fun _ => 0)))] rfl rfl rfl rfl rfl (Nat.le_of_ble_eq_true rfl) rfl dX6_init_18 ?_
  refine i_aload_n B 0 dX6_init_21 rfl ?_
  refine i_sipush (v := 1024) B dX6_init_22 (by decide) ?_
  refine i_newI B 1024 wd_arrayClass_int rfl (by decide) (by decide) (by decide) dX6_init_25 (fun n25 => ?_)
  refine i_world (ws' := [(h, .inr (6, [.null, .null, .null, .ref n7, .ref n16, .null, .null, .int 0, .int 0])), (n7, .inl (E.2.1, 121, .inl (fun _ => 0))), (n16, .inl (E.2.1, 10240, .inl (fun _ => 0))), (n25, .inl (E.2.1, 1024, .inl (fun _ => 0)))]) rfl ?_
  refine i_putF B hI flX6_18 0 [(h, .inr (6, [.null, .null, .null, .ref n7, .ref n16, .ref n25, .null, .int 0, .int 0])), (n7, .inl (E.2.1, 121, .inl (fun _ => 0))), (n16, .inl (E.2.1, 10240, .inl (fun _ => 0))), (n25, .inl (E.2.1, 1024, .inl (fun _ => 0)))] rfl rfl rfl rfl rfl (Nat.le_of_ble_eq_true rfl) rfl dX6_init_27 ?_
  refine i_aload_n B 0 dX6_init_30 rfl ?_
  refine i_sipush (v := 1024) B dX6_init_31 (by decide) ?_
  refine i_newI B 1024 wd_arrayClass_int rfl (by decide) (by decide) (by decide) dX6_init_34 (fun n34 => ?_)
  refine i_world (ws' := [(h, .inr (6, [.null, .null, .null, .ref n7, .ref n16, .ref n25, .null, .int 0, .int 0])), (n7, .inl (E.2.1, 121, .inl (fun _ => 0))), (n16, .inl (E.2.1, 10240, .inl (fun _ => 0))), (n25, .inl (E.2.1, 1024, .inl (fun _ => 0))), (n34, .inl (E.2.1, 1024, .inl (fun _ => 0)))]) rfl ?_
  refine i_putF B hI flX6_21 0 [(h, .inr (6, [.null, .null, .null, .ref n7, .ref n16, .ref n25, .ref n34, .int 0, .int 0])), (n7, .inl (E.2.1, 121, .inl (fun _ => 0))), (n16, .inl (E.2.1, 10240, .inl (fun _ => 0))), (n25, .inl (E.2.1, 1024, .inl (fun _ => 0))), (n34, .inl (E.2.1, 1024, .inl (fun _ => 0)))] rfl rfl rfl rfl rfl (Nat.le_of_ble_eq_true rfl) rfl dX6_init_36 ?_
  refine i_aload_n B 0 dX6_init_39 rfl ?_
  refine i_aload_n B 1 dX6_init_40 rfl ?_
  refine i_putF B hI flX6_24 0 [(h, .inr (6, [.ref v1, .null, .null, .ref n7, .ref n16, .ref n25, .ref n34, .int 0, .int 0])), (n7, .inl (E.2.1, 121, .inl (fun _ => 0))), (n16, .inl (E.2.1, 10240, .inl (fun _ => 0))), (n25, .inl (E.2.1, 1024, .inl (fun _ => 0))), (n34, .inl (E.2.1, 1024, .inl (fun _ => 0)))] rfl rfl rfl rfl rfl (Nat.le_of_ble_eq_true rfl) rfl dX6_init_41 ?_
  refine i_aload_n B 0 dX6_init_44 rfl ?_
  refine i_aload_n B 2 dX6_init_45 rfl ?_
  refine i_putF B hI flX6_28 0 [(h, .inr (6, [.ref v1, .ref v2, .null, .ref n7, .ref n16, .ref n25, .ref n34, .int 0, .int 0])), (n7, .inl (E.2.1, 121, .inl (fun _ => 0))), (n16, .inl (E.2.1, 10240, .inl (fun _ => 0))), (n25, .inl (E.2.1, 1024, .inl (fun _ => 0))), (n34, .inl (E.2.1, 1024, .inl (fun _ => 0)))] rfl rfl rfl rfl rfl (Nat.le_of_ble_eq_true rfl) rfl dX6_init_46 ?_
  refine i_aload_n B 0 dX6_init_49 rfl ?_
  refine i_aload_n B 3 dX6_init_50 rfl ?_
  refine i_putF B hI flX6_32 0 [(h, .inr (6, [.ref v1, .ref v2, .ref v3, .ref n7, .ref n16, .ref n25, .ref n34, .int 0, .int 0])), (n7, .inl (E.2.1, 121, .inl (fun _ => 0))), (n16, .inl (E.2.1, 10240, .inl (fun _ => 0))), (n25, .inl (E.2.1, 1024, .inl (fun _ => 0))), (n34, .inl (E.2.1, 1024, .inl (fun _ => 0)))] rfl rfl rfl rfl rfl (Nat.le_of_ble_eq_true rfl) rfl dX6_init_51 ?_
  exact ret _ _ (va_up (va_up (va_up (va_up (fun _ => 0) 54 n7) 55 n16) 56 n25) 57 n34) dX6_init_54 (trivial)

set_option maxHeartbeats 4000000 in
set_option maxRecDepth 100000 in
theorem k_X6_forget (l : Launch) (E : ED) (q : Nat → Nat) (s : Nat → Int32) (t : Nat → Nat → Int32) : WV l E yX6_forget cX6_forget 1 0 0 0 0 [.ref (q 49)] (sR E q s t) (fun _ : Unit => True) (fun _ => sR E q (upd (upd s 63 0) 64 0) t) := by
  refine WV.mk (by decide) (Nat.le_of_ble_eq_true rfl) [(0, .ref (q 49))] rfl (fun Z B hI ret => ?_)
  refine i_aload_n B 0 dX6_forget_0 rfl ?_
  refine i_iconst (v := 0) B dX6_forget_1 (by decide) ?_
  refine i_put B flX6_36 0 (sR E q (upd s 63 0) t) rfl rfl rfl rfl (Nat.le_of_ble_eq_true rfl) rfl dX6_forget_2 ?_
  refine i_aload_n B 0 dX6_forget_5 rfl ?_
  refine i_iconst (v := 0) B dX6_forget_6 (by decide) ?_
  refine i_put B flX6_40 0 (sR E q (upd (upd s 63 0) 64 0) t) rfl rfl rfl rfl (Nat.le_of_ble_eq_true rfl) rfl dX6_forget_7 ?_
  exact ret _ _ () dX6_forget_10 (trivial)

set_option maxHeartbeats 4000000 in
set_option maxRecDepth 100000 in
theorem k_X6_measureLegs (l : Launch) (E : ED) (q : Nat → Nat) (g : Nat → Int32) (a : Nat → Nat → Int32) (s : Nat → Int32) (t : Nat → Nat → Int32) (nc : Nat) (hc : g 11 = nI nc) (hnc : nc ≤ 4) (nv : Nat) (hv : g 8 = nI nv) (hnv : nv ≤ 10) (hb : g 90 = a 9 10 ∧ g 91 = a 10 10) (hle : LegEq g a nc) (hpt : ∀ v, thr nv v = true → pt (a 9 v) (a 10 v) = true) (T : Nat) (hT : T < 2048) (hST : ∀ x, x < 11 → T.testBit x = true → thr nv x = true) : WV l E yX6_measureLegs cX6_measureLegs 7 3 79 0 0 [.ref (q 49), .int (nI T)] (cW E q g a s t (.ref (q 49)) (sR E q s t)) (fun u : Nat → Int32 => ∀ x y : Nat, x < 11 → y < 11 → x ≠ y → T.testBit x = true → T.testBit y = true → u (x * 11 + y) = lgm g a nc nv x y) (fun u => (cW E q g a s (va_up t 54 u) (.ref (q 49)) (sR E q s (va_up t 54 u)))) := by
  refine WV.mk (by decide) (Nat.le_of_ble_eq_true rfl) [(0, .ref (q 49)), (1, .int (nI T))] rfl (fun Z B hI ret => ?_)
  have la : ∀ (n_la : Nat) (i : Nat) (f1 : Nat → Int32), (11 - i < n_la) → (i ≤ 11) → (∀ x y : Nat, y < 11 → x * 11 + y < i * 11 + 0 → x ≠ y → T.testBit x = true → T.testBit y = true → f1 (x * 11 + y) = lgm g a nc nv x y) → J Z 0 0 (cW E q g a s (va_up t 54 f1) (.ref (q 49)) (sR E q s (va_up t 54 f1))) 2 [(2, .int (nI i)), (0, .ref (q 49)), (1, .int (nI T))] [] := by
    intro n_la
    induction n_la with
    | zero => intro i f1 hf_la hi hf1; omega
    | succ n_la ih_la =>
      intro i f1 hf_la hi hf1
      refine i_iload_n B 0 dX6_measureLegs_2 rfl ?_
      refine i_bipush (v := 11) B dX6_measureLegs_3 (by decide) ?_
      refine i_icmp_ge B 130 dX6_measureLegs_5 (by decide) (fun h1 => ?_) (fun h1 => ?_)
      · replace h1 := q_n32.mpr h1
        rw [show (11 : Int32) = nI 11 from rfl, nI_ltI (by omega) (by omega)] at h1
        exact ret _ _ f1 dX6_measureLegs_130 (fun x y hx hy hne h1 h2 => hf1 x y hy (by omega) hne h1 h2)
      · replace h1 := q_m32.mp h1
        rw [show (11 : Int32) = nI 11 from rfl, nI_ltI (by omega) (by omega)] at h1
        refine i_iconst (v := 0) B dX6_measureLegs_8 (by decide) ?_
        refine i_istore_n B [(3, .int 0), (2, .int (nI i)), (0, .ref (q 49)), (1, .int (nI T))] dX6_measureLegs_9 (by decide) rfl ?_
        have lb : ∀ (n_lb : Nat) (j : Nat) (f2 : Nat → Int32), (11 - j < n_lb) → (j ≤ 11) → (∀ x y : Nat, y < 11 → x * 11 + y < i * 11 + j → x ≠ y → T.testBit x = true → T.testBit y = true → f2 (x * 11 + y) = lgm g a nc nv x y) → J Z 0 0 (cW E q g a s (va_up t 54 f2) (.ref (q 49)) (sR E q s (va_up t 54 f2))) 10 [(3, .int (nI j)), (2, .int (nI i)), (0, .ref (q 49)), (1, .int (nI T))] [] := by
          intro n_lb
          induction n_lb with
          | zero => intro j f2 hf_lb hj hf2; omega
          | succ n_lb ih_lb =>
            intro j f2 hf_lb hj hf2
            refine i_iload_n B 0 dX6_measureLegs_10 rfl ?_
            refine i_bipush (v := 11) B dX6_measureLegs_11 (by decide) ?_
            refine i_icmp_ge B 124 dX6_measureLegs_13 (by decide) (fun h2 => ?_) (fun h2 => ?_)
            · replace h2 := q_n32.mpr h2
              rw [show (11 : Int32) = nI 11 from rfl, nI_ltI (by omega) (by omega)] at h2
              refine i_iinc (v := (nI (i + 1))) B 1 [(2, .int (nI (i + 1))), (3, .int (nI j)), (0, .ref (q 49)), (1, .int (nI T))] dX6_measureLegs_124 rfl ((nI_1 _)) (by decide) rfl ?_
              refine i_goto B 2 dX6_measureLegs_127 (by decide) ?_
              refine i_locals [0, 2, 3] (L' := [(2, .int (nI (i + 1))), (0, .ref (q 49)), (1, .int (nI T))]) rfl ?_
              exact ih_la (i + 1) f2 (by omega) (by omega) (fun x y hy hl => hf2 x y hy (by omega))
            · replace h2 := q_m32.mp h2
              rw [show (11 : Int32) = nI 11 from rfl, nI_ltI (by omega) (by omega)] at h2
              refine i_iload_n B 1 dX6_measureLegs_16 rfl ?_
              refine i_iload_n B 0 dX6_measureLegs_17 rfl ?_
              refine i_icmp_eq B 118 dX6_measureLegs_18 (by decide) (fun h3 => ?_) (fun h3 => ?_)
              · rw [nI_eq (by omega) (by omega)] at h3
                have h3d := decide_eq_true h3
                refine i_iinc (v := (nI (j + 1))) B 0 [(3, .int (nI (j + 1))), (2, .int (nI i)), (0, .ref (q 49)), (1, .int (nI T))] dX6_measureLegs_118 rfl ((nI_1 _)) (by decide) rfl ?_
                refine i_goto B 10 dX6_measureLegs_121 (by decide) ?_
                exact ih_lb (j + 1) f2 (by omega) (by omega) (fun x y hy hlt hne hx1 hy1 => by (by_cases e : x * 11 + y = i * 11 + j; (exact absurd (show x = y by omega) hne); (exact hf2 x y hy (by omega) hne hx1 hy1)))
              · rw [nI_eq (by omega) (by omega)] at h3
                have h3d := decide_eq_false h3
                refine i_iload_n B 3 dX6_measureLegs_21 rfl ?_
                refine i_iload_n B 1 dX6_measureLegs_22 rfl ?_
                refine c_roSN (rest := []) (As := [.int (nI T), .int (nI i)]) B (k_X8_has l E (nI T) (nI i)) cal_yX8_has is_yX8_has (fun U h => h.2.2.2.2.2.2.2.2) (by decide) (by decide) rfl (Nat.le_of_ble_eq_true rfl) Has.nil _ rfl dX6_measureLegs_23 (fun r hr => ?_)
                subst hr
                refine i_val (v' := .int (bI (hsb (nI T) (nI i)))) rfl ?_
                refine i_val (v' := .int (bI (T.testBit i))) (congrArg Value.int (by rw [hsb_bit (by omega) (by omega)])) ?_
                refine i_if_eq B 118 dX6_measureLegs_26 (by decide) (fun h4 => ?_) (fun h4 => ?_)
                · replace h4 := bI_0.mp h4
                  refine i_iinc (v := (nI (j + 1))) B 0 [(3, .int (nI (j + 1))), (2, .int (nI i)), (0, .ref (q 49)), (1, .int (nI T))] dX6_measureLegs_118 rfl ((nI_1 _)) (by decide) rfl ?_
                  refine i_goto B 10 dX6_measureLegs_121 (by decide) ?_
                  exact ih_lb (j + 1) f2 (by omega) (by omega) (fun x y hy hlt hne hx1 hy1 => by (by_cases e : x * 11 + y = i * 11 + j; (have e1 : x = i := (by omega); have e2 : y = j := (by omega); subst e1; subst e2; first | (rw [h4] at hx1; cases hx1) | (rw [h4] at hy1; cases hy1)); (exact hf2 x y hy (by omega) hne hx1 hy1)))
                · replace h4 := bI_n.mp h4
                  refine i_iload_n B 3 dX6_measureLegs_29 rfl ?_
                  refine i_iload_n B 0 dX6_measureLegs_30 rfl ?_
                  refine c_roSN (rest := []) (As := [.int (nI T), .int (nI j)]) B (k_X8_has l E (nI T) (nI j)) cal_yX8_has is_yX8_has (fun U h => h.2.2.2.2.2.2.2.2) (by decide) (by decide) rfl (Nat.le_of_ble_eq_true rfl) Has.nil _ rfl dX6_measureLegs_31 (fun r hr => ?_)
                  subst hr
                  refine i_val (v' := .int (bI (hsb (nI T) (nI j)))) rfl ?_
                  refine i_val (v' := .int (bI (T.testBit j))) (congrArg Value.int (by rw [hsb_bit (by omega) (by omega)])) ?_
                  refine i_if_eq B 118 dX6_measureLegs_34 (by decide) (fun h5 => ?_) (fun h5 => ?_)
                  · replace h5 := bI_0.mp h5
                    refine i_iinc (v := (nI (j + 1))) B 0 [(3, .int (nI (j + 1))), (2, .int (nI i)), (0, .ref (q 49)), (1, .int (nI T))] dX6_measureLegs_118 rfl ((nI_1 _)) (by decide) rfl ?_
                    refine i_goto B 10 dX6_measureLegs_121 (by decide) ?_
                    exact ih_lb (j + 1) f2 (by omega) (by omega) (fun x y hy hlt hne hx1 hy1 => by (by_cases e : x * 11 + y = i * 11 + j; (have e1 : x = i := (by omega); have e2 : y = j := (by omega); subst e1; subst e2; first | (rw [h5] at hx1; cases hx1) | (rw [h5] at hy1; cases hy1)); (exact hf2 x y hy (by omega) hne hx1 hy1)))
                  · replace h5 := bI_n.mp h5
                    refine i_aload_n B 2 dX6_measureLegs_37 rfl ?_
                    refine i_iload_n B 1 dX6_measureLegs_38 rfl ?_
                    refine c_roV (rest := []) (As := [.int (nI i)]) B (k_X6_xOf l E q g a s (va_up t 54 f2) hb i (by omega)) cal_yX6_xOf iv_yX6_xOf mlX6_58 rfl 31 rfl (by decide) (by decide) rfl (Nat.le_of_ble_eq_true rfl) Has.rf _ rfl dX6_measureLegs_39 (fun r hr => ?_)
                    subst hr
                    refine i_val (v' := .int ((a 9) i)) rfl ?_
                    refine i_istore B [(4, .int ((a 9) i)), (3, .int (nI j)), (2, .int (nI i)), (0, .ref (q 49)), (1, .int (nI T))] dX6_measureLegs_42 (by decide) rfl ?_
                    refine i_aload_n B 3 dX6_measureLegs_44 rfl ?_
                    refine i_iload_n B 2 dX6_measureLegs_45 rfl ?_
                    refine c_roV (rest := []) (As := [.int (nI i)]) B (k_X6_yOf l E q g a s (va_up t 54 f2) hb i (by omega)) cal_yX6_yOf iv_yX6_yOf mlX6_62 rfl 31 rfl (by decide) (by decide) rfl (Nat.le_of_ble_eq_true rfl) Has.rf _ rfl dX6_measureLegs_46 (fun r hr => ?_)
                    subst hr
                    refine i_val (v' := .int ((a 10) i)) rfl ?_
                    refine i_istore B [(5, .int ((a 10) i)), (4, .int ((a 9) i)), (3, .int (nI j)), (2, .int (nI i)), (0, .ref (q 49)), (1, .int (nI T))] dX6_measureLegs_49 (by decide) rfl ?_
                    refine i_aload_n B 4 dX6_measureLegs_51 rfl ?_
                    refine i_get (v := .ref (q 44)) B flX6_28 31 rfl rfl dX6_measureLegs_52 ?_
                    refine i_iload B 1 dX6_measureLegs_55 rfl ?_
                    refine i_iload B 0 dX6_measureLegs_57 rfl ?_
                    refine i_aload_n B 4 dX6_measureLegs_59 rfl ?_
                    refine i_iload_n B 2 dX6_measureLegs_60 rfl ?_
                    refine c_roV (rest := [.int ((a 10) i), .int ((a 9) i), .ref (q 44)]) (As := [.int (nI j)]) B (k_X6_xOf l E q g a s (va_up t 54 f2) hb j (by omega)) cal_yX6_xOf iv_yX6_xOf mlX6_58 rfl 31 rfl (by decide) (by decide) rfl (Nat.le_of_ble_eq_true rfl) Has.rf _ rfl dX6_measureLegs_61 (fun r hr => ?_)
                    subst hr
                    refine i_val (v' := .int ((a 9) j)) rfl ?_
                    refine i_aload_n B 4 dX6_measureLegs_64 rfl ?_
                    refine i_iload_n B 2 dX6_measureLegs_65 rfl ?_
                    refine c_roV (rest := [.int ((a 9) j), .int ((a 10) i), .int ((a 9) i), .ref (q 44)]) (As := [.int (nI j)]) B (k_X6_yOf l E q g a s (va_up t 54 f2) hb j (by omega)) cal_yX6_yOf iv_yX6_yOf mlX6_62 rfl 31 rfl (by decide) (by decide) rfl (Nat.le_of_ble_eq_true rfl) Has.rf _ rfl dX6_measureLegs_66 (fun r hr => ?_)
                    subst hr
                    refine i_val (v' := .int ((a 10) j)) rfl ?_
                    refine c_roV (rest := []) (As := [.int ((a 9) i), .int ((a 10) i), .int ((a 9) j), .int ((a 10) j)]) B (k_X0_isShut l E q g a nc hc hnc ((a 9) i) ((a 10) i) ((a 9) j) ((a 10) j)) cal_yX0_isShut iv_yX0_isShut mlX6_65 rfl 11 rfl (by decide) (by decide) rfl (Nat.le_of_ble_eq_true rfl) (Has.of [11, 12, 13, 14, 15] rfl rfl) _ rfl dX6_measureLegs_69 (fun r hr => ?_)
                    subst hr
                    refine i_val (v' := .int (bI (gsh a ((a 9) i) ((a 10) i) ((a 9) j) ((a 10) j) nc))) rfl ?_
                    refine i_istore B [(6, .int (bI (gsh a ((a 9) i) ((a 10) i) ((a 9) j) ((a 10) j) nc))), (5, .int ((a 10) i)), (4, .int ((a 9) i)), (3, .int (nI j)), (2, .int (nI i)), (0, .ref (q 49)), (1, .int (nI T))] dX6_measureLegs_72 (by decide) rfl ?_
                    refine i_aload_n B 5 dX6_measureLegs_74 rfl ?_
                    refine i_get (v := .ref (q 54)) B flX6_11 31 rfl rfl dX6_measureLegs_75 ?_
                    refine i_iload_n B 4 dX6_measureLegs_78 rfl ?_
                    refine i_bipush (v := 11) B dX6_measureLegs_79 (by decide) ?_
                    refine i_imul B dX6_measureLegs_81 ?_
                    refine i_iload_n B 3 dX6_measureLegs_82 rfl ?_
                    refine i_iadd B dX6_measureLegs_83 ?_
                    refine i_iload B 0 dX6_measureLegs_84 rfl ?_
                    refine i_if_eq B 94 dX6_measureLegs_86 (by decide) (fun h6 => ?_) (fun h6 => ?_)
                    · replace h6 := bI_0.mp h6
                      refine i_aload_n B 5 dX6_measureLegs_94 rfl ?_
                      refine i_get (v := .ref (q 44)) B flX6_28 31 rfl rfl dX6_measureLegs_95 ?_
                      refine i_aload_n B 5 dX6_measureLegs_98 rfl ?_
                      refine i_iload_n B 3 dX6_measureLegs_99 rfl ?_
                      refine c_roV (rest := [.ref (q 44), .int (((nI i) * 11) + (nI j)), .ref (q 54)]) (As := [.int (nI j)]) B (k_X6_xOf l E q g a s (va_up t 54 f2) hb j (by omega)) cal_yX6_xOf iv_yX6_xOf mlX6_58 rfl 31 rfl (by decide) (by decide) rfl (Nat.le_of_ble_eq_true rfl) Has.rf _ rfl dX6_measureLegs_100 (fun r hr => ?_)
                      subst hr
                      refine i_val (v' := .int ((a 9) j)) rfl ?_
                      refine i_iload B 2 dX6_measureLegs_103 rfl ?_
                      refine i_isub B dX6_measureLegs_105 ?_
                      refine i_aload_n B 5 dX6_measureLegs_106 rfl ?_
                      refine i_iload_n B 3 dX6_measureLegs_107 rfl ?_
                      refine c_roV (rest := [.int (((a 9) j) - ((a 9) i)), .ref (q 44), .int (((nI i) * 11) + (nI j)), .ref (q 54)]) (As := [.int (nI j)]) B (k_X6_yOf l E q g a s (va_up t 54 f2) hb j (by omega)) cal_yX6_yOf iv_yX6_yOf mlX6_62 rfl 31 rfl (by decide) (by decide) rfl (Nat.le_of_ble_eq_true rfl) Has.rf _ rfl dX6_measureLegs_108 (fun r hr => ?_)
                      subst hr
                      refine i_val (v' := .int ((a 10) j)) rfl ?_
                      refine i_iload B 1 dX6_measureLegs_111 rfl ?_
                      refine i_isub B dX6_measureLegs_113 ?_
                      refine c_roV (rest := [.int (((nI i) * 11) + (nI j)), .ref (q 54)]) (As := [.int (((a 9) j) - ((a 9) i)), .int (((a 10) j) - ((a 10) i))]) B (k_X0_cost l E q g a (((a 9) j) - ((a 9) i)) (((a 10) j) - ((a 10) i))) cal_yX0_cost iv_yX0_cost mlX6_72 rfl 11 rfl (by decide) (by decide) rfl (Nat.le_of_ble_eq_true rfl) (Has.of [11, 12, 13, 14, 15] rfl rfl) _ rfl dX6_measureLegs_114 (fun r hr => ?_)
                      subst hr
                      refine i_val (v' := .int (cst g (((a 9) j) - ((a 9) i)) (((a 10) j) - ((a 10) i)))) rfl ?_
                      refine j_nameI (fun w1 ew1 => ?_)
                      refine i_iastN (f := f2) B 32 (i * 11 + j) (cW E q g a s (va_up t 54 (upd f2 (i * 11 + j) w1)) (.ref (q 49)) (sR E q s (va_up t 54 (upd f2 (i * 11 + j) w1)))) rfl (by rw [show (11 : Int32) = nI 11 from rfl, pk_mul, nI_add]) (by omega) (by decide) rfl dX6_measureLegs_117 ?_
                      refine i_iinc (v := (nI (j + 1))) B 3 [(3, .int (nI (j + 1))), (6, .int (bI (gsh a ((a 9) i) ((a 10) i) ((a 9) j) ((a 10) j) nc))), (5, .int ((a 10) i)), (4, .int ((a 9) i)), (2, .int (nI i)), (0, .ref (q 49)), (1, .int (nI T))] dX6_measureLegs_118 rfl ((nI_1 _)) (by decide) rfl ?_
                      refine i_goto B 10 dX6_measureLegs_121 (by decide) ?_
                      refine i_locals [0, 4, 5, 6] (L' := [(3, .int (nI (j + 1))), (2, .int (nI i)), (0, .ref (q 49)), (1, .int (nI T))]) rfl ?_
                      exact ih_lb (j + 1) (upd f2 (i * 11 + j) w1) (by omega) (by omega) (fun x y hy hlt hne hx1 hy1 => by (by_cases e : x * 11 + y = i * 11 + j; (have e1 : x = i := (by omega); have e2 : y = j := (by omega); subst e1; subst e2; rw [pk_us, ew1, lgm, (hST x (by omega) hx1), (hST y (by omega) hy1), Bool.and_self, if_pos rfl, ← hle _ _ _ _ (hpt x (hST x (by omega) hx1)) (hpt y (hST y (by omega) hy1)), lgk, h6]; rfl); (rw [pk_un e]; exact hf2 x y hy (by omega) hne hx1 hy1)))
                    · replace h6 := bI_n.mp h6
                      refine i_ldc B ckX6_71 dX6_measureLegs_89 ?_
                      refine i_goto B 117 dX6_measureLegs_91 (by decide) ?_
                      refine j_nameI (fun w1 ew1 => ?_)
                      refine i_iastN (f := f2) B 32 (i * 11 + j) (cW E q g a s (va_up t 54 (upd f2 (i * 11 + j) w1)) (.ref (q 49)) (sR E q s (va_up t 54 (upd f2 (i * 11 + j) w1)))) rfl (by rw [show (11 : Int32) = nI 11 from rfl, pk_mul, nI_add]) (by omega) (by decide) rfl dX6_measureLegs_117 ?_
                      refine i_iinc (v := (nI (j + 1))) B 3 [(3, .int (nI (j + 1))), (6, .int (bI (gsh a ((a 9) i) ((a 10) i) ((a 9) j) ((a 10) j) nc))), (5, .int ((a 10) i)), (4, .int ((a 9) i)), (2, .int (nI i)), (0, .ref (q 49)), (1, .int (nI T))] dX6_measureLegs_118 rfl ((nI_1 _)) (by decide) rfl ?_
                      refine i_goto B 10 dX6_measureLegs_121 (by decide) ?_
                      refine i_locals [0, 4, 5, 6] (L' := [(3, .int (nI (j + 1))), (2, .int (nI i)), (0, .ref (q 49)), (1, .int (nI T))]) rfl ?_
                      exact ih_lb (j + 1) (upd f2 (i * 11 + j) w1) (by omega) (by omega) (fun x y hy hlt hne hx1 hy1 => by (by_cases e : x * 11 + y = i * 11 + j; (have e1 : x = i := (by omega); have e2 : y = j := (by omega); subst e1; subst e2; rw [pk_us, ew1, lgm, (hST x (by omega) hx1), (hST y (by omega) hy1), Bool.and_self, if_pos rfl, ← hle _ _ _ _ (hpt x (hST x (by omega) hx1)) (hpt y (hST y (by omega) hy1)), lgk, h6]; rfl); (rw [pk_un e]; exact hf2 x y hy (by omega) hne hx1 hy1)))
        refine i_Leq (congrArg (fun z_9 => ([(3, .int z_9), (2, .int (nI i)), (0, .ref (q 49)), (1, .int (nI T))] : List (Nat × Value))) (show (0 : Int32) = (nI 0) from rfl)) ?_
        exact lb (12) 0 f1 (by omega) (Nat.zero_le _) (fun x y hy hl => hf1 x y hy (by omega))
  refine i_iconst (v := 0) B dX6_measureLegs_0 (by decide) ?_
  refine i_istore_n B [(2, .int 0), (0, .ref (q 49)), (1, .int (nI T))] dX6_measureLegs_1 (by decide) rfl ?_
  refine i_Leq (congrArg (fun z_9 => ([(2, .int z_9), (0, .ref (q 49)), (1, .int (nI T))] : List (Nat × Value))) (show (0 : Int32) = (nI 0) from rfl)) ?_
  refine i_world (ws' := (cW E q g a s (va_up t 54 (t 54)) (.ref (q 49)) (sR E q s (va_up t 54 (t 54))))) (rfl) ?_
  exact la (12) 0 (t 54) (by omega) (Nat.zero_le _) (fun x y hy hl => absurd hl (by omega))
