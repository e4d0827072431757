set_option maxHeartbeats 4000000 in
set_option maxRecDepth 100000 in
theorem k_X6_fillTails (l : Launch) (E : ED) (q : Nat → Nat) (g : Nat → Int32) (a : Nat → Nat → Int32) (s : Nat → Int32) (t : Nat → Nat → Int32) (nc nv P : Nat) (hP : P < 1024) (hcf : ∀ tl : Nat → Int32, (∀ k, (∀ v, v < 10 → k ≠ P * 10 + v) → tl k = t 55 k) → ∀ v, v < 10 → P.testBit v = true → cfm (t 54) tl (P ^^^ 2 ^ v) v = Rr (lgm g a nc nv) (g 19) nv (P ^^^ 2 ^ v) v) : WV l E yX6_fillTails cX6_fillTails 3 2 47 0 0 [.ref (q 49), .int (nI P)] (cW E q g a s t (.ref (q 49)) (sR E q s t)) (fun u : Nat → Int32 => (∀ v : Nat, v < 10 → P.testBit v = true → u (P * 10 + v) = g 19 + Rr (lgm g a nc nv) (g 19) nv (P ^^^ 2 ^ v) v) ∧ (∀ k : Nat, (∀ v, v < 10 → k ≠ P * 10 + v) → u k = t 55 k)) (fun u => (cW E q g a s (va_up t 55 u) (.ref (q 49)) (sR E q s (va_up t 55 u)))) := by
  refine WV.mk (by decide) (Nat.le_of_ble_eq_true rfl) [(0, .ref (q 49)), (1, .int (nI P))] rfl (fun Z B hI ret => ?_)
  have lp : ∀ (n_lp : Nat) (i : Nat) (r : Nat → Int32), (10 - i < n_lp) → (i ≤ 10) → (∀ v : Nat, v < i → P.testBit v = true → r (P * 10 + v) = g 19 + Rr (lgm g a nc nv) (g 19) nv (P ^^^ 2 ^ v) v) → (∀ k : Nat, (∀ v, v < 10 → k ≠ P * 10 + v) → r k = t 55 k) → J Z 0 0 (cW E q g a s (va_up t 55 r) (.ref (q 49)) (sR E q s (va_up t 55 r))) 2 [(2, .int (nI i)), (0, .ref (q 49)), (1, .int (nI P))] [] := by
    intro n_lp
    induction n_lp with
    | zero => intro i r hf_lp hi hA hB; omega
    | succ n_lp ih_lp =>
      intro i r hf_lp hi hA hB
      refine i_iload_n B 0 dX6_fillTails_2 rfl ?_
      refine i_bipush (v := 10) B dX6_fillTails_3 (by decide) ?_
      refine i_icmp_ge B 53 dX6_fillTails_5 (by decide) (fun h1 => ?_) (fun h1 => ?_)
      · replace h1 := q_n32.mpr h1
        rw [show (10 : Int32) = nI 10 from rfl, nI_ltI (by omega) (by omega)] at h1
        exact ret _ _ r dX6_fillTails_53 (⟨fun v hv hb => hA v (by omega) hb, hB⟩)
      · replace h1 := q_m32.mp h1
        rw [show (10 : Int32) = nI 10 from rfl, nI_ltI (by omega) (by omega)] at h1
        refine i_iload_n B 2 dX6_fillTails_8 rfl ?_
        refine i_iload_n B 0 dX6_fillTails_9 rfl ?_
        refine c_roSN (rest := []) (As := [.int (nI P), .int (nI i)]) B (k_X8_has l E (nI P) (nI i)) cal_yX8_has is_yX8_has (fun U h => h.2.2.2.2.2.2.2.2) (by decide) (by decide) rfl (Nat.le_of_ble_eq_true rfl) Has.nil _ rfl dX6_fillTails_10 (fun r hr => ?_)
        subst hr
        refine i_val (v' := .int (bI (hsb (nI P) (nI i)))) rfl ?_
        refine i_val (v' := .int (bI (P.testBit i))) (congrArg Value.int (by rw [hsb_bit (by omega) (by omega)])) ?_
        refine i_if_eq B 47 dX6_fillTails_13 (by decide) (fun h2 => ?_) (fun h2 => ?_)
        · replace h2 := bI_0.mp h2
          refine i_iinc (v := (nI (i + 1))) B 0 [(2, .int (nI (i + 1))), (0, .ref (q 49)), (1, .int (nI P))] dX6_fillTails_47 rfl ((nI_1 _)) (by decide) rfl ?_
          refine i_goto B 2 dX6_fillTails_50 (by decide) ?_
          exact ih_lp (i + 1) r (by omega) (by omega) (fun v hv hb => by (by_cases e : v = i; (subst e; rw [h2] at hb; cases hb); (exact hA v (by omega) hb))) hB
        · replace h2 := bI_n.mp h2
          refine i_aload_n B 1 dX6_fillTails_16 rfl ?_
          refine i_get (v := .ref (q 55)) B flX6_15 31 rfl rfl dX6_fillTails_17 ?_
          refine i_iload_n B 2 dX6_fillTails_20 rfl ?_
          refine i_bipush (v := 10) B dX6_fillTails_21 (by decide) ?_
          refine i_imul B dX6_fillTails_23 ?_
          refine i_iload_n B 0 dX6_fillTails_24 rfl ?_
          refine i_iadd B dX6_fillTails_25 ?_
          refine i_aload_n B 1 dX6_fillTails_26 rfl ?_
          refine i_get (v := .ref (q 45)) B flX6_32 31 rfl rfl dX6_fillTails_27 ?_
          refine i_get (v := .int (g 19)) B flX6_91 16 rfl rfl dX6_fillTails_30 ?_
          refine i_aload_n B 1 dX6_fillTails_33 rfl ?_
          refine i_iload_n B 0 dX6_fillTails_34 rfl ?_
          refine i_iload_n B 2 dX6_fillTails_35 rfl ?_
          refine i_iconst (v := 1) B dX6_fillTails_36 (by decide) ?_
          refine i_iload_n B 0 dX6_fillTails_37 rfl ?_
          refine i_ishl B dX6_fillTails_38 ?_
          refine i_iconst (v := (-1)) B dX6_fillTails_39 (by decide) ?_
          refine i_ixor B dX6_fillTails_40 ?_
          refine i_iand B dX6_fillTails_41 ?_
          have hbl := bit_lt h2
          refine i_val (v' := .int (nI (P ^^^ 2 ^ i))) (congrArg Value.int (clr_bit hP (by omega) h2)) ?_
          refine c_roV (rest := [.int (g 19), .int (((nI P) * 10) + (nI i)), .ref (q 55)]) (As := [.int (nI i), .int (nI (P ^^^ 2 ^ i))]) B (k_X6_costFrom l E q g a s (va_up t 55 r) i ((P ^^^ 2 ^ i)) (by omega) (by omega)) cal_yX6_costFrom iv_yX6_costFrom mlX6_50 rfl 31 rfl (by decide) (by decide) rfl (Nat.le_of_ble_eq_true rfl) Has.rf _ rfl dX6_fillTails_42 (fun r hr => ?_)
          subst hr
          refine i_val (v' := .int (cfm (t 54) r ((P ^^^ 2 ^ i)) i)) rfl ?_
          refine i_val (v' := .int (Rr (lgm g a nc nv) (g 19) nv (P ^^^ 2 ^ i) i)) (congrArg Value.int (hcf r hB i (by omega) h2)) ?_
          refine i_iadd B dX6_fillTails_45 ?_
          refine j_nameI (fun w1 ew1 => ?_)
          refine i_iastN (f := r) B 33 (P * 10 + i) (cW E q g a s (va_up t 55 (upd r (P * 10 + i) w1)) (.ref (q 49)) (sR E q s (va_up t 55 (upd r (P * 10 + i) w1)))) rfl (by rw [show (10 : Int32) = nI 10 from rfl, pk_mul, nI_add]) (by omega) (by decide) rfl dX6_fillTails_46 ?_
          refine i_iinc (v := (nI (i + 1))) B 0 [(2, .int (nI (i + 1))), (0, .ref (q 49)), (1, .int (nI P))] dX6_fillTails_47 rfl ((nI_1 _)) (by decide) rfl ?_
          refine i_goto B 2 dX6_fillTails_50 (by decide) ?_
          exact ih_lp (i + 1) (upd r (P * 10 + i) w1) (by omega) (by omega) (fun v hv hb => by (by_cases e : v = i; (subst e; rw [pk_us, ew1]); (rw [pk_un (by omega)]; exact hA v (by omega) hb))) (fun k hk => by (rw [pk_un (hk i (by omega))]; exact hB k hk))
  refine i_iconst (v := 0) B dX6_fillTails_0 (by decide) ?_
  refine i_istore_n B [(2, .int 0), (0, .ref (q 49)), (1, .int (nI P))] dX6_fillTails_1 (by decide) rfl ?_
  refine i_Leq (congrArg (fun z_9 => ([(2, .int z_9), (0, .ref (q 49)), (1, .int (nI P))] : List (Nat × Value))) (show (0 : Int32) = (nI 0) from rfl)) ?_
  refine i_world (ws' := (cW E q g a s (va_up t 55 (t 55)) (.ref (q 49)) (sR E q s (va_up t 55 (t 55))))) (rfl) ?_
  exact lp (11) 0 (t 55) (by omega) (Nat.zero_le _) (fun v hv => absurd hv (by omega)) (fun k hk => rfl)

/-- the rows hold for all parts of RS -/
def RV (lg : Nat → Nat → Int32) (hov : Int32) (nv : Nat) (lc tl rd : Nat → Int32) (RS : Nat) : Prop := (∀ x y : Nat, x < 11 → y < 11 → x ≠ y → (RS ||| 1024).testBit x = true → (RS ||| 1024).testBit y = true → lc (x * 11 + y) = lg x y) ∧ (∀ S v : Nat, S &&& RS = S → v < 10 → S.testBit v = true → tl (S * 10 + v) = hov + Rr lg hov nv (S ^^^ 2 ^ v) v) ∧ (∀ S : Nat, S &&& RS = S → S ≠ 0 → rd S = Rr lg hov nv S 10)
theorem b1024 : ∀ x, x < 11 → (1024 : Nat).testBit x = decide (x = 10) := by decide
theorem or_bit {S x : Nat} (hx : x < 11) : (S ||| 1024).testBit x = (S.testBit x || decide (x = 10)) := by rw [Nat.testBit_or, b1024 x hx]
theorem thr_of {S nv x : Nat} (hS : S < 2 ^ nv) (hx : x < 11) (h : (S ||| 1024).testBit x = true) : thr nv x = true := by
  rw [or_bit hx] at h
  unfold thr
  simp only [Bool.or_eq_true, decide_eq_true_eq] at *
  rcases h with h | h
  · left
    by_cases e : x < nv
    · exact e
    · rw [Nat.testBit_lt_two_pow (Nat.lt_of_lt_of_le hS (Nat.pow_le_pow_right (by omega) (by omega)))] at h
      cases h
  · right; exact h
theorem part_bit {P S i : Nat} (h : P &&& S = P) (hb : P.testBit i = true) : S.testBit i = true := by
  have e : (P &&& S).testBit i = P.testBit i := by rw [h]
  rw [Nat.testBit_and, hb, Bool.true_and] at e
  exact e
theorem part_xor {P S v : Nat} (h : P &&& S = P) (hb : P.testBit v = true) : (P ^^^ 2 ^ v) &&& S = P ^^^ 2 ^ v := by
  apply Nat.eq_of_testBit_eq
  intro i
  rw [Nat.testBit_and, Nat.testBit_xor, Nat.testBit_two_pow]
  by_cases e : v = i
  · subst e; rw [hb]; simp
  · simp only [e, decide_false, Bool.xor_false]
    cases hp : P.testBit i
    · rfl
    · rw [part_bit h hp]; rfl
theorem xor_self_bit {P v : Nat} (hb : P.testBit v = true) : (P ^^^ 2 ^ v).testBit v = false := by rw [Nat.testBit_xor, hb, Nat.testBit_two_pow_self]; rfl
theorem bit_ne {P v : Nat} (hb : P.testBit v = true) : P ≠ 0 := fun e => by rw [e, Nat.zero_testBit] at hb; cases hb
/-- the least way on from a stop outside T -/
theorem cf_of {lg : Nat → Nat → Int32} {hov : Int32} {nv S T x : Nat} {lc tl : Nat → Int32} (hTS : T &&& S = T) (hS : S < 2 ^ nv) (hnv : nv ≤ 10) (hx : x < 11) (hxS : (S ||| 1024).testBit x = true) (hxT : T.testBit x = false) (h10 : x = 10 → T ≠ 0)
    (hlc : ∀ x y : Nat, x < 11 → y < 11 → x ≠ y → (S ||| 1024).testBit x = true → (S ||| 1024).testBit y = true → lc (x * 11 + y) = lg x y) (htl : ∀ v : Nat, v < 10 → T.testBit v = true → tl (T * 10 + v) = hov + Rr lg hov nv (T ^^^ 2 ^ v) v) : cfm lc tl T x = Rr lg hov nv T x := by
  refine cfm_eq (Nat.lt_of_le_of_lt (sub_le hTS) hS) hnv (fun e => ?_) (fun b hb hbt => ⟨?_, htl b hb hbt⟩)
  · exact hlc x 10 hx (by omega) (fun q => h10 q e) hxS (by rw [or_bit (by omega)]; simp)
  · refine hlc x b hx (by omega) (fun q => ?_) hxS (by rw [or_bit (by omega), part_bit hTS hbt]; rfl)
    subst q
    rw [hbt] at hxT
    cases hxT
theorem or_lt {S nv : Nat} (hS : S < 2 ^ nv) (hnv : nv ≤ 10) : S ||| 1024 < 2048 := Nat.or_lt_two_pow (n := 11) (Nat.lt_of_lt_of_le hS (Nat.le_trans (pow_le nv hnv) (by decide))) (by decide)

theorem bit10 {P : Nat} (h : P < 1024) : P.testBit 10 = false := Nat.testBit_lt_two_pow h

set_option maxHeartbeats 4000000 in
set_option maxRecDepth 100000 in
theorem k_X6_learn (l : Launch) (E : ED) (q : Nat → Nat) (g : Nat → Int32) (a : Nat → Nat → Int32) (s : Nat → Int32) (t : Nat → Nat → Int32) (nc : Nat) (hc : g 11 = nI nc) (hnc : nc ≤ 4) (nv : Nat) (hv : g 8 = nI nv) (hnv : nv ≤ 10) (hb : g 90 = a 9 10 ∧ g 91 = a 10 10) (hle : LegEq g a nc) (hpt : ∀ v, thr nv v = true → pt (a 9 v) (a 10 v) = true) (RS S : Nat) (hRS : RS < 2 ^ nv) (hs63 : s 63 = nI RS) (hrv : RV (lgm g a nc nv) (g 19) nv (t 54) (t 55) (t 56) RS) (hS : S < 2 ^ nv) : WV l E yX6_learn cX6_learn 3 4 105 0 0 [.ref (q 49), .int (nI S)] (cW E q g a s t (.ref (q 49)) (sR E q s t)) (fun u : (Nat → Int32) × (Nat → Int32) × (Nat → Int32) × Nat × Int32 => RV (lgm g a nc nv) (g 19) nv u.1 u.2.1 u.2.2.1 u.2.2.2.1 ∧ S &&& u.2.2.2.1 = S ∧ u.2.2.2.1 < 2 ^ nv ∧ (u.2.2.2.2 = 0 ∨ u.2.2.2.2 = s 64)) (fun u => (cW E q g a (upd (upd s 63 (nI u.2.2.2.1)) 64 u.2.2.2.2) (va_up (va_up (va_up t 54 u.1) 55 u.2.1) 56 u.2.2.1) (.ref (q 49)) (sR E q (upd (upd s 63 (nI u.2.2.2.1)) 64 u.2.2.2.2) (va_up (va_up (va_up t 54 u.1) 55 u.2.1) 56 u.2.2.1)))) := by
  refine WV.mk (by decide) (Nat.le_of_ble_eq_true rfl) [(0, .ref (q 49)), (1, .int (nI S))] rfl (fun Z B hI ret => ?_)
  have hpw := pow_le nv hnv
  have lp : ∀ (n_lp : Nat) (P : Nat) (f : Nat → Int32) (tl : Nat → Int32) (rd : Nat → Int32), (S + 1 - P < n_lp) → (1 ≤ P) → (P ≤ S + 1) → (∀ x y : Nat, x < 11 → y < 11 → x ≠ y → (S ||| 1024).testBit x = true → (S ||| 1024).testBit y = true → f (x * 11 + y) = lgm g a nc nv x y) → (∀ S9 v : Nat, S9 < P → S9 &&& S = S9 → v < 10 → S9.testBit v = true → tl (S9 * 10 + v) = g 19 + Rr (lgm g a nc nv) (g 19) nv (S9 ^^^ 2 ^ v) v) → (∀ S9 : Nat, S9 < P → S9 &&& S = S9 → S9 ≠ 0 → rd S9 = Rr (lgm g a nc nv) (g 19) nv S9 10) → J Z 0 0 (cW E q g a s (va_up (va_up (va_up t 54 f) 55 tl) 56 rd) (.ref (q 49)) (sR E q s (va_up (va_up (va_up t 54 f) 55 tl) 56 rd))) 23 [(2, .int (nI P)), (0, .ref (q 49)), (1, .int (nI S))] [] := by
    intro n_lp
    induction n_lp with
    | zero => intro P f tl rd hf_lp hP1 hP2 hF hTl hRd; omega
    | succ n_lp ih_lp =>
      intro P f tl rd hf_lp hP1 hP2 hF hTl hRd
      refine i_iload_n B 0 dX6_learn_23 rfl ?_
      refine i_iload_n B 2 dX6_learn_24 rfl ?_
      refine i_icmp_gt B 60 dX6_learn_25 (by decide) (fun h1 => ?_) (fun h1 => ?_)
      · rw [nI_ltI (by omega) (by omega)] at h1
        refine i_aload_n B 1 dX6_learn_60 rfl ?_
        refine i_iload_n B 2 dX6_learn_61 rfl ?_
        refine i_put B flX6_36 31 (cW E q g a (upd s 63 (nI S)) (va_up (va_up (va_up t 54 f) 55 tl) 56 rd) (.ref (q 49)) (sR E q (upd s 63 (nI S)) (va_up (va_up (va_up t 54 f) 55 tl) 56 rd))) rfl rfl rfl rfl (Nat.le_of_ble_eq_true rfl) rfl dX6_learn_62 ?_
        refine i_world (ws' := (cW E q g a (upd (upd s 63 (nI S)) 64 (s 64)) (va_up (va_up (va_up t 54 f) 55 tl) 56 rd) (.ref (q 49)) (sR E q (upd (upd s 63 (nI S)) 64 (s 64)) (va_up (va_up (va_up t 54 f) 55 tl) 56 rd)))) rfl ?_
        exact ret _ _ (f, tl, rd, S, s 64) dX6_learn_65 (⟨⟨hF, fun S9 v h2 h3 h4 => hTl S9 v (by have := sub_le (S := S) (t := S9) h2; omega) h2 h3 h4, fun S9 h2 h3 => hRd S9 (by have := sub_le (S := S) (t := S9) h2; omega) h2 h3⟩, Nat.and_self S, hS, Or.inr rfl⟩)
      · rw [nI_ltI (by omega) (by omega)] at h1
        refine i_iload_n B 0 dX6_learn_28 rfl ?_
        refine i_iload_n B 2 dX6_learn_29 rfl ?_
        refine i_iconst (v := (-1)) B dX6_learn_30 (by decide) ?_
        refine i_ixor B dX6_learn_31 ?_
        refine i_iand B dX6_learn_32 ?_
        refine i_if_ne B 54 dX6_learn_33 (by decide) (fun h2 => ?_) (fun h2 => ?_)
        · rw [andn_iff (by omega) (by omega)] at h2
          have h2d := decide_eq_false h2
          refine i_iinc (v := (nI (P + 1))) B 0 [(2, .int (nI (P + 1))), (0, .ref (q 49)), (1, .int (nI S))] dX6_learn_54 rfl ((nI_1 _)) (by decide) rfl ?_
          refine i_goto B 23 dX6_learn_57 (by decide) ?_
          exact ih_lp (P + 1) f tl rd (by omega) (by omega) (by omega) hF (fun S9 v k1 k2 k3 k4 => by (by_cases e : S9 = P; (subst e; exact absurd k2 h2); (exact hTl S9 v (by omega) k2 k3 k4))) (fun S9 k1 k2 k3 => by (by_cases e : S9 = P; (subst e; exact absurd k2 h2); (exact hRd S9 (by omega) k2 k3)))
        · rw [andn_iff (by omega) (by omega)] at h2
          have h2d := decide_eq_true h2
          refine i_aload_n B 1 dX6_learn_36 rfl ?_
          refine i_iload_n B 0 dX6_learn_37 rfl ?_
          refine c_wvV (cells := 0) (slots := 0) (rest := []) (As := [.int (nI P)]) B (k_X6_fillTails l E q g a s (va_up (va_up (va_up t 54 f) 55 tl) 56 rd) nc nv P (by omega) (fun tl9 h9 v hv9 hb9 => cf_of (S := S) (part_xor h2 hb9) hS hnv (by omega) (by rw [or_bit (by omega), part_bit h2 hb9]; rfl) (xor_self_bit hb9) (fun e => absurd e (by omega)) hF (fun u hu9 hu8 => by (rw [h9 _ (fun w hw => (by (have := bit_lt hb9; omega)))]; exact hTl _ u (bit_lt hb9) (part_xor h2 hb9) hu9 hu8)))) cal_yX6_fillTails iv_yX6_fillTails mlX6_47 rfl 31 rfl (by decide) (by decide) rfl (Nat.le_of_ble_eq_true rfl) ([]) ([]) rfl _ rfl dX6_learn_38 (fun tl2 hr => ?_)
          obtain ⟨hta, htb⟩ := hr
          refine i_world (ws' := (cW E q g a s (va_up (va_up (va_up t 54 f) 56 rd) 55 tl2) (.ref (q 49)) (sR E q s (va_up (va_up (va_up t 54 f) 56 rd) 55 tl2)))) rfl ?_
          refine i_aload_n B 1 dX6_learn_41 rfl ?_
          refine i_get (v := .ref (q 56)) B flX6_18 31 rfl rfl dX6_learn_42 ?_
          refine i_iload_n B 0 dX6_learn_45 rfl ?_
          refine i_aload_n B 1 dX6_learn_46 rfl ?_
          refine i_bipush (v := 10) B dX6_learn_47 (by decide) ?_
          refine i_iload_n B 0 dX6_learn_49 rfl ?_
          refine c_roV (rest := [.int (nI P), .ref (q 56)]) (As := [.int 10, .int (nI P)]) B (k_X6_costFrom l E q g a s (va_up (va_up (va_up t 54 f) 56 rd) 55 tl2) 10 P (by omega) (by omega)) cal_yX6_costFrom iv_yX6_costFrom mlX6_50 rfl 31 rfl (by decide) (by decide) rfl (Nat.le_of_ble_eq_true rfl) Has.rf _ rfl dX6_learn_50 (fun r hr => ?_)
          subst hr
          refine i_val (v' := .int (cfm f tl2 P 10)) rfl ?_
          refine i_val (v' := .int (Rr (lgm g a nc nv) (g 19) nv P 10)) (congrArg Value.int (cf_of (S := S) h2 hS hnv (by omega) (by rw [or_bit (by omega)]; simp) (bit10 (by omega)) (fun _ => by omega) hF (fun u hu9 hu8 => hta u hu9 hu8))) ?_
          refine j_nameI (fun w1 ew1 => ?_)
          refine i_iastN (f := rd) B 34 P (cW E q g a s (va_up (va_up (va_up t 54 f) 55 tl2) 56 (upd rd P w1)) (.ref (q 49)) (sR E q s (va_up (va_up (va_up t 54 f) 55 tl2) 56 (upd rd P w1)))) rfl rfl (by omega) (by decide) rfl dX6_learn_53 ?_
          refine i_iinc (v := (nI (P + 1))) B 0 [(2, .int (nI (P + 1))), (0, .ref (q 49)), (1, .int (nI S))] dX6_learn_54 rfl ((nI_1 _)) (by decide) rfl ?_
          refine i_goto B 23 dX6_learn_57 (by decide) ?_
          exact ih_lp (P + 1) f tl2 (upd rd P w1) (by omega) (by omega) (by omega) hF (fun S9 v k1 k2 k3 k4 => by (by_cases e : S9 = P; (subst e; exact hta v k3 k4); (rw [htb _ (fun w hw => (by omega))]; exact hTl S9 v (by omega) k2 k3 k4))) (fun S9 k1 k2 k3 => by (by_cases e : S9 = P; (subst e; rw [pk_us, ew1]); (rw [pk_un e]; exact hRd S9 (by omega) k2 k3)))
  refine i_iload_n B 1 dX6_learn_0 rfl ?_
  refine i_aload_n B 0 dX6_learn_1 rfl ?_
  refine i_get (v := .int (s 63)) B flX6_36 31 rfl rfl dX6_learn_2 ?_
  refine i_iconst (v := (-1)) B dX6_learn_5 (by decide) ?_
  refine i_ixor B dX6_learn_6 ?_
  refine i_iand B dX6_learn_7 ?_
  refine i_if_ne B 12 dX6_learn_8 (by decide) (fun h3 => ?_) (fun h3 => ?_)
  · rw [hs63, andn_iff (by omega) (by omega)] at h3
    have h3d := decide_eq_false h3
    refine i_aload_n B 0 dX6_learn_12 rfl ?_
    refine i_iload_n B 1 dX6_learn_13 rfl ?_
    refine i_sipush (v := 1024) B dX6_learn_14 (by decide) ?_
    refine i_ior B dX6_learn_17 ?_
    refine i_val (v' := .int (nI (S ||| 1024))) (congrArg Value.int (nx_or S 1024)) ?_
    refine c_wvV (cells := 0) (slots := 0) (rest := []) (As := [.int (nI (S ||| 1024))]) B (k_X6_measureLegs l E q g a s t nc hc hnc nv hv hnv hb hle hpt ((S ||| 1024)) (or_lt hS hnv) (fun x hx h => thr_of hS hx h)) cal_yX6_measureLegs iv_yX6_measureLegs mlX6_43 rfl 31 rfl (by decide) (by decide) rfl (Nat.le_of_ble_eq_true rfl) ([]) ([]) rfl _ rfl dX6_learn_18 (fun f hr => ?_)
    refine i_world (ws' := (cW E q g a s (va_up t 54 f) (.ref (q 49)) (sR E q s (va_up t 54 f)))) rfl ?_
    refine i_iconst (v := 1) B dX6_learn_21 (by decide) ?_
    refine i_istore_n B [(2, .int 1), (0, .ref (q 49)), (1, .int (nI S))] dX6_learn_22 (by decide) rfl ?_
    refine i_Leq (congrArg (fun z_9 => ([(2, .int z_9), (0, .ref (q 49)), (1, .int (nI S))] : List (Nat × Value))) (show (1 : Int32) = (nI 1) from rfl)) ?_
    refine i_world (ws' := (cW E q g a s (va_up (va_up (va_up t 54 f) 55 (t 55)) 56 (t 56)) (.ref (q 49)) (sR E q s (va_up (va_up (va_up t 54 f) 55 (t 55)) 56 (t 56))))) (rfl) ?_
    exact lp (S + 2) 1 f (t 55) (t 56) (by omega) (Nat.le_refl _) (by omega) hr (fun S9 v k1 k2 k3 k4 => absurd k4 (by (have : S9 = 0 := (by omega); subst this; simp))) (fun S9 k1 k2 k3 => absurd k3 (by omega))
  · rw [hs63, andn_iff (by omega) (by omega)] at h3
    have h3d := decide_eq_true h3
    refine i_world (ws' := (cW E q g a (upd (upd s 63 (nI RS)) 64 (s 64)) (va_up (va_up (va_up t 54 (t 54)) 55 (t 55)) 56 (t 56)) (.ref (q 49)) (sR E q (upd (upd s 63 (nI RS)) 64 (s 64)) (va_up (va_up (va_up t 54 (t 54)) 55 (t 55)) 56 (t 56))))) (by rw [← hs63]; rfl) ?_
    exact ret _ _ (t 54, t 55, t 56, RS, s 64) dX6_learn_11 (⟨hrv, h3, hRS, Or.inr rfl⟩)
