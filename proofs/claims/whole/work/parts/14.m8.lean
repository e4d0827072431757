def rdo (r : Nat → Int32) (S : Nat) : Int32 := if decide (S = 0) = true then 1000000 else r (11 * S + 10)
/-- THE ROUND of a set, 1000000 where there is none -/
def rnd (lg : Nat → Nat → Int32) (hov : Int32) (nv S : Nat) : Int32 := if decide (S = 0) = true then 1000000 else Rr lg hov nv S 10
theorem rdo_eq {r : Nat → Int32} {lg : Nat → Nat → Int32} {hov : Int32} {nv S : Nat} (h : r (11 * S + 10) = Rr lg hov nv S 10) : rdo r S = rnd lg hov nv S := by rw [rdo, rnd, h]
def rndF (g : Nat → Int32) (a : Nat → Nat → Int32) (nc nv : Nat) (x : Int32) : Int32 := if nset (g 8) x = true then -1 else if rnd (lgm g a nc nv) (g 19) nv (ix x) < 1000000 then rnd (lgm g a nc nv) (g 19) nv (ix x) else -9
def pcn (S : Nat) : Nat → Nat
  | 0 => 0
  | k + 1 => pcn S k + (if S.testBit k = true then 1 else 0)
theorem pcn_le (S n : Nat) : pcn S n ≤ n := by
  induction n with
  | zero => exact Nat.le_refl _
  | succ n ih => rw [pcn]; split <;> omega
theorem bit_val {S b : Nat} (hS : S < 2 ^ 31) (hb : b < 32) : nI S >>> (nI b &&& 31) &&& 1 = nI (if S.testBit b = true then 1 else 0) := by
  rw [pk_shrN hS _ b (sm31 b hb), show (1 : Int32) = nI 1 from rfl, nx_and, Nat.and_one_is_mod, Nat.testBit_eq_decide_div_mod_eq]
  by_cases e : S / 2 ^ b % 2 = 1
  · simp [e]
  · have : S / 2 ^ b % 2 = 0 := by omega
    simp [this]
theorem bits_pc {S : Nat} (hS : S < 2 ^ 31) (n : Nat) (hn : n ≤ 10) : bits10 (nI S) n = nI (pcn S n) := by
  induction n with
  | zero => rfl
  | succ n ih => rw [bits10, pcn, ih (by omega), bit_val hS (by omega), nI_add]
/-- a VIEW that a ROUND may go on with -/
def nxP (lg : Nat → Nat → Int32) (hov : Int32) (nv l x b : Nat) : Bool := l.testBit b && decide (lg x b + hov + Rr lg hov nv (l ^^^ 2 ^ b) b = Rr lg hov nv l x)
/-- the lowest below n, n where there is none -/
def low (P : Nat → Bool) : Nat → Nat → Nat
  | 0, _ => 10
  | n + 1, b => if P b = true then b else low P n (b + 1)
def stp (lg : Nat → Nat → Int32) (hov : Int32) (nv S : Nat) : Nat → Nat × Nat
  | 0 => (S, 10)
  | k + 1 => ((stp lg hov nv S k).1 ^^^ 2 ^ low (nxP lg hov nv (stp lg hov nv S k).1 (stp lg hov nv S k).2) nv 0, low (nxP lg hov nv (stp lg hov nv S k).1 (stp lg hov nv S k).2) nv 0)
/-- the search goes down: what it has found from j on -/
def nxd (P : Nat → Bool) (nv j : Nat) : Int32 := if low P (nv - j) j = 10 then -9 else nI (low P (nv - j) j)
def StOK (lg : Nat → Nat → Int32) (hov : Int32) (nv S : Nat) : Prop := ∀ k, k < pcn S 10 → (stp lg hov nv S k).1 < 2 ^ nv ∧ thr nv (stp lg hov nv S k).2 = true ∧ low (nxP lg hov nv (stp lg hov nv S k).1 (stp lg hov nv S k).2) nv 0 < nv ∧ Rr lg hov nv (stp lg hov nv S k).1 (stp lg hov nv S k).2 < 1000000
def stoF (g : Nat → Int32) (a : Nat → Nat → Int32) (nc nv : Nat) (x p : Int32) : Int32 := if nset (g 8) x = true then -1 else if (!decide (rnd (lgm g a nc nv) (g 19) nv (ix x) < 1000000) || !wit p 0 (nI (pcn (ix x) 10) - 1)) = true then -9 else nI (stp (lgm g a nc nv) (g 19) nv (ix x) (ix p + 1)).2
theorem low_ne {P : Nat → Bool} {n b : Nat} (hb : b + n ≤ 10) : low P n b = 10 ∨ (b ≤ low P n b ∧ low P n b < b + n) := by
  induction n generalizing b with
  | zero => left; rfl
  | succ n ih =>
    rw [low]
    by_cases e : P b = true
    · rw [if_pos e]; right; omega
    · rw [if_neg e]
      rcases ih (b := b + 1) (by omega) with h | h
      · left; exact h
      · right; omega
theorem nxd_top (P : Nat → Bool) (nv : Nat) : nxd P nv nv = -9 := by rw [nxd, Nat.sub_self]; rfl
theorem nxd_st {P : Nat → Bool} {nv b : Nat} (h : b < nv) (hn : nv ≤ 10) : nxd P nv b = if P b = true then nI b else nxd P nv (b + 1) := by
  rw [nxd, show nv - b = (nv - (b + 1)) + 1 by omega, low]
  by_cases e : P b = true
  · rw [if_pos e, if_pos e, if_neg (by omega)]
  · rw [if_neg e, if_neg e]; rfl
theorem dec1 (x : Int32) : x + Int32.ofInt (-1) = x - 1 := by rw [show Int32.ofInt (-1) = -1 by decide, ← Int32.sub_eq_add_neg]
theorem dn_lt : ∀ j, j ≤ 10 → (nI j - 1 < 0 ↔ j = 0) := by decide +kernel

set_option maxHeartbeats 4000000 in
set_option maxRecDepth 100000 in
theorem k_X9_roundOf (l : Launch) (E : ED) (h : Nat) (q : Nat → Nat) (g : Nat → Int32) (a : Nat → Nat → Int32) (S : Nat) (hS : S < 1024) : RO l E yX9_roundOf cX9_roundOf 2 .int 0 0 [.ref h, .int (nI S)] (mW E h q g a) (fun r => r = rdo (a 31) S) := by
  refine RO.mk (by decide) (Nat.le_of_ble_eq_true rfl) [(0, .ref h), (1, .int (nI S))] rfl (fun Z B ret => ?_)
  refine i_iload_n B 1 dX9_roundOf_0 rfl ?_
  refine i_if_ne B 9 dX9_roundOf_1 (by decide) (fun h1 => ?_) (fun h1 => ?_)
  · rw [show (0 : Int32) = nI 0 from rfl, nI_eq (by omega) (by omega)] at h1
    have h1d := decide_eq_false h1
    refine i_aload_n B 0 dX9_roundOf_9 rfl ?_
    refine i_get (v := .ref (q 31)) B flX9_78 0 rfl rfl dX9_roundOf_10 ?_
    refine i_bipush (v := 11) B dX9_roundOf_13 (by decide) ?_
    refine i_iload_n B 1 dX9_roundOf_15 rfl ?_
    refine i_imul B dX9_roundOf_16 ?_
    refine i_bipush (v := 10) B dX9_roundOf_17 (by decide) ?_
    refine i_iadd B dX9_roundOf_19 ?_
    refine i_ialdN B 20 (11 * S + 10) rfl (by rw [show (11 : Int32) = nI 11 from rfl, show (10 : Int32) = nI 10 from rfl, pk_mul, nI_add]) (by omega) (by decide) dX9_roundOf_20 ?_
    exact ret _ _ _ rfl dX9_roundOf_21 (by simp only [rdo, h1d, decide_true, decide_false, Bool.not_true, Bool.not_false, Bool.true_and, Bool.false_and, Bool.and_true, Bool.and_false, Bool.true_or, Bool.or_true, Bool.false_or, Bool.or_false, Bool.and_self, Bool.or_self, bI_t, bI_f, if_true, if_false, ite_true, ite_false, Bool.false_eq_true, Bool.true_eq_false, eq_self, reduceIte, true_or, or_true, false_or, or_false, and_true, true_and, and_false, false_and, not_true_eq_false, not_false_eq_true, decide_eq_true_eq, decide_eq_false_iff_not])
  · rw [show (0 : Int32) = nI 0 from rfl, nI_eq (by omega) (by omega)] at h1
    have h1d := decide_eq_true h1
    refine i_ldc B ckX9_151 dX9_roundOf_4 ?_
    refine i_goto B 21 dX9_roundOf_6 (by decide) ?_
    exact ret _ _ _ rfl dX9_roundOf_21 (by simp only [rdo, h1d, decide_true, decide_false, Bool.not_true, Bool.not_false, Bool.true_and, Bool.false_and, Bool.and_true, Bool.and_false, Bool.true_or, Bool.or_true, Bool.false_or, Bool.or_false, Bool.and_self, Bool.or_self, bI_t, bI_f, if_true, if_false, ite_true, ite_false, Bool.false_eq_true, Bool.true_eq_false, eq_self, reduceIte, true_or, or_true, false_or, or_false, and_true, true_and, and_false, false_and, not_true_eq_false, not_false_eq_true, decide_eq_true_eq, decide_eq_false_iff_not])

set_option maxHeartbeats 4000000 in
set_option maxRecDepth 100000 in
theorem k_X9_round (l : Launch) (E : ED) (h : Nat) (q : Nat → Nat) (g : Nat → Int32) (a : Nat → Nat → Int32) (nc : Nat) (hc : g 11 = nI nc) (hnc : nc ≤ 4) (nv : Nat) (hv : g 8 = nI nv) (hnv : nv ≤ 10) (hpt : ∀ v, thr nv v = true → pt (a 9 v) (a 10 v) = true) (x : Int32) : WR l E yX9_round cX9_round 2 .int 4 123 0 0 [.ref h, .int x] (mW E h q g a) (fun r (_ : (Nat → Int32) × (Nat → Int32)) => r = rndF g a nc nv x) (fun u : (Nat → Int32) × (Nat → Int32) => mW E h q g (va_up (va_up a 30 u.1) 31 u.2)) := by
  refine WR.mk (by decide) (Nat.le_of_ble_eq_true rfl) [(0, .ref h), (1, .int x)] rfl (fun Z B ret => ?_)
  refine i_aload_n B 0 dX9_round_0 rfl ?_
  refine i_iconst (v := 0) B dX9_round_1 (by decide) ?_
  refine i_put B flX9_99 0 (mW E h q g a) rfl rfl rfl rfl (Nat.le_of_ble_eq_true rfl) rfl dX9_round_2 ?_
  refine i_aload_n B 0 dX9_round_5 rfl ?_
  refine i_iload_n B 1 dX9_round_6 rfl ?_
  refine c_roV (rest := []) (As := [.int x]) B (k_X9_noSet l E h q g a x) cal_yX9_noSet iv_yX9_noSet mlX9_163 rfl 0 rfl (by decide) (by decide) rfl (Nat.le_of_ble_eq_true rfl) Has.rf _ rfl dX9_round_7 (fun r hr => ?_)
  subst hr
  refine i_val (v' := .int (bI (nset (g 8) x))) rfl ?_
  refine i_if_eq B 15 dX9_round_10 (by decide) (fun h1 => ?_) (fun h1 => ?_)
  · replace h1 := bI_0.mp h1
    obtain ⟨S, hS, rfl⟩ := nset_ix hnv (by rw [← hv]; exact h1)
    have hpw := pow_le nv hnv
    refine i_aload_n B 0 dX9_round_15 rfl ?_
    refine c_wvV (cells := 0) (slots := 0) (rest := []) (As := []) B (k_X9_fly l E h q g a nc hc hnc nv hv hnv hpt) cal_yX9_fly iv_yX9_fly mlX9_193 rfl 0 rfl (by decide) (by decide) rfl (Nat.le_of_ble_eq_true rfl) ([]) ([]) rfl _ rfl dX9_round_16 (fun ⟨f9, r9⟩ hr => ?_)
    dsimp only at hr
    obtain ⟨hf9, hr9⟩ := hr
    refine i_world (ws' := (mW E h q g (va_up (va_up a 30 f9) 31 r9))) rfl ?_
    refine i_aload_n B 0 dX9_round_19 rfl ?_
    refine i_iload_n B 1 dX9_round_20 rfl ?_
    refine c_roV (rest := []) (As := [.int (nI S)]) B (k_X9_roundOf l E h q g (va_up (va_up a 30 f9) 31 r9) S (by omega)) cal_yX9_roundOf iv_yX9_roundOf mlX9_196 rfl 0 rfl (by decide) (by decide) rfl (Nat.le_of_ble_eq_true rfl) Has.rf _ rfl dX9_round_21 (fun r hr => ?_)
    subst hr
    refine i_val (v' := .int (rdo r9 S)) rfl ?_
    refine i_val (v' := .int (rnd (lgm g a nc nv) (g 19) nv S)) (congrArg Value.int (rdo_eq (hr9 S 10 hS (by omega)))) ?_
    refine i_ldc B ckX9_151 dX9_round_24 ?_
    refine i_icmp_lt B 34 dX9_round_26 (by decide) (fun h2 => ?_) (fun h2 => ?_)
    · refine i_aload_n B 0 dX9_round_34 rfl ?_
      refine i_iload_n B 1 dX9_round_35 rfl ?_
      refine c_roV (rest := []) (As := [.int (nI S)]) B (k_X9_roundOf l E h q g (va_up (va_up a 30 f9) 31 r9) S (by omega)) cal_yX9_roundOf iv_yX9_roundOf mlX9_196 rfl 0 rfl (by decide) (by decide) rfl (Nat.le_of_ble_eq_true rfl) Has.rf _ rfl dX9_round_36 (fun r hr => ?_)
      subst hr
      refine i_val (v' := .int (rdo r9 S)) rfl ?_
      refine i_val (v' := .int (rnd (lgm g a nc nv) (g 19) nv S)) (congrArg Value.int (rdo_eq (hr9 S 10 hS (by omega)))) ?_
      exact ret _ _ _ (f9, r9) rfl dX9_round_39 (by simp only [rndF, ix_nI (show S < 2 ^ 31 by omega), h1, h2, decide_true, decide_false, Bool.not_true, Bool.not_false, Bool.true_and, Bool.false_and, Bool.and_true, Bool.and_false, Bool.true_or, Bool.or_true, Bool.false_or, Bool.or_false, Bool.and_self, Bool.or_self, bI_t, bI_f, if_true, if_false, ite_true, ite_false, Bool.false_eq_true, Bool.true_eq_false, eq_self, reduceIte, true_or, or_true, false_or, or_false, and_true, true_and, and_false, false_and, not_true_eq_false, not_false_eq_true, decide_eq_true_eq, decide_eq_false_iff_not])
    · refine i_bipush (v := (-9)) B dX9_round_29 (by decide) ?_
      refine i_goto B 39 dX9_round_31 (by decide) ?_
      exact ret _ _ _ (f9, r9) rfl dX9_round_39 (by simp only [rndF, ix_nI (show S < 2 ^ 31 by omega), h1, h2, decide_true, decide_false, Bool.not_true, Bool.not_false, Bool.true_and, Bool.false_and, Bool.and_true, Bool.and_false, Bool.true_or, Bool.or_true, Bool.false_or, Bool.or_false, Bool.and_self, Bool.or_self, bI_t, bI_f, if_true, if_false, ite_true, ite_false, Bool.false_eq_true, Bool.true_eq_false, eq_self, reduceIte, true_or, or_true, false_or, or_false, and_true, true_and, and_false, false_and, not_true_eq_false, not_false_eq_true, decide_eq_true_eq, decide_eq_false_iff_not])
  · replace h1 := bI_n.mp h1
    refine i_iconst (v := (-1)) B dX9_round_13 (by decide) ?_
    exact ret _ _ _ ((a 30), (a 31)) rfl dX9_round_14 (by simp only [rndF, h1, decide_true, decide_false, Bool.not_true, Bool.not_false, Bool.true_and, Bool.false_and, Bool.and_true, Bool.and_false, Bool.true_or, Bool.or_true, Bool.false_or, Bool.or_false, Bool.and_self, Bool.or_self, bI_t, bI_f, if_true, if_false, ite_true, ite_false, Bool.false_eq_true, Bool.true_eq_false, eq_self, reduceIte, true_or, or_true, false_or, or_false, and_true, true_and, and_false, false_and, not_true_eq_false, not_false_eq_true, decide_eq_true_eq, decide_eq_false_iff_not])

theorem thr_lt {nv x : Nat} (hn : nv ≤ 10) (h : thr nv x = true) : x < 11 := by
  unfold thr at h
  simp only [Bool.or_eq_true, decide_eq_true_eq] at h
  omega

set_option maxHeartbeats 4000000 in
set_option maxRecDepth 100000 in
theorem k_X9_stop (l : Launch) (E : ED) (h : Nat) (q : Nat → Nat) (g : Nat → Int32) (a : Nat → Nat → Int32) (nc : Nat) (hc : g 11 = nI nc) (hnc : nc ≤ 4) (nv : Nat) (hv : g 8 = nI nv) (hnv : nv ≤ 10) (hpt : ∀ v, thr nv v = true → pt (a 9 v) (a 10 v) = true) (hok : ∀ S, S < 2 ^ nv → rnd (lgm g a nc nv) (g 19) nv S < 1000000 → StOK (lgm g a nc nv) (g 19) nv S) (x pl : Int32) : WR l E yX9_stop cX9_stop 9 .int 4 123 0 0 [.ref h, .int x, .int pl] (mW E h q g a) (fun r (_ : (Nat → Int32) × (Nat → Int32)) => r = stoF g a nc nv x pl) (fun u : (Nat → Int32) × (Nat → Int32) => mW E h q g (va_up (va_up a 30 u.1) 31 u.2)) := by
  refine WR.mk (by decide) (Nat.le_of_ble_eq_true rfl) [(0, .ref h), (1, .int x), (2, .int pl)] rfl (fun Z B ret => ?_)
  refine i_aload_n B 0 dX9_stop_0 rfl ?_
  refine i_iconst (v := 0) B dX9_stop_1 (by decide) ?_
  refine i_put B flX9_99 0 (mW E h q g a) rfl rfl rfl rfl (Nat.le_of_ble_eq_true rfl) rfl dX9_stop_2 ?_
  refine i_aload_n B 0 dX9_stop_5 rfl ?_
  refine i_iload_n B 1 dX9_stop_6 rfl ?_
  refine c_roV (rest := []) (As := [.int x]) B (k_X9_noSet l E h q g a x) cal_yX9_noSet iv_yX9_noSet mlX9_163 rfl 0 rfl (by decide) (by decide) rfl (Nat.le_of_ble_eq_true rfl) Has.rf _ rfl dX9_stop_7 (fun r hr => ?_)
  subst hr
  refine i_val (v' := .int (bI (nset (g 8) x))) rfl ?_
  refine i_if_eq B 15 dX9_stop_10 (by decide) (fun h1 => ?_) (fun h1 => ?_)
  · replace h1 := bI_0.mp h1
    obtain ⟨S, hS, rfl⟩ := nset_ix hnv (by rw [← hv]; exact h1)
    have hpw := pow_le nv hnv
    refine i_aload_n B 0 dX9_stop_15 rfl ?_
    refine c_wvV (cells := 0) (slots := 0) (rest := []) (As := []) B (k_X9_fly l E h q g a nc hc hnc nv hv hnv hpt) cal_yX9_fly iv_yX9_fly mlX9_193 rfl 0 rfl (by decide) (by decide) rfl (Nat.le_of_ble_eq_true rfl) ([]) ([]) rfl _ rfl dX9_stop_16 (fun ⟨f9, r9⟩ hr => ?_)
    dsimp only at hr
    obtain ⟨hf9, hr9⟩ := hr
    refine i_world (ws' := (mW E h q g (va_up (va_up a 30 f9) 31 r9))) rfl ?_
    refine i_aload_n B 0 dX9_stop_19 rfl ?_
    refine i_iload_n B 1 dX9_stop_20 rfl ?_
    refine c_roV (rest := []) (As := [.int (nI S)]) B (k_X9_roundOf l E h q g (va_up (va_up a 30 f9) 31 r9) S (by omega)) cal_yX9_roundOf iv_yX9_roundOf mlX9_196 rfl 0 rfl (by decide) (by decide) rfl (Nat.le_of_ble_eq_true rfl) Has.rf _ rfl dX9_stop_21 (fun r hr => ?_)
    subst hr
    refine i_val (v' := .int (rdo r9 S)) rfl ?_
    refine i_val (v' := .int (rnd (lgm g a nc nv) (g 19) nv S)) (congrArg Value.int (rdo_eq (hr9 S 10 hS (by omega)))) ?_
    refine i_ldc B ckX9_151 dX9_stop_24 ?_
    refine i_icmp_ge B 45 dX9_stop_26 (by decide) (fun h2 => ?_) (fun h2 => ?_)
    · replace h2 := q_n32.mpr h2
      refine i_bipush (v := (-9)) B dX9_stop_45 (by decide) ?_
      exact ret _ _ _ (f9, r9) rfl dX9_stop_47 (by simp only [stoF, ix_nI (show S < 2 ^ 31 by omega), h1, h2, decide_true, decide_false, Bool.not_true, Bool.not_false, Bool.true_and, Bool.false_and, Bool.and_true, Bool.and_false, Bool.true_or, Bool.or_true, Bool.false_or, Bool.or_false, Bool.and_self, Bool.or_self, bI_t, bI_f, if_true, if_false, ite_true, ite_false, Bool.false_eq_true, Bool.true_eq_false, eq_self, reduceIte, true_or, or_true, false_or, or_false, and_true, true_and, and_false, false_and, not_true_eq_false, not_false_eq_true, decide_eq_true_eq, decide_eq_false_iff_not])
    · replace h2 := q_m32.mp h2
      refine i_iload_n B 2 dX9_stop_29 rfl ?_
      refine i_i2l B dX9_stop_30 ?_
      refine i_lconst (v := 0) B dX9_stop_31 (by decide) ?_
      refine i_iload_n B 1 dX9_stop_32 rfl ?_
      refine c_roS (rest := [.long 0, .long (Int32.toInt64 pl)]) (As := [.int (nI S)]) B (k_X9_bits l E (nI S)) cal_yX9_bits is_yX9_bits mlX9_157 (by decide) (by decide) rfl (Nat.le_of_ble_eq_true rfl) Has.nil _ rfl dX9_stop_33 (fun r hr => ?_)
      subst hr
      refine i_val (v' := .int (bits10 (nI S) 10)) rfl ?_
      refine i_val (v' := .int (nI (pcn S 10))) (congrArg Value.int (bits_pc (by omega) 10 (by omega))) ?_
      refine i_iconst (v := 1) B dX9_stop_36 (by decide) ?_
      refine i_isub B dX9_stop_37 ?_
      refine i_i2l B dX9_stop_38 ?_
      refine c_roS (rest := []) (As := [.long (Int32.toInt64 pl), .long 0, .long (Int32.toInt64 ((nI (pcn S 10)) - 1))]) B (k_X9_in l E (Int32.toInt64 pl) 0 (Int32.toInt64 ((nI (pcn S 10)) - 1))) cal_yX9_in is_yX9_in mlX9_104 (by decide) (by decide) rfl (Nat.le_of_ble_eq_true rfl) Has.nil _ rfl dX9_stop_39 (fun r hr => ?_)
      subst hr
      refine i_val (v' := .int (bI (wit pl 0 ((nI (pcn S 10)) - 1)))) (congrArg (fun z => Value.int (bI z)) (pin_i pl 0 ((nI (pcn S 10)) - 1))) ?_
      refine i_if_ne B 48 dX9_stop_42 (by decide) (fun h3 => ?_) (fun h3 => ?_)
      · replace h3 := bI_n.mp h3
        have hpc := pcn_le S 10
        obtain ⟨p, hp, rfl⟩ := wit_ix (n := pcn S 10) (by omega) h3
        have hst := hok S hS h2
        refine i_iload_n B 1 dX9_stop_48 rfl ?_
        refine i_istore_n B [(3, .int (nI S)), (0, .ref h), (1, .int (nI S)), (2, .int (nI p))] dX9_stop_49 (by decide) rfl ?_
        refine i_bipush (v := 10) B dX9_stop_50 (by decide) ?_
        refine i_istore B [(4, .int 10), (3, .int (nI S)), (0, .ref h), (1, .int (nI S)), (2, .int (nI p))] dX9_stop_52 (by decide) rfl ?_
        refine i_iconst (v := 0) B dX9_stop_54 (by decide) ?_
        refine i_istore B [(5, .int 0), (4, .int 10), (3, .int (nI S)), (0, .ref h), (1, .int (nI S)), (2, .int (nI p))] dX9_stop_55 (by decide) rfl ?_
        have lk : ∀ (n_lk : Nat) (k : Nat), (p + 1 - k < n_lk) → (k ≤ p + 1) → J Z 0 0 (mW E h q g (va_up (va_up a 30 f9) 31 r9)) 57 [(5, .int (nI k)), (4, .int (nI (stp (lgm g a nc nv) (g 19) nv S k).2)), (3, .int (nI (stp (lgm g a nc nv) (g 19) nv S k).1)), (0, .ref h), (2, .int (nI p))] [] := by
          intro n_lk
          induction n_lk with
          | zero => intro k hf_lk hk; omega
          | succ n_lk ih_lk =>
            intro k hf_lk hk
            refine i_iload B 0 dX9_stop_57 rfl ?_
            refine i_iload_n B 4 dX9_stop_59 rfl ?_
            refine i_icmp_gt B 185 dX9_stop_60 (by decide) (fun h4 => ?_) (fun h4 => ?_)
            · rw [nI_ltI (by omega) (by omega)] at h4
              refine i_iload B 1 dX9_stop_185 rfl ?_
              exact ret _ _ _ (f9, r9) rfl dX9_stop_187 (by rw [stoF, show k = p + 1 by omega]; simp only [h1, h2, h3, ix_nI (show S < 2 ^ 31 by omega), ix_nI (show p < 2 ^ 31 by omega), decide_true, decide_false, Bool.not_true, Bool.not_false, Bool.true_and, Bool.false_and, Bool.and_true, Bool.and_false, Bool.true_or, Bool.or_true, Bool.false_or, Bool.or_false, bI_t, bI_f, if_true, if_false, ite_true, ite_false, Bool.false_eq_true, Bool.true_eq_false, eq_self, reduceIte, true_or, or_true, false_or, or_false, and_true, true_and, and_false, false_and, not_true_eq_false, not_false_eq_true, decide_eq_true_eq, decide_eq_false_iff_not])
            · rw [nI_ltI (by omega) (by omega)] at h4
              have hkp : k < pcn S 10 := by omega
              have hkl := (hst k hkp).1
              have hkt := thr_lt hnv (hst k hkp).2.1
              refine i_bipush (v := (-9)) B dX9_stop_63 (by decide) ?_
              refine i_istore B [(6, .int (-9)), (5, .int (nI k)), (4, .int (nI (stp (lgm g a nc nv) (g 19) nv S k).2)), (3, .int (nI (stp (lgm g a nc nv) (g 19) nv S k).1)), (0, .ref h), (2, .int (nI p))] dX9_stop_65 (by decide) rfl ?_
              refine i_aload_n B 4 dX9_stop_67 rfl ?_
              refine i_get (v := .int (g 8)) B flX9_111 0 rfl rfl dX9_stop_68 ?_
              refine i_iconst (v := 1) B dX9_stop_71 (by decide) ?_
              refine i_isub B dX9_stop_72 ?_
              refine i_istore B [(7, .int ((g 8) - 1)), (6, .int (-9)), (5, .int (nI k)), (4, .int (nI (stp (lgm g a nc nv) (g 19) nv S k).2)), (3, .int (nI (stp (lgm g a nc nv) (g 19) nv S k).1)), (0, .ref h), (2, .int (nI p))] dX9_stop_73 (by decide) rfl ?_
              have lj : ∀ (n_lj : Nat) (j : Nat), (j < n_lj) → (j ≤ nv) → J Z 0 0 (mW E h q g (va_up (va_up a 30 f9) 31 r9)) 75 [(7, .int ((nI j) - 1)), (6, .int (nxd (nxP (lgm g a nc nv) (g 19) nv (stp (lgm g a nc nv) (g 19) nv S k).1 (stp (lgm g a nc nv) (g 19) nv S k).2) nv j)), (5, .int (nI k)), (4, .int (nI (stp (lgm g a nc nv) (g 19) nv S k).2)), (3, .int (nI (stp (lgm g a nc nv) (g 19) nv S k).1)), (0, .ref h), (2, .int (nI p))] [] := by
                intro n_lj
                induction n_lj with
                | zero => intro j hf_lj hj; omega
                | succ n_lj ih_lj =>
                  intro j hf_lj hj
                  refine i_iload B 0 dX9_stop_75 rfl ?_
                  refine i_if_lt B 168 dX9_stop_77 (by decide) (fun h5 => ?_) (fun h5 => ?_)
                  · rw [dn_lt j (by omega)] at h5
                    subst h5
                    have hlo : nxd (nxP (lgm g a nc nv) (g 19) nv (stp (lgm g a nc nv) (g 19) nv S k).1 (stp (lgm g a nc nv) (g 19) nv S k).2) nv 0 = nI (low (nxP (lgm g a nc nv) (g 19) nv (stp (lgm g a nc nv) (g 19) nv S k).1 (stp (lgm g a nc nv) (g 19) nv S k).2) nv 0) := by rw [nxd, Nat.sub_zero, if_neg (by have := (hst k hkp).2.2.1; omega)]
                    have hll := (hst k hkp).2.2.1
                    refine i_Leq (congrArg (fun z_9 => ([(7, .int ((nI 0) - 1)), (6, .int z_9), (5, .int (nI k)), (4, .int (nI (stp (lgm g a nc nv) (g 19) nv S k).2)), (3, .int (nI (stp (lgm g a nc nv) (g 19) nv S k).1)), (0, .ref h), (2, .int (nI p))] : List (Nat × Value))) hlo) ?_
                    refine i_iload_n B 4 dX9_stop_168 rfl ?_
                    refine i_iconst (v := 1) B dX9_stop_169 (by decide) ?_
                    refine i_iload B 1 dX9_stop_170 rfl ?_
                    refine i_ishl B dX9_stop_172 ?_
                    refine i_ixor B dX9_stop_173 ?_
                    refine i_istore_n B [(3, .int ((nI (stp (lgm g a nc nv) (g 19) nv S k).1) ^^^ (1 <<< ((nI (low (nxP (lgm g a nc nv) (g 19) nv (stp (lgm g a nc nv) (g 19) nv S k).1 (stp (lgm g a nc nv) (g 19) nv S k).2) nv 0)) &&& 31)))), (7, .int ((nI 0) - 1)), (6, .int (nI (low (nxP (lgm g a nc nv) (g 19) nv (stp (lgm g a nc nv) (g 19) nv S k).1 (stp (lgm g a nc nv) (g 19) nv S k).2) nv 0))), (5, .int (nI k)), (4, .int (nI (stp (lgm g a nc nv) (g 19) nv S k).2)), (0, .ref h), (2, .int (nI p))] dX9_stop_174 (by decide) rfl ?_
                    refine i_iload B 2 dX9_stop_175 rfl ?_
                    refine i_istore B [(4, .int (nI (low (nxP (lgm g a nc nv) (g 19) nv (stp (lgm g a nc nv) (g 19) nv S k).1 (stp (lgm g a nc nv) (g 19) nv S k).2) nv 0))), (3, .int ((nI (stp (lgm g a nc nv) (g 19) nv S k).1) ^^^ (1 <<< ((nI (low (nxP (lgm g a nc nv) (g 19) nv (stp (lgm g a nc nv) (g 19) nv S k).1 (stp (lgm g a nc nv) (g 19) nv S k).2) nv 0)) &&& 31)))), (7, .int ((nI 0) - 1)), (6, .int (nI (low (nxP (lgm g a nc nv) (g 19) nv (stp (lgm g a nc nv) (g 19) nv S k).1 (stp (lgm g a nc nv) (g 19) nv S k).2) nv 0))), (5, .int (nI k)), (0, .ref h), (2, .int (nI p))] dX9_stop_177 (by decide) rfl ?_
                    refine i_iinc (v := (nI (k + 1))) B 4 [(5, .int (nI (k + 1))), (4, .int (nI (low (nxP (lgm g a nc nv) (g 19) nv (stp (lgm g a nc nv) (g 19) nv S k).1 (stp (lgm g a nc nv) (g 19) nv S k).2) nv 0))), (3, .int ((nI (stp (lgm g a nc nv) (g 19) nv S k).1) ^^^ (1 <<< ((nI (low (nxP (lgm g a nc nv) (g 19) nv (stp (lgm g a nc nv) (g 19) nv S k).1 (stp (lgm g a nc nv) (g 19) nv S k).2) nv 0)) &&& 31)))), (7, .int ((nI 0) - 1)), (6, .int (nI (low (nxP (lgm g a nc nv) (g 19) nv (stp (lgm g a nc nv) (g 19) nv S k).1 (stp (lgm g a nc nv) (g 19) nv S k).2) nv 0))), (0, .ref h), (2, .int (nI p))] dX9_stop_179 rfl ((nI_1 _)) (by decide) rfl ?_
                    refine i_goto B 57 dX9_stop_182 (by decide) ?_
                    refine i_locals [0, 1, 2, 5, 6] (L' := [(5, .int (nI (k + 1))), (4, .int (nI (low (nxP (lgm g a nc nv) (g 19) nv (stp (lgm g a nc nv) (g 19) nv S k).1 (stp (lgm g a nc nv) (g 19) nv S k).2) nv 0))), (3, .int ((nI (stp (lgm g a nc nv) (g 19) nv S k).1) ^^^ (1 <<< ((nI (low (nxP (lgm g a nc nv) (g 19) nv (stp (lgm g a nc nv) (g 19) nv S k).1 (stp (lgm g a nc nv) (g 19) nv S k).2) nv 0)) &&& 31)))), (0, .ref h), (2, .int (nI p))]) rfl ?_
                    refine i_Leq (congrArg (fun z_9 => ([(5, .int (nI (k + 1))), (4, .int z_9), (3, .int ((nI (stp (lgm g a nc nv) (g 19) nv S k).1) ^^^ (1 <<< ((nI (low (nxP (lgm g a nc nv) (g 19) nv (stp (lgm g a nc nv) (g 19) nv S k).1 (stp (lgm g a nc nv) (g 19) nv S k).2) nv 0)) &&& 31)))), (0, .ref h), (2, .int (nI p))] : List (Nat × Value))) (show ((nI (low (nxP (lgm g a nc nv) (g 19) nv (stp (lgm g a nc nv) (g 19) nv S k).1 (stp (lgm g a nc nv) (g 19) nv S k).2) nv 0)) : Int32) = (nI (stp (lgm g a nc nv) (g 19) nv S (k + 1)).2) from by rw [stp])) ?_
                    refine i_Leq (congrArg (fun z_9 => ([(5, .int (nI (k + 1))), (4, .int (nI (stp (lgm g a nc nv) (g 19) nv S (k + 1)).2)), (3, .int z_9), (0, .ref h), (2, .int (nI p))] : List (Nat × Value))) (show (((nI (stp (lgm g a nc nv) (g 19) nv S k).1) ^^^ (1 <<< ((nI (low (nxP (lgm g a nc nv) (g 19) nv (stp (lgm g a nc nv) (g 19) nv S k).1 (stp (lgm g a nc nv) (g 19) nv S k).2) nv 0)) &&& 31))) : Int32) = (nI (stp (lgm g a nc nv) (g 19) nv S (k + 1)).1) from by rw [stp, shl1 _ (by omega), nx_xor])) ?_
                    exact ih_lk (k + 1) (by omega) (by omega)
                  · rw [dn_lt j (by omega)] at h5
                    obtain ⟨b, rfl⟩ : ∃ b, j = b + 1 := ⟨j - 1, by omega⟩
                    refine i_Leq (congrArg (fun z_9 => ([(7, .int z_9), (6, .int (nxd (nxP (lgm g a nc nv) (g 19) nv (stp (lgm g a nc nv) (g 19) nv S k).1 (stp (lgm g a nc nv) (g 19) nv S k).2) nv (b + 1))), (5, .int (nI k)), (4, .int (nI (stp (lgm g a nc nv) (g 19) nv S k).2)), (3, .int (nI (stp (lgm g a nc nv) (g 19) nv S k).1)), (0, .ref h), (2, .int (nI p))] : List (Nat × Value))) (show ((nI (b + 1)) - 1 : Int32) = (nI b) from nI_pred b)) ?_
                    refine i_iload_n B 4 dX9_stop_80 rfl ?_
                    refine i_iload B 0 dX9_stop_81 rfl ?_
                    refine i_ishr B dX9_stop_83 ?_
                    refine i_iconst (v := 1) B dX9_stop_84 (by decide) ?_
                    refine i_iand B dX9_stop_85 ?_
                    refine i_iconst (v := 1) B dX9_stop_86 (by decide) ?_
                    refine i_icmp_ne B 145 dX9_stop_87 (by decide) (fun h6 => ?_) (fun h6 => ?_)
                    · rw [bit_iff (by omega) (by omega)] at h6
                      have h6d := decide_eq_false h6
                      refine i_iconst (v := 0) B dX9_stop_145 (by decide) ?_
                      refine i_istore B [(8, .int 0), (7, .int (nI b)), (6, .int (nxd (nxP (lgm g a nc nv) (g 19) nv (stp (lgm g a nc nv) (g 19) nv S k).1 (stp (lgm g a nc nv) (g 19) nv S k).2) nv (b + 1))), (5, .int (nI k)), (4, .int (nI (stp (lgm g a nc nv) (g 19) nv S k).2)), (3, .int (nI (stp (lgm g a nc nv) (g 19) nv S k).1)), (0, .ref h), (2, .int (nI p))] dX9_stop_146 (by decide) rfl ?_
                      refine i_iload B 0 dX9_stop_148 rfl ?_
                      refine i_if_eq B 158 dX9_stop_150 (by decide) (fun _ => ?_) (fun h7 => absurd h7 (by decide))
                      refine i_iload B 2 dX9_stop_158 rfl ?_
                      refine i_istore B [(6, .int (nxd (nxP (lgm g a nc nv) (g 19) nv (stp (lgm g a nc nv) (g 19) nv S k).1 (stp (lgm g a nc nv) (g 19) nv S k).2) nv (b + 1))), (8, .int 0), (7, .int (nI b)), (5, .int (nI k)), (4, .int (nI (stp (lgm g a nc nv) (g 19) nv S k).2)), (3, .int (nI (stp (lgm g a nc nv) (g 19) nv S k).1)), (0, .ref h), (2, .int (nI p))] dX9_stop_160 (by decide) rfl ?_
                      refine i_iinc (v := ((nI b) - 1)) B 2 [(7, .int ((nI b) - 1)), (6, .int (nxd (nxP (lgm g a nc nv) (g 19) nv (stp (lgm g a nc nv) (g 19) nv S k).1 (stp (lgm g a nc nv) (g 19) nv S k).2) nv (b + 1))), (8, .int 0), (5, .int (nI k)), (4, .int (nI (stp (lgm g a nc nv) (g 19) nv S k).2)), (3, .int (nI (stp (lgm g a nc nv) (g 19) nv S k).1)), (0, .ref h), (2, .int (nI p))] dX9_stop_162 rfl (dec1 _) (by decide) rfl ?_
                      refine i_goto B 75 dX9_stop_165 (by decide) ?_
                      refine i_locals [0, 1, 3, 4, 5, 6, 7] (L' := [(7, .int ((nI b) - 1)), (6, .int (nxd (nxP (lgm g a nc nv) (g 19) nv (stp (lgm g a nc nv) (g 19) nv S k).1 (stp (lgm g a nc nv) (g 19) nv S k).2) nv (b + 1))), (5, .int (nI k)), (4, .int (nI (stp (lgm g a nc nv) (g 19) nv S k).2)), (3, .int (nI (stp (lgm g a nc nv) (g 19) nv S k).1)), (0, .ref h), (2, .int (nI p))]) rfl ?_
                      refine i_Leq (congrArg (fun z_9 => ([(7, .int ((nI b) - 1)), (6, .int z_9), (5, .int (nI k)), (4, .int (nI (stp (lgm g a nc nv) (g 19) nv S k).2)), (3, .int (nI (stp (lgm g a nc nv) (g 19) nv S k).1)), (0, .ref h), (2, .int (nI p))] : List (Nat × Value))) (show ((nxd (nxP (lgm g a nc nv) (g 19) nv (stp (lgm g a nc nv) (g 19) nv S k).1 (stp (lgm g a nc nv) (g 19) nv S k).2) nv (b + 1)) : Int32) = (nxd (nxP (lgm g a nc nv) (g 19) nv (stp (lgm g a nc nv) (g 19) nv S k).1 (stp (lgm g a nc nv) (g 19) nv S k).2) nv b) from by rw [nxd_st (b := b) (by omega) hnv, nxP]; simp only [h6, decide_true, decide_false, Bool.not_true, Bool.not_false, Bool.true_and, Bool.false_and, Bool.and_true, Bool.and_false, Bool.true_or, Bool.or_true, Bool.false_or, Bool.or_false, bI_t, bI_f, if_true, if_false, ite_true, ite_false, Bool.false_eq_true, Bool.true_eq_false, eq_self, reduceIte, true_or, or_true, false_or, or_false, and_true, true_and, and_false, false_and, not_true_eq_false, not_false_eq_true, decide_eq_true_eq, decide_eq_false_iff_not])) ?_
                      exact ih_lj b (by omega) (by omega)
                    · rw [bit_iff (by omega) (by omega)] at h6
                      have h6d := decide_eq_true h6
                      refine i_aload_n B 5 dX9_stop_90 rfl ?_
                      refine i_get (v := .ref (q 30)) B flX9_75 0 rfl rfl dX9_stop_91 ?_
                      refine i_bipush (v := 11) B dX9_stop_94 (by decide) ?_
                      refine i_iload B 3 dX9_stop_96 rfl ?_
                      refine i_imul B dX9_stop_98 ?_
                      refine i_iload B 0 dX9_stop_99 rfl ?_
                      refine i_iadd B dX9_stop_101 ?_
                      refine i_ialdN B 19 (11 * (stp (lgm g a nc nv) (g 19) nv S k).2 + b) rfl (by rw [show (11 : Int32) = nI 11 from rfl, pk_mul, nI_add]) (by omega) (by decide) dX9_stop_102 ?_
                      refine i_val (v' := .int (f9 (11 * (stp (lgm g a nc nv) (g 19) nv S k).2 + b))) rfl ?_
                      refine i_val (v' := .int (lgm g a nc nv (stp (lgm g a nc nv) (g 19) nv S k).2 b)) (congrArg Value.int (hf9 (stp (lgm g a nc nv) (g 19) nv S k).2 b (by omega) (by omega))) ?_
                      refine i_aload_n B 5 dX9_stop_103 rfl ?_
                      refine i_get (v := .int (g 19)) B flX9_187 0 rfl rfl dX9_stop_104 ?_
                      refine i_iadd B dX9_stop_107 ?_
                      refine i_aload_n B 5 dX9_stop_108 rfl ?_
                      refine i_get (v := .ref (q 31)) B flX9_78 0 rfl rfl dX9_stop_109 ?_
                      refine i_bipush (v := 11) B dX9_stop_112 (by decide) ?_
                      refine i_iload_n B 4 dX9_stop_114 rfl ?_
                      refine i_iconst (v := 1) B dX9_stop_115 (by decide) ?_
                      refine i_iload B 0 dX9_stop_116 rfl ?_
                      refine i_ishl B dX9_stop_118 ?_
                      refine i_ixor B dX9_stop_119 ?_
                      refine i_imul B dX9_stop_120 ?_
                      refine i_iload B 0 dX9_stop_121 rfl ?_
                      refine i_iadd B dX9_stop_123 ?_
                      refine i_ialdN B 20 (11 * ((stp (lgm g a nc nv) (g 19) nv S k).1 ^^^ 2 ^ b) + b) rfl (by rw [shl1 b (by omega), nx_xor, show (11 : Int32) = nI 11 from rfl, pk_mul, nI_add]) (by have := bit_lt h6; omega) (by decide) dX9_stop_124 ?_
                      refine i_val (v' := .int (r9 (11 * ((stp (lgm g a nc nv) (g 19) nv S k).1 ^^^ 2 ^ b) + b))) rfl ?_
                      refine i_val (v' := .int (Rr (lgm g a nc nv) (g 19) nv ((stp (lgm g a nc nv) (g 19) nv S k).1 ^^^ 2 ^ b) b)) (congrArg Value.int (hr9 ((stp (lgm g a nc nv) (g 19) nv S k).1 ^^^ 2 ^ b) b (by have := bit_lt h6; omega) (by omega))) ?_
                      refine i_iadd B dX9_stop_125 ?_
                      refine i_aload_n B 5 dX9_stop_126 rfl ?_
                      refine i_get (v := .ref (q 31)) B flX9_78 0 rfl rfl dX9_stop_127 ?_
                      refine i_bipush (v := 11) B dX9_stop_130 (by decide) ?_
                      refine i_iload_n B 4 dX9_stop_132 rfl ?_
                      refine i_imul B dX9_stop_133 ?_
                      refine i_iload B 3 dX9_stop_134 rfl ?_
                      refine i_iadd B dX9_stop_136 ?_
                      refine i_ialdN B 20 (11 * (stp (lgm g a nc nv) (g 19) nv S k).1 + (stp (lgm g a nc nv) (g 19) nv S k).2) rfl (by rw [show (11 : Int32) = nI 11 from rfl, pk_mul, nI_add]) (by omega) (by decide) dX9_stop_137 ?_
                      refine i_val (v' := .int (r9 (11 * (stp (lgm g a nc nv) (g 19) nv S k).1 + (stp (lgm g a nc nv) (g 19) nv S k).2))) rfl ?_
                      refine i_val (v' := .int (Rr (lgm g a nc nv) (g 19) nv (stp (lgm g a nc nv) (g 19) nv S k).1 (stp (lgm g a nc nv) (g 19) nv S k).2)) (congrArg Value.int (hr9 (stp (lgm g a nc nv) (g 19) nv S k).1 (stp (lgm g a nc nv) (g 19) nv S k).2 hkl (by omega))) ?_
                      refine i_icmp_ne B 145 dX9_stop_138 (by decide) (fun h8 => ?_) (fun h8 => ?_)
                      · have h8d := decide_eq_false h8
                        refine i_iconst (v := 0) B dX9_stop_145 (by decide) ?_
                        refine i_istore B [(8, .int 0), (7, .int (nI b)), (6, .int (nxd (nxP (lgm g a nc nv) (g 19) nv (stp (lgm g a nc nv) (g 19) nv S k).1 (stp (lgm g a nc nv) (g 19) nv S k).2) nv (b + 1))), (5, .int (nI k)), (4, .int (nI (stp (lgm g a nc nv) (g 19) nv S k).2)), (3, .int (nI (stp (lgm g a nc nv) (g 19) nv S k).1)), (0, .ref h), (2, .int (nI p))] dX9_stop_146 (by decide) rfl ?_
                        refine i_iload B 0 dX9_stop_148 rfl ?_
                        refine i_if_eq B 158 dX9_stop_150 (by decide) (fun _ => ?_) (fun h9 => absurd h9 (by decide))
                        refine i_iload B 2 dX9_stop_158 rfl ?_
                        refine i_istore B [(6, .int (nxd (nxP (lgm g a nc nv) (g 19) nv (stp (lgm g a nc nv) (g 19) nv S k).1 (stp (lgm g a nc nv) (g 19) nv S k).2) nv (b + 1))), (8, .int 0), (7, .int (nI b)), (5, .int (nI k)), (4, .int (nI (stp (lgm g a nc nv) (g 19) nv S k).2)), (3, .int (nI (stp (lgm g a nc nv) (g 19) nv S k).1)), (0, .ref h), (2, .int (nI p))] dX9_stop_160 (by decide) rfl ?_
                        refine i_iinc (v := ((nI b) - 1)) B 2 [(7, .int ((nI b) - 1)), (6, .int (nxd (nxP (lgm g a nc nv) (g 19) nv (stp (lgm g a nc nv) (g 19) nv S k).1 (stp (lgm g a nc nv) (g 19) nv S k).2) nv (b + 1))), (8, .int 0), (5, .int (nI k)), (4, .int (nI (stp (lgm g a nc nv) (g 19) nv S k).2)), (3, .int (nI (stp (lgm g a nc nv) (g 19) nv S k).1)), (0, .ref h), (2, .int (nI p))] dX9_stop_162 rfl (dec1 _) (by decide) rfl ?_
                        refine i_goto B 75 dX9_stop_165 (by decide) ?_
                        refine i_locals [0, 1, 3, 4, 5, 6, 7] (L' := [(7, .int ((nI b) - 1)), (6, .int (nxd (nxP (lgm g a nc nv) (g 19) nv (stp (lgm g a nc nv) (g 19) nv S k).1 (stp (lgm g a nc nv) (g 19) nv S k).2) nv (b + 1))), (5, .int (nI k)), (4, .int (nI (stp (lgm g a nc nv) (g 19) nv S k).2)), (3, .int (nI (stp (lgm g a nc nv) (g 19) nv S k).1)), (0, .ref h), (2, .int (nI p))]) rfl ?_
                        refine i_Leq (congrArg (fun z_9 => ([(7, .int ((nI b) - 1)), (6, .int z_9), (5, .int (nI k)), (4, .int (nI (stp (lgm g a nc nv) (g 19) nv S k).2)), (3, .int (nI (stp (lgm g a nc nv) (g 19) nv S k).1)), (0, .ref h), (2, .int (nI p))] : List (Nat × Value))) (show ((nxd (nxP (lgm g a nc nv) (g 19) nv (stp (lgm g a nc nv) (g 19) nv S k).1 (stp (lgm g a nc nv) (g 19) nv S k).2) nv (b + 1)) : Int32) = (nxd (nxP (lgm g a nc nv) (g 19) nv (stp (lgm g a nc nv) (g 19) nv S k).1 (stp (lgm g a nc nv) (g 19) nv S k).2) nv b) from by rw [nxd_st (b := b) (by omega) hnv, nxP]; simp only [h6, h8d, decide_true, decide_false, Bool.not_true, Bool.not_false, Bool.true_and, Bool.false_and, Bool.and_true, Bool.and_false, Bool.true_or, Bool.or_true, Bool.false_or, Bool.or_false, bI_t, bI_f, if_true, if_false, ite_true, ite_false, Bool.false_eq_true, Bool.true_eq_false, eq_self, reduceIte, true_or, or_true, false_or, or_false, and_true, true_and, and_false, false_and, not_true_eq_false, not_false_eq_true, decide_eq_true_eq, decide_eq_false_iff_not])) ?_
                        exact ih_lj b (by omega) (by omega)
                      · have h8d := decide_eq_true h8
                        refine i_iconst (v := 1) B dX9_stop_141 (by decide) ?_
                        refine i_goto B 146 dX9_stop_142 (by decide) ?_
                        refine i_istore B [(8, .int 1), (7, .int (nI b)), (6, .int (nxd (nxP (lgm g a nc nv) (g 19) nv (stp (lgm g a nc nv) (g 19) nv S k).1 (stp (lgm g a nc nv) (g 19) nv S k).2) nv (b + 1))), (5, .int (nI k)), (4, .int (nI (stp (lgm g a nc nv) (g 19) nv S k).2)), (3, .int (nI (stp (lgm g a nc nv) (g 19) nv S k).1)), (0, .ref h), (2, .int (nI p))] dX9_stop_146 (by decide) rfl ?_
                        refine i_iload B 0 dX9_stop_148 rfl ?_
                        refine i_if_eq B 158 dX9_stop_150 (by decide) (fun h10 => absurd h10 (by decide)) (fun _ => ?_)
                        refine i_iload B 1 dX9_stop_153 rfl ?_
                        refine i_goto B 160 dX9_stop_155 (by decide) ?_
                        refine i_istore B [(6, .int (nI b)), (8, .int 1), (7, .int (nI b)), (5, .int (nI k)), (4, .int (nI (stp (lgm g a nc nv) (g 19) nv S k).2)), (3, .int (nI (stp (lgm g a nc nv) (g 19) nv S k).1)), (0, .ref h), (2, .int (nI p))] dX9_stop_160 (by decide) rfl ?_
                        refine i_iinc (v := ((nI b) - 1)) B 2 [(7, .int ((nI b) - 1)), (6, .int (nI b)), (8, .int 1), (5, .int (nI k)), (4, .int (nI (stp (lgm g a nc nv) (g 19) nv S k).2)), (3, .int (nI (stp (lgm g a nc nv) (g 19) nv S k).1)), (0, .ref h), (2, .int (nI p))] dX9_stop_162 rfl (dec1 _) (by decide) rfl ?_
                        refine i_goto B 75 dX9_stop_165 (by decide) ?_
                        refine i_locals [0, 1, 3, 4, 5, 6, 7] (L' := [(7, .int ((nI b) - 1)), (6, .int (nI b)), (5, .int (nI k)), (4, .int (nI (stp (lgm g a nc nv) (g 19) nv S k).2)), (3, .int (nI (stp (lgm g a nc nv) (g 19) nv S k).1)), (0, .ref h), (2, .int (nI p))]) rfl ?_
                        refine i_Leq (congrArg (fun z_9 => ([(7, .int ((nI b) - 1)), (6, .int z_9), (5, .int (nI k)), (4, .int (nI (stp (lgm g a nc nv) (g 19) nv S k).2)), (3, .int (nI (stp (lgm g a nc nv) (g 19) nv S k).1)), (0, .ref h), (2, .int (nI p))] : List (Nat × Value))) (show ((nI b) : Int32) = (nxd (nxP (lgm g a nc nv) (g 19) nv (stp (lgm g a nc nv) (g 19) nv S k).1 (stp (lgm g a nc nv) (g 19) nv S k).2) nv b) from by rw [nxd_st (b := b) (by omega) hnv, nxP]; simp only [h6, h8d, decide_true, decide_false, Bool.not_true, Bool.not_false, Bool.true_and, Bool.false_and, Bool.and_true, Bool.and_false, Bool.true_or, Bool.or_true, Bool.false_or, Bool.or_false, bI_t, bI_f, if_true, if_false, ite_true, ite_false, Bool.false_eq_true, Bool.true_eq_false, eq_self, reduceIte, true_or, or_true, false_or, or_false, and_true, true_and, and_false, false_and, not_true_eq_false, not_false_eq_true, decide_eq_true_eq, decide_eq_false_iff_not])) ?_
                        exact ih_lj b (by omega) (by omega)
              refine i_Leq (congrArg (fun z_9 => ([(7, .int z_9), (6, .int (-9)), (5, .int (nI k)), (4, .int (nI (stp (lgm g a nc nv) (g 19) nv S k).2)), (3, .int (nI (stp (lgm g a nc nv) (g 19) nv S k).1)), (0, .ref h), (2, .int (nI p))] : List (Nat × Value))) (show (((g 8) - 1) : Int32) = ((nI nv) - 1) from by rw [hv])) ?_
              refine i_Leq (congrArg (fun z_9 => ([(7, .int ((nI nv) - 1)), (6, .int z_9), (5, .int (nI k)), (4, .int (nI (stp (lgm g a nc nv) (g 19) nv S k).2)), (3, .int (nI (stp (lgm g a nc nv) (g 19) nv S k).1)), (0, .ref h), (2, .int (nI p))] : List (Nat × Value))) (show ((-9) : Int32) = (nxd (nxP (lgm g a nc nv) (g 19) nv (stp (lgm g a nc nv) (g 19) nv S k).1 (stp (lgm g a nc nv) (g 19) nv S k).2) nv nv) from (nxd_top _ _).symm)) ?_
              exact lj (nv + 1) nv (by omega) (Nat.le_refl _)
        refine i_locals [0, 1, 2, 3, 5] (L' := [(5, .int 0), (4, .int 10), (3, .int (nI S)), (0, .ref h), (2, .int (nI p))]) rfl ?_
        refine i_Leq (congrArg (fun z_9 => ([(5, .int z_9), (4, .int 10), (3, .int (nI S)), (0, .ref h), (2, .int (nI p))] : List (Nat × Value))) (show (0 : Int32) = (nI 0) from rfl)) ?_
        refine i_Leq (congrArg (fun z_9 => ([(5, .int (nI 0)), (4, .int z_9), (3, .int (nI S)), (0, .ref h), (2, .int (nI p))] : List (Nat × Value))) (show (10 : Int32) = (nI (stp (lgm g a nc nv) (g 19) nv S 0).2) from rfl)) ?_
        refine i_Leq (congrArg (fun z_9 => ([(5, .int (nI 0)), (4, .int (nI (stp (lgm g a nc nv) (g 19) nv S 0).2)), (3, .int z_9), (0, .ref h), (2, .int (nI p))] : List (Nat × Value))) (show ((nI S) : Int32) = (nI (stp (lgm g a nc nv) (g 19) nv S 0).1) from rfl)) ?_
        exact lk (p + 2) 0 (by omega) (Nat.zero_le _)
      · replace h3 := bI_0.mp h3
        refine i_bipush (v := (-9)) B dX9_stop_45 (by decide) ?_
        exact ret _ _ _ (f9, r9) rfl dX9_stop_47 (by simp only [stoF, ix_nI (show S < 2 ^ 31 by omega), h1, h2, h3, decide_true, decide_false, Bool.not_true, Bool.not_false, Bool.true_and, Bool.false_and, Bool.and_true, Bool.and_false, Bool.true_or, Bool.or_true, Bool.false_or, Bool.or_false, Bool.and_self, Bool.or_self, bI_t, bI_f, if_true, if_false, ite_true, ite_false, Bool.false_eq_true, Bool.true_eq_false, eq_self, reduceIte, true_or, or_true, false_or, or_false, and_true, true_and, and_false, false_and, not_true_eq_false, not_false_eq_true, decide_eq_true_eq, decide_eq_false_iff_not])
  · replace h1 := bI_n.mp h1
    refine i_iconst (v := (-1)) B dX9_stop_13 (by decide) ?_
    exact ret _ _ _ ((a 30), (a 31)) rfl dX9_stop_14 (by simp only [stoF, h1, decide_true, decide_false, Bool.not_true, Bool.not_false, Bool.true_and, Bool.false_and, Bool.and_true, Bool.and_false, Bool.true_or, Bool.or_true, Bool.false_or, Bool.or_false, Bool.and_self, Bool.or_self, bI_t, bI_f, if_true, if_false, ite_true, ite_false, Bool.false_eq_true, Bool.true_eq_false, eq_self, reduceIte, true_or, or_true, false_or, or_false, and_true, true_and, and_false, false_and, not_true_eq_false, not_false_eq_true, decide_eq_true_eq, decide_eq_false_iff_not])
