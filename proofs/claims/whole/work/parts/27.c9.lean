theorem bct_pc : ∀ S, S < 1024 → bct (nI S) = nI (pcn S 10) := by decide +kernel
theorem i_lt_of {a b c : Int32} (h1 : ¬ b < a) (h2 : b < c) : a < c := by rw [Int32.lt_iff_toInt_lt] at *; omega
theorem i_lt_irr (a : Int32) : ¬ a < a := by rw [Int32.lt_iff_toInt_lt]; omega
theorem i_lt_ne {a b : Int32} (h1 : ¬ a < b) (h2 : a ≠ b) : b < a := by
  have : a.toInt ≠ b.toInt := fun e => h2 (Int32.toInt_inj.mp e)
  rw [Int32.lt_iff_toInt_lt] at *
  omega
theorem i_nlt {a b c : Int32} (h1 : ¬ b < a) (h2 : ¬ c < b) : ¬ c < a := by rw [Int32.lt_iff_toInt_lt] at *; omega
/-- the least way is no more than any of those it is taken from -/
theorem bst_min {lg : Nat → Nat → Int32} {hov : Int32} {T : Nat → Nat → Int32} {S x : Nat} (hS : S ≠ 0) : ∀ n, ¬ 1000000 < bst lg hov T S x n ∧ ∀ b, b < n → S.testBit b = true → ¬ lg x b + hov + T (S ^^^ 2 ^ b) b < bst lg hov T S x n := by
  intro n
  induction n with
  | zero =>
    rw [bst, if_neg (by simp [hS])]
    exact ⟨by decide, fun b hb => absurd hb (by omega)⟩
  | succ n ih =>
    rw [bst]
    by_cases e : S.testBit n = true
    · rw [if_pos e]
      by_cases l : lg x n + hov + T (S ^^^ 2 ^ n) n < bst lg hov T S x n
      · rw [if_pos l]
        refine ⟨fun q => ?_, fun b hb hbt => ?_⟩
        · have h1 := ih.1
          rw [Int32.lt_iff_toInt_lt] at *
          omega
        · by_cases q : b = n
          · subst q; exact i_lt_irr _
          · have h1 := ih.2 b (by omega) hbt
            rw [Int32.lt_iff_toInt_lt] at *
            omega
      · rw [if_neg l]
        refine ⟨ih.1, fun b hb hbt => ?_⟩
        by_cases q : b = n
        · subst q; exact l
        · exact ih.2 b (by omega) hbt
    · rw [if_neg e]
      refine ⟨ih.1, fun b hb hbt => ?_⟩
      by_cases q : b = n
      · subst q; exact absurd hbt e
      · exact ih.2 b (by omega) hbt

theorem low_P {P : Nat → Bool} : ∀ (n b : Nat), b + n ≤ 10 → low P n b < b + n → P (low P n b) = true := by
  intro n
  induction n with
  | zero => intro b hb h; rw [low] at h; omega
  | succ n ih =>
    intro b hb h
    rw [low] at h ⊢
    by_cases e : P b = true
    · rw [if_pos e]; exact e
    · rw [if_neg e] at h ⊢
      exact ih (b + 1) (by omega) (by omega)
theorem low_first {P : Nat → Bool} : ∀ (n b c : Nat), b ≤ c → c < low P n b → c < b + n → P c = false := by
  intro n
  induction n with
  | zero => intro b c h1 h2 h3; omega
  | succ n ih =>
    intro b c h1 h2 h3
    rw [low] at h2
    by_cases e : P b = true
    · rw [if_pos e] at h2; omega
    · rw [if_neg e] at h2
      by_cases q : c = b
      · subst q; simpa using e
      · exact ih (b + 1) c (by omega) h2 (by omega)
/-- the first of the like cheap ones is the lowest that the ROUND may go on with -/
theorem nvw_low {lc tl c : Nat → Int32} {S x m : Nat} {mv : Int32} (hm : mv < 1000000) (hv : ∀ b, b < 10 → S.testBit b = true → lc (x * 11 + b) + tl (S * 10 + b) = c b) (hmin : ∀ b, b < 10 → S.testBit b = true → ¬ c b < mv) (hb : S.testBit m = true) (hc : c m = mv) (hfst : ∀ b, b < m → S.testBit b = true → c b ≠ mv) : ∀ n, n ≤ 10 → if m < n then nvw lc tl S x n = (m, mv) else mv < (nvw lc tl S x n).2 := by
  intro n
  induction n with
  | zero => intro _; rw [if_neg (by omega)]; exact hm
  | succ n ih =>
    intro hn
    have i1 := ih (by omega)
    rw [nvw]
    by_cases e : S.testBit n = true
    · rw [hv n (by omega) e]
      by_cases k : m < n
      · rw [if_pos k] at i1
        rw [if_pos (by omega), i1, if_neg]
        simp only [Bool.and_eq_true, decide_eq_true_eq, not_and]
        exact fun _ => hmin n (by omega) e
      · rw [if_neg k] at i1
        by_cases z : m = n
        · subst z
          rw [if_pos (by omega), hc, if_pos]
          simp only [Bool.and_eq_true, decide_eq_true_eq]
          exact ⟨e, i1⟩
        · rw [if_neg (by omega)]
          have h1 : mv < c n := i_lt_ne (hmin n (by omega) e) (hfst n (by omega) e)
          split
          · exact h1
          · exact i1
    · have e2 : (S.testBit n && decide (lc (x * 11 + n) + tl (S * 10 + n) < (nvw lc tl S x n).2)) = false := by
        rw [show S.testBit n = false by simpa using e, Bool.false_and]
      rw [e2, if_neg (by decide : ¬ false = true)]
      by_cases k : m < n
      · rw [if_pos k] at i1; rw [if_pos (by omega)]; exact i1
      · rw [if_neg k] at i1
        by_cases z : m = n
        · subst z; exact absurd hb e
        · rw [if_neg (by omega)]; exact i1
theorem nv_eq {lg : Nat → Nat → Int32} {hov : Int32} {nv S x : Nat} {lc tl : Nat → Int32} (hS : S < 2 ^ nv) (hnv : nv ≤ 10) (hlow : low (nxP lg hov nv S x) nv 0 < nv) (hmv : Rr lg hov nv S x < 1000000) (hv : ∀ b, b < 10 → S.testBit b = true → lc (x * 11 + b) = lg x b ∧ tl (S * 10 + b) = hov + Rr lg hov nv (S ^^^ 2 ^ b) b) : (nvw lc tl S x 10).1 = low (nxP lg hov nv S x) nv 0 := by
  have hP := low_P (P := nxP lg hov nv S x) nv 0 (by omega) (by omega)
  have hF := fun c h => low_first (P := nxP lg hov nv S x) nv 0 c (by omega) h
  generalize low (nxP lg hov nv S x) nv 0 = m at hlow hP hF ⊢
  unfold nxP at hP
  rw [Bool.and_eq_true, decide_eq_true_eq] at hP
  have hS0 : S ≠ 0 := bit_ne hP.1
  have hmn := bst_min (lg := lg) (hov := hov) (T := Rr lg hov nv) (x := x) hS0 nv
  rw [← Rr_eq] at hmn
  have hbt : ∀ b, S.testBit b = true → b < nv := fun b h => by
    by_cases e : b < nv
    · exact e
    · rw [Nat.testBit_lt_two_pow (Nat.lt_of_lt_of_le hS (Nat.pow_le_pow_right (by omega) (by omega)))] at h
      cases h
  have key := nvw_low (lc := lc) (tl := tl) (c := fun b => lg x b + hov + Rr lg hov nv (S ^^^ 2 ^ b) b) (m := m) hmv (fun b hb h => by rw [(hv b hb h).1, (hv b hb h).2, Int32.add_assoc]) (fun b hb h => hmn.2 b (hbt b h) h) hP.1 hP.2 (fun b hb h => by
    have := hF b hb (by omega)
    unfold nxP at this
    rw [h, Bool.true_and, decide_eq_false_iff_not] at this
    exact this) 10 (Nat.le_refl _)
  rw [if_pos (by omega)] at key
  rw [key]
theorem has_rnd {lg : Nat → Nat → Int32} {hov : Int32} {nv S : Nat} {rd : Nat → Int32} (h : S ≠ 0 → rd S = Rr lg hov nv S 10) : (!decide (S = 0) && decide (rd S < 1000000)) = decide (rnd lg hov nv S < 1000000) := by
  rw [rnd]
  by_cases e : S = 0
  · subst e
    have q : ¬ (1000000 : Int32) < 1000000 := i_lt_irr _
    simp [q]
  · rw [h e]
    simp [e]
theorem wit_lo {p : Int32} {n : Nat} (h : p < 0) : wit p 0 (nI n - 1) = false := by rw [wit, decide_eq_true h]; rfl
theorem wit_hi {p : Int32} {n : Nat} (hn : n ≤ 100) (h0 : ¬ p < 0) (h : ¬ p < nI n) : wit p 0 (nI n - 1) = false := by
  cases e : wit p 0 (nI n - 1)
  · rfl
  · obtain ⟨j, hj, rfl⟩ := wit_ix hn e
    rw [nI_ltI (by omega) (by omega)] at h
    exact absurd hj h
theorem lt_ix {p : Int32} {n : Nat} (hn : n ≤ 100) (h0 : ¬ p < 0) (h : p < nI n) : ∃ j, j < n ∧ p = nI j := by
  obtain ⟨j, hj, rfl⟩ := nI_of h0
  rw [nI_ltI (by omega) (by omega)] at h
  exact ⟨j, h, rfl⟩
def viwF (lg : Nat → Nat → Int32) (hov : Int32) (nv S : Nat) (p : Int32) : Int32 := if (!decide (rnd lg hov nv S < 1000000) || !wit p 0 (nI (pcn S 10) - 1)) = true then -9 else nI (stp lg hov nv S (ix p + 1)).2
/-- a part of the way is a part of the set -/
theorem stp_sub {lg : Nat → Nat → Int32} {hov : Int32} {nv S : Nat} (hnv : nv ≤ 10) (hok : StOK lg hov nv S) : ∀ k, k ≤ pcn S 10 → (stp lg hov nv S k).1 &&& S = (stp lg hov nv S k).1 ∧ ((stp lg hov nv S k).2 = 10 ∨ (S.testBit (stp lg hov nv S k).2 = true ∧ (stp lg hov nv S k).1.testBit (stp lg hov nv S k).2 = false)) := by
  intro k
  induction k with
  | zero => intro _; exact ⟨Nat.and_self S, Or.inl rfl⟩
  | succ k ih =>
    intro hk
    obtain ⟨i1, i2⟩ := ih (by omega)
    obtain ⟨h1, h2, h3, -⟩ := hok k (by omega)
    have hP := low_P (P := nxP lg hov nv (stp lg hov nv S k).1 (stp lg hov nv S k).2) nv 0 (by omega) (by omega)
    unfold nxP at hP
    rw [Bool.and_eq_true] at hP
    have hb := hP.1
    rw [stp]
    exact ⟨part_xor i1 hb, Or.inr ⟨part_bit i1 hb, xor_self_bit hb⟩⟩

theorem part_tr {P S R : Nat} (h1 : P &&& S = P) (h2 : S &&& R = S) : P &&& R = P := by rw [← h1, Nat.and_assoc, h2]

set_option maxHeartbeats 4000000 in
set_option maxRecDepth 100000 in
theorem k_X6_viewAt (l : Launch) (E : ED) (q : Nat → Nat) (g : Nat → Int32) (a : Nat → Nat → Int32) (s : Nat → Int32) (t : Nat → Nat → Int32) (nc nv : Nat) (RS S : Nat) (hrv : RV (lgm g a nc nv) (g 19) nv (t 54) (t 55) (t 56) RS) (hRS : RS < 2 ^ nv) (hSR : S &&& RS = S) (hnv : nv ≤ 10) (hok : rnd (lgm g a nc nv) (g 19) nv S < 1000000 → StOK (lgm g a nc nv) (g 19) nv S) (pl : Int32) : RO l E yX6_viewAt cX6_viewAt 6 .int 2 48 [.ref (q 49), .int (nI S), .int pl] (cW E q g a s t (.ref (q 49)) (sR E q s t)) (fun r => r = viwF (lgm g a nc nv) (g 19) nv S pl) := by
  refine RO.mk (by decide) (Nat.le_of_ble_eq_true rfl) [(0, .ref (q 49)), (1, .int (nI S)), (2, .int pl)] rfl (fun Z B ret => ?_)
  have hpw := pow_le nv hnv
  have hSl := sub_le hSR
  have hpc := pcn_le S 10
  refine i_aload_n B 0 dX6_viewAt_0 rfl ?_
  refine i_iload_n B 1 dX6_viewAt_1 rfl ?_
  refine c_roV (rest := []) (As := [.int (nI S)]) B (k_X6_hasRound l E q g a s t S (by omega)) cal_yX6_hasRound iv_yX6_hasRound mlX6_103 rfl 31 rfl (by decide) (by decide) rfl (Nat.le_of_ble_eq_true rfl) Has.rf _ rfl dX6_viewAt_2 (fun r hr => ?_)
  subst hr
  refine i_val (v' := .int (bI (!decide (S = 0) && decide ((t 56) S < 1000000)))) rfl ?_
  refine i_val (v' := .int (bI (decide (rnd (lgm g a nc nv) (g 19) nv S < 1000000)))) (congrArg Value.int (by rw [has_rnd (hrv.2.2 S hSR)])) ?_
  refine i_if_eq B 20 dX6_viewAt_5 (by decide) (fun h1 => ?_) (fun h1 => ?_)
  · replace h1 := bI_0.mp h1
    refine i_bipush (v := (-9)) B dX6_viewAt_20 (by decide) ?_
    exact ret _ _ _ rfl dX6_viewAt_22 (by rw [viwF]; simp only [h1, decide_true, decide_false, Bool.not_true, Bool.not_false, Bool.true_and, Bool.false_and, Bool.and_true, Bool.and_false, Bool.true_or, Bool.or_true, Bool.false_or, Bool.or_false, Bool.and_self, Bool.or_self, bI_t, bI_f, if_true, if_false, ite_true, ite_false, Bool.false_eq_true, Bool.true_eq_false, eq_self, reduceIte, true_or, or_true, false_or, or_false, and_true, true_and, and_false, false_and, not_true_eq_false, not_false_eq_true, decide_eq_true_eq, decide_eq_false_iff_not])
  · replace h1 := bI_n.mp h1
    refine i_iload_n B 2 dX6_viewAt_8 rfl ?_
    refine i_if_lt B 20 dX6_viewAt_9 (by decide) (fun h2 => ?_) (fun h2 => ?_)
    · refine i_bipush (v := (-9)) B dX6_viewAt_20 (by decide) ?_
      exact ret _ _ _ rfl dX6_viewAt_22 (by rw [viwF, wit_lo h2]; simp only [decide_true, decide_false, Bool.not_true, Bool.not_false, Bool.true_and, Bool.false_and, Bool.and_true, Bool.and_false, Bool.true_or, Bool.or_true, Bool.false_or, Bool.or_false, Bool.and_self, Bool.or_self, bI_t, bI_f, if_true, if_false, ite_true, ite_false, Bool.false_eq_true, Bool.true_eq_false, eq_self, reduceIte, true_or, or_true, false_or, or_false, and_true, true_and, and_false, false_and, not_true_eq_false, not_false_eq_true, decide_eq_true_eq, decide_eq_false_iff_not])
    · refine i_iload_n B 2 dX6_viewAt_12 rfl ?_
      refine i_iload_n B 1 dX6_viewAt_13 rfl ?_
      refine c_roS (rest := [.int pl]) (As := [.int (nI S)]) B (k_J6_bitCount_0f7a4 l E (nI S)) cal_yJ6_bitCount_0f7a4 is_yJ6_bitCount_0f7a4 mlX6_107 (by decide) (by decide) rfl (Nat.le_of_ble_eq_true rfl) Has.nil _ rfl dX6_viewAt_14 (fun r hr => ?_)
      subst hr
      refine i_val (v' := .int (bct (nI S))) rfl ?_
      refine i_val (v' := .int (nI (pcn S 10))) (congrArg Value.int (bct_pc S (by omega))) ?_
      refine i_icmp_lt B 23 dX6_viewAt_17 (by decide) (fun h3 => ?_) (fun h3 => ?_)
      · obtain ⟨p, hp, rfl⟩ := lt_ix (n := pcn S 10) (by omega) h2 h3
        have hst := hok (by simpa using h1)
        refine i_bipush (v := 10) B dX6_viewAt_23 (by decide) ?_
        refine i_istore_n B [(3, .int 10), (0, .ref (q 49)), (1, .int (nI S)), (2, .int (nI p))] dX6_viewAt_25 (by decide) rfl ?_
        refine i_iload_n B 2 dX6_viewAt_26 rfl ?_
        refine i_istore B [(4, .int (nI S)), (3, .int 10), (0, .ref (q 49)), (1, .int (nI S)), (2, .int (nI p))] dX6_viewAt_27 (by decide) rfl ?_
        refine i_iconst (v := 0) B dX6_viewAt_29 (by decide) ?_
        refine i_istore B [(5, .int 0), (4, .int (nI S)), (3, .int 10), (0, .ref (q 49)), (1, .int (nI S)), (2, .int (nI p))] dX6_viewAt_30 (by decide) rfl ?_
        have lk : ∀ (n_lk : Nat) (k : Nat), (p + 1 - k < n_lk) → (k ≤ p + 1) → J Z 0 0 (cW E q g a s t (.ref (q 49)) (sR E q s t)) 32 [(5, .int (nI k)), (4, .int (nI (stp (lgm g a nc nv) (g 19) nv S k).1)), (3, .int (nI (stp (lgm g a nc nv) (g 19) nv S k).2)), (0, .ref (q 49)), (2, .int (nI p))] [] := by
          intro n_lk
          induction n_lk with
          | zero => intro k hf_lk hk; omega
          | succ n_lk ih_lk =>
            intro k hf_lk hk
            refine i_iload B 0 dX6_viewAt_32 rfl ?_
            refine i_iload_n B 4 dX6_viewAt_34 rfl ?_
            refine i_icmp_gt B 62 dX6_viewAt_35 (by decide) (fun h4 => ?_) (fun h4 => ?_)
            · rw [nI_ltI (by omega) (by omega)] at h4
              refine i_iload_n B 2 dX6_viewAt_62 rfl ?_
              exact ret _ _ _ rfl dX6_viewAt_63 (by rw [viwF, ix_wit (by omega) hp, ix_nI (by omega), show k = p + 1 by omega]; simp only [h1, decide_true, decide_false, Bool.not_true, Bool.not_false, Bool.true_and, Bool.false_and, Bool.and_true, Bool.and_false, Bool.true_or, Bool.or_true, Bool.false_or, Bool.or_false, Bool.and_self, Bool.or_self, bI_t, bI_f, if_true, if_false, ite_true, ite_false, Bool.false_eq_true, Bool.true_eq_false, eq_self, reduceIte, true_or, or_true, false_or, or_false, and_true, true_and, and_false, false_and, not_true_eq_false, not_false_eq_true, decide_eq_true_eq, decide_eq_false_iff_not])
            · rw [nI_ltI (by omega) (by omega)] at h4
              have hkp : k < pcn S 10 := by omega
              obtain ⟨hkl, hkt0, hlw, hkr⟩ := hst k hkp
              have hkt := thr_lt hnv hkt0
              obtain ⟨hsb1, hsb2⟩ := stp_sub hnv hst k (by omega)
              have hlP := low_P (P := nxP (lgm g a nc nv) (g 19) nv (stp (lgm g a nc nv) (g 19) nv S k).1 (stp (lgm g a nc nv) (g 19) nv S k).2) nv 0 (by omega) (by omega)
              unfold nxP at hlP
              rw [Bool.and_eq_true] at hlP
              refine i_aload_n B 3 dX6_viewAt_38 rfl ?_
              refine i_iload_n B 2 dX6_viewAt_39 rfl ?_
              refine i_iload B 1 dX6_viewAt_40 rfl ?_
              refine c_roV (rest := []) (As := [.int (nI (stp (lgm g a nc nv) (g 19) nv S k).2), .int (nI (stp (lgm g a nc nv) (g 19) nv S k).1)]) B (k_X6_nextView l E q g a s t ((stp (lgm g a nc nv) (g 19) nv S k).2) ((stp (lgm g a nc nv) (g 19) nv S k).1) (by omega) (by omega)) cal_yX6_nextView iv_yX6_nextView mlX6_112 rfl 31 rfl (by decide) (by decide) rfl (Nat.le_of_ble_eq_true rfl) Has.rf _ rfl dX6_viewAt_42 (fun r hr => ?_)
              subst hr
              refine i_val (v' := .int (nI (nvw (t 54) (t 55) ((stp (lgm g a nc nv) (g 19) nv S k).1) ((stp (lgm g a nc nv) (g 19) nv S k).2) 10).1)) rfl ?_
              refine i_val (v' := .int (nI (low (nxP (lgm g a nc nv) (g 19) nv (stp (lgm g a nc nv) (g 19) nv S k).1 (stp (lgm g a nc nv) (g 19) nv S k).2) nv 0))) (congrArg Value.int (congrArg nI (nv_eq hkl hnv hlw hkr (fun b hb9 hb8 => ⟨hrv.1 _ _ hkt (by omega) (fun e => by (rcases hsb2 with e2 | ⟨_, e2⟩; (omega); (rw [e, hb8] at e2; cases e2))) (by rw [or_bit hkt]; rcases hsb2 with e2 | ⟨e2, _⟩; (rw [e2]; simp); (rw [part_bit hSR e2]; rfl)) (by rw [or_bit (by omega), part_bit hSR (part_bit hsb1 hb8)]; rfl), hrv.2.1 _ b (part_tr hsb1 hSR) hb9 hb8⟩)))) ?_
              refine i_istore_n B [(3, .int (nI (low (nxP (lgm g a nc nv) (g 19) nv (stp (lgm g a nc nv) (g 19) nv S k).1 (stp (lgm g a nc nv) (g 19) nv S k).2) nv 0))), (5, .int (nI k)), (4, .int (nI (stp (lgm g a nc nv) (g 19) nv S k).1)), (0, .ref (q 49)), (2, .int (nI p))] dX6_viewAt_45 (by decide) rfl ?_
              refine i_iload B 2 dX6_viewAt_46 rfl ?_
              refine i_iconst (v := 1) B dX6_viewAt_48 (by decide) ?_
              refine i_iload_n B 0 dX6_viewAt_49 rfl ?_
              refine i_ishl B dX6_viewAt_50 ?_
              refine i_iconst (v := (-1)) B dX6_viewAt_51 (by decide) ?_
              refine i_ixor B dX6_viewAt_52 ?_
              refine i_iand B dX6_viewAt_53 ?_
              refine i_val (v' := .int (nI ((stp (lgm g a nc nv) (g 19) nv S k).1 ^^^ 2 ^ (low (nxP (lgm g a nc nv) (g 19) nv (stp (lgm g a nc nv) (g 19) nv S k).1 (stp (lgm g a nc nv) (g 19) nv S k).2) nv 0)))) (congrArg Value.int (clr_bit (by omega) (by omega) hlP.1)) ?_
              refine i_istore B [(4, .int (nI ((stp (lgm g a nc nv) (g 19) nv S k).1 ^^^ 2 ^ (low (nxP (lgm g a nc nv) (g 19) nv (stp (lgm g a nc nv) (g 19) nv S k).1 (stp (lgm g a nc nv) (g 19) nv S k).2) nv 0)))), (3, .int (nI (low (nxP (lgm g a nc nv) (g 19) nv (stp (lgm g a nc nv) (g 19) nv S k).1 (stp (lgm g a nc nv) (g 19) nv S k).2) nv 0))), (5, .int (nI k)), (0, .ref (q 49)), (2, .int (nI p))] dX6_viewAt_54 (by decide) rfl ?_
              refine i_iinc (v := (nI (k + 1))) B 2 [(5, .int (nI (k + 1))), (4, .int (nI ((stp (lgm g a nc nv) (g 19) nv S k).1 ^^^ 2 ^ (low (nxP (lgm g a nc nv) (g 19) nv (stp (lgm g a nc nv) (g 19) nv S k).1 (stp (lgm g a nc nv) (g 19) nv S k).2) nv 0)))), (3, .int (nI (low (nxP (lgm g a nc nv) (g 19) nv (stp (lgm g a nc nv) (g 19) nv S k).1 (stp (lgm g a nc nv) (g 19) nv S k).2) nv 0))), (0, .ref (q 49)), (2, .int (nI p))] dX6_viewAt_56 rfl ((nI_1 _)) (by decide) rfl ?_
              refine i_goto B 32 dX6_viewAt_59 (by decide) ?_
              refine i_Leq (congrArg (fun z_9 => ([(5, .int (nI (k + 1))), (4, .int z_9), (3, .int (nI (low (nxP (lgm g a nc nv) (g 19) nv (stp (lgm g a nc nv) (g 19) nv S k).1 (stp (lgm g a nc nv) (g 19) nv S k).2) nv 0))), (0, .ref (q 49)), (2, .int (nI p))] : List (Nat × Value))) (show ((nI ((stp (lgm g a nc nv) (g 19) nv S k).1 ^^^ 2 ^ (low (nxP (lgm g a nc nv) (g 19) nv (stp (lgm g a nc nv) (g 19) nv S k).1 (stp (lgm g a nc nv) (g 19) nv S k).2) nv 0))) : Int32) = (nI (stp (lgm g a nc nv) (g 19) nv S (k + 1)).1) from by rw [stp])) ?_
              refine i_Leq (congrArg (fun z_9 => ([(5, .int (nI (k + 1))), (4, .int (nI (stp (lgm g a nc nv) (g 19) nv S (k + 1)).1)), (3, .int z_9), (0, .ref (q 49)), (2, .int (nI p))] : List (Nat × Value))) (show ((nI (low (nxP (lgm g a nc nv) (g 19) nv (stp (lgm g a nc nv) (g 19) nv S k).1 (stp (lgm g a nc nv) (g 19) nv S k).2) nv 0)) : Int32) = (nI (stp (lgm g a nc nv) (g 19) nv S (k + 1)).2) from by rw [stp])) ?_
              exact ih_lk (k + 1) (by omega) (by omega)
        refine i_locals [0, 1, 2, 3, 5] (L' := [(5, .int 0), (4, .int (nI S)), (3, .int 10), (0, .ref (q 49)), (2, .int (nI p))]) rfl ?_
        refine i_Leq (congrArg (fun z_9 => ([(5, .int z_9), (4, .int (nI S)), (3, .int 10), (0, .ref (q 49)), (2, .int (nI p))] : List (Nat × Value))) (show (0 : Int32) = (nI 0) from rfl)) ?_
        refine i_Leq (congrArg (fun z_9 => ([(5, .int (nI 0)), (4, .int z_9), (3, .int 10), (0, .ref (q 49)), (2, .int (nI p))] : List (Nat × Value))) (show ((nI S) : Int32) = (nI (stp (lgm g a nc nv) (g 19) nv S 0).1) from rfl)) ?_
        refine i_Leq (congrArg (fun z_9 => ([(5, .int (nI 0)), (4, .int (nI (stp (lgm g a nc nv) (g 19) nv S 0).1)), (3, .int z_9), (0, .ref (q 49)), (2, .int (nI p))] : List (Nat × Value))) (show (10 : Int32) = (nI (stp (lgm g a nc nv) (g 19) nv S 0).2) from rfl)) ?_
        exact lk (p + 2) 0 (by omega) (Nat.zero_le _)
      · refine i_bipush (v := (-9)) B dX6_viewAt_20 (by decide) ?_
        exact ret _ _ _ rfl dX6_viewAt_22 (by rw [viwF, wit_hi (by omega) h2 h3]; simp only [decide_true, decide_false, Bool.not_true, Bool.not_false, Bool.true_and, Bool.false_and, Bool.and_true, Bool.and_false, Bool.true_or, Bool.or_true, Bool.false_or, Bool.or_false, Bool.and_self, Bool.or_self, bI_t, bI_f, if_true, if_false, ite_true, ite_false, Bool.false_eq_true, Bool.true_eq_false, eq_self, reduceIte, true_or, or_true, false_or, or_false, and_true, true_and, and_false, false_and, not_true_eq_false, not_false_eq_true, decide_eq_true_eq, decide_eq_false_iff_not])
