/-- one more flight that is tried -/
def pst (bat : Int32) (rn : Nat → Int32) (T : Nat → Int32 × Int32) (S sub : Nat) (st : Int32 × Int32) : Int32 × Int32 := if (!decide (nI sub &&& (nI S &&& -nI S) = 0) && (!decide (bat < rn sub) && decide ((T (S ^^^ sub)).1 < 1000000))) = true then (if (decide ((T (S ^^^ sub)).1 + 1 < st.1) || (decide ((T (S ^^^ sub)).1 + 1 = st.1) && decide ((T (S ^^^ sub)).2 + rn sub < st.2))) = true then ((T (S ^^^ sub)).1 + 1, (T (S ^^^ sub)).2 + rn sub) else st) else st
def pfo (bat : Int32) (rn : Nat → Int32) (T : Nat → Int32 × Int32) (S : Nat) : Nat → Nat → Int32 × Int32 → Int32 × Int32
  | 0, _, st => st
  | n + 1, sub, st => if sub = 0 then st else pfo bat rn T S n ((sub - 1) &&& S) (pst bat rn T S sub st)
def p0 (S : Nat) : Int32 × Int32 := (if decide (S = 0) = true then 0 else 1000000, 0)
def ptb (bat : Int32) (rn : Nat → Int32) : Nat → Nat → Int32 × Int32
  | 0 => fun _ => (0, 0)
  | n + 1 => fun S => if S = n then pfo bat rn (ptb bat rn n) n n n (p0 n) else ptb bat rn n S
/-- fewest and least of each set -/
def PT (bat : Int32) (rn : Nat → Int32) (S : Nat) : Int32 × Int32 := ptb bat rn (S + 1) S
theorem sub_lt {S t : Nat} (h : t &&& S = t) (h0 : t ≠ 0) : S ^^^ t < S := by
  have := xsub S t h
  omega
theorem sub_le {S t : Nat} (h : t &&& S = t) : t ≤ S := by
  rw [← h]; exact Nat.and_le_right
theorem sub_and (S t : Nat) : (t &&& S) &&& S = t &&& S := by rw [Nat.and_assoc, Nat.and_self]
theorem pfo_cg {bat : Int32} {rn : Nat → Int32} {T T' : Nat → Int32 × Int32} {S : Nat} (h : ∀ s, s < S → T s = T' s) : ∀ (n sub : Nat) (st : Int32 × Int32), sub &&& S = sub → pfo bat rn T S n sub st = pfo bat rn T' S n sub st := by
  intro n
  induction n with
  | zero => intro sub st hs; rfl
  | succ n ih =>
    intro sub st hs
    rw [pfo, pfo]
    by_cases e : sub = 0
    · rw [if_pos e, if_pos e]
    · rw [if_neg e, if_neg e, pst, pst, h _ (sub_lt hs e)]
      exact ih _ _ (sub_and _ _)
theorem ptb_lt {bat : Int32} {rn : Nat → Int32} {n S : Nat} (h : S < n) : ptb bat rn n S = PT bat rn S := by
  induction n with
  | zero => omega
  | succ n ih =>
    by_cases e : S = n
    · subst e; rfl
    · show (if S = n then _ else ptb bat rn n S) = _
      rw [if_neg e]; exact ih (by omega)
theorem PT_eq (bat : Int32) (rn : Nat → Int32) (S : Nat) : PT bat rn S = pfo bat rn (PT bat rn) S S S (p0 S) := by
  rw [PT]
  show (if S = S then pfo bat rn (ptb bat rn S) S S S (p0 S) else _) = _
  rw [if_pos rfl]
  exact pfo_cg (fun s hs => ptb_lt hs) S S _ (Nat.and_self S)
theorem low_sub {S sub : Nat} (h : 0 < sub) : (nI sub - 1) &&& nI S = nI ((sub - 1) &&& S) := by
  rw [show nI sub - 1 = nI (sub - 1) from pk_sub (a := sub) (b := 1) h, nx_and]
theorem and_pred {S sub : Nat} : (sub - 1) &&& S ≤ sub - 1 := Nat.and_le_left
def PTg (g : Nat → Int32) (a : Nat → Nat → Int32) (nc nv S : Nat) : Int32 × Int32 := PT (g 18) (rnd (lgm g a nc nv) (g 19) nv) S
def fliF (g : Nat → Int32) (a : Nat → Nat → Int32) (nc nv : Nat) (x : Int32) : Int32 := if nset (g 8) x = true then -1 else if (PTg g a nc nv (ix x)).1 < 1000000 then (PTg g a nc nv (ix x)).1 else -9
def eneF (g : Nat → Int32) (a : Nat → Nat → Int32) (nc nv : Nat) (x : Int32) : Int32 := if nset (g 8) x = true then -1 else if (PTg g a nc nv (ix x)).1 < 1000000 then (PTg g a nc nv (ix x)).2 else -9
abbrev N4 : Type := (Nat → Int32) × (Nat → Int32) × (Nat → Int32) × (Nat → Int32)

set_option maxHeartbeats 4000000 in
set_option maxRecDepth 100000 in
theorem k_X9_part (l : Launch) (E : ED) (h : Nat) (q : Nat → Nat) (g : Nat → Int32) (a : Nat → Nat → Int32) (nc : Nat) (hc : g 11 = nI nc) (hnc : nc ≤ 4) (nv : Nat) (hv : g 8 = nI nv) (hnv : nv ≤ 10) (hpt : ∀ v, thr nv v = true → pt (a 9 v) (a 10 v) = true) : WV l E yX9_part cX9_part 7 4 123 0 0 [.ref h] (mW E h q g a) (fun u : N4 => ∀ s : Nat, s < 2 ^ nv → u.2.2.1 s = (PTg g a nc nv s).1 ∧ u.2.2.2 s = (PTg g a nc nv s).2) (fun u => mW E h q g (va_up (va_up (va_up (va_up a 30 u.1) 31 u.2.1) 32 u.2.2.1) 33 u.2.2.2)) := by
  refine WV.mk (by decide) (Nat.le_of_ble_eq_true rfl) [(0, .ref h)] rfl (fun Z B hI ret => ?_)
  refine i_aload_n B 0 dX9_part_0 rfl ?_
  refine c_wvV (rest := []) (As := []) B (k_X9_fly l E h q g a nc hc hnc nv hv hnv hpt) cal_yX9_fly iv_yX9_fly mlX9_193 rfl 0 rfl (by decide) (by decide) rfl (Nat.le_of_ble_eq_true rfl) ([]) ([]) rfl _ rfl dX9_part_1 (fun ⟨f9, r9⟩ hr => ?_)
  dsimp only at hr
  obtain ⟨hf9, hr9⟩ := hr
  refine i_world (ws' := (mW E h q g (va_up (va_up a 30 f9) 31 r9))) rfl ?_
  refine i_iconst (v := 0) B dX9_part_4 (by decide) ?_
  refine i_istore_n B [(1, .int 0), (0, .ref h)] dX9_part_5 (by decide) rfl ?_
  have la : ∀ (n_la : Nat) (S : Nat) (fw : Nat → Int32) (ls : Nat → Int32), (2 ^ nv - S < n_la) → (S ≤ 2 ^ nv) → (∀ s : Nat, s < S → fw s = (PT (g 18) (rnd (lgm g a nc nv) (g 19) nv) s).1 ∧ ls s = (PT (g 18) (rnd (lgm g a nc nv) (g 19) nv) s).2) → J Z 0 0 (mW E h q g (va_up (va_up (va_up (va_up a 30 f9) 31 r9) 32 fw) 33 ls)) 6 [(1, .int (nI S)), (0, .ref h)] [] := by
    intro n_la
    induction n_la with
    | zero => intro S fw ls hf_la hS ht; omega
    | succ n_la ih_la =>
      intro S fw ls hf_la hS ht
      have hpw := pow_le nv hnv
      refine i_iload_n B 0 dX9_part_6 rfl ?_
      refine i_iconst (v := 1) B dX9_part_7 (by decide) ?_
      refine i_aload_n B 1 dX9_part_8 rfl ?_
      refine i_get (v := .int (g 8)) B flX9_111 0 rfl rfl dX9_part_9 ?_
      refine i_ishl B dX9_part_12 ?_
      refine i_icmp_ge B 174 dX9_part_13 (by decide) (fun h1 => ?_) (fun h1 => ?_)
      · replace h1 := q_n32.mpr h1
        rw [hv, shl1 nv hnv, nI_ltI (by omega) (by omega)] at h1
        exact ret _ _ (f9, r9, fw, ls) dX9_part_174 (fun s h => ht s (by omega))
      · replace h1 := q_m32.mp h1
        rw [hv, shl1 nv hnv, nI_ltI (by omega) (by omega)] at h1
        refine i_aload_n B 1 dX9_part_16 rfl ?_
        refine i_get (v := .ref (q 32)) B flX9_81 0 rfl rfl dX9_part_17 ?_
        refine i_iload_n B 0 dX9_part_20 rfl ?_
        refine i_iload_n B 0 dX9_part_21 rfl ?_
        refine i_if_ne B 29 dX9_part_22 (by decide) (fun h2 => ?_) (fun h2 => ?_)
        · rw [show (0 : Int32) = nI 0 from rfl, nI_eq (by omega) (by omega)] at h2
          have h2d := decide_eq_false h2
          refine i_ldc B ckX9_151 dX9_part_29 ?_
          refine i_iastN B 21 S (mW E h q g (va_up (va_up (va_up (va_up a 30 f9) 31 r9) 33 ls) 32 (upd fw S 1000000))) rfl rfl (by omega) (by decide) rfl dX9_part_31 ?_
          refine i_aload_n B 1 dX9_part_32 rfl ?_
          refine i_get (v := .ref (q 33)) B flX9_84 0 rfl rfl dX9_part_33 ?_
          refine i_iload_n B 0 dX9_part_36 rfl ?_
          refine i_iconst (v := 0) B dX9_part_37 (by decide) ?_
          refine i_iastN B 22 S (mW E h q g (va_up (va_up (va_up (va_up a 30 f9) 31 r9) 32 (upd fw S 1000000)) 33 (upd ls S 0))) rfl rfl (by omega) (by decide) rfl dX9_part_38 ?_
          refine i_iload_n B 0 dX9_part_39 rfl ?_
          refine i_iload_n B 0 dX9_part_40 rfl ?_
          refine i_ineg B dX9_part_41 ?_
          refine i_iand B dX9_part_42 ?_
          refine i_istore_n B [(2, .int ((nI S) &&& (-(nI S)))), (1, .int (nI S)), (0, .ref h)] dX9_part_43 (by decide) rfl ?_
          refine i_iload_n B 1 dX9_part_44 rfl ?_
          refine i_istore_n B [(3, .int (nI S)), (2, .int ((nI S) &&& (-(nI S)))), (1, .int (nI S)), (0, .ref h)] dX9_part_45 (by decide) rfl ?_
          have lb : ∀ (n_lb : Nat) (sub : Nat) (m : Nat) (fw2 : Nat → Int32) (ls2 : Nat → Int32), (sub < n_lb) → (sub &&& S = sub) → (sub ≤ m) → (∀ s : Nat, s < S → fw2 s = (PT (g 18) (rnd (lgm g a nc nv) (g 19) nv) s).1 ∧ ls2 s = (PT (g 18) (rnd (lgm g a nc nv) (g 19) nv) s).2) → (pfo (g 18) (rnd (lgm g a nc nv) (g 19) nv) (PT (g 18) (rnd (lgm g a nc nv) (g 19) nv)) S S S (p0 S) = pfo (g 18) (rnd (lgm g a nc nv) (g 19) nv) (PT (g 18) (rnd (lgm g a nc nv) (g 19) nv)) S m sub (fw2 S, ls2 S)) → J Z 0 0 (mW E h q g (va_up (va_up (va_up (va_up a 30 f9) 31 r9) 32 fw2) 33 ls2)) 46 [(3, .int (nI sub)), (2, .int ((nI S) &&& (-(nI S)))), (1, .int (nI S)), (0, .ref h)] [] := by
            intro n_lb
            induction n_lb with
            | zero => intro sub m fw2 ls2 hf_lb hsb hm ht2 hfo; omega
            | succ n_lb ih_lb =>
              intro sub m fw2 ls2 hf_lb hsb hm ht2 hfo
              refine i_iload_n B 0 dX9_part_46 rfl ?_
              refine i_if_le B 168 dX9_part_47 (by decide) (fun h3 => ?_) (fun h3 => ?_)
              · replace h3 := q_n32.mpr h3
                have hle := sub_le hsb
                rw [show (0 : Int32) = nI 0 from rfl, nI_ltI (by omega) (by omega)] at h3
                refine i_iinc (v := (nI (S + 1))) B 2 [(1, .int (nI (S + 1))), (3, .int (nI sub)), (2, .int ((nI S) &&& (-(nI S)))), (0, .ref h)] dX9_part_168 rfl ((nI_1 _)) (by decide) rfl ?_
                refine i_goto B 6 dX9_part_171 (by decide) ?_
                refine i_locals [0, 3] (L' := [(1, .int (nI (S + 1))), (0, .ref h)]) rfl ?_
                exact ih_la (S + 1) fw2 ls2 (by omega) (by omega) (fun s h => by (by_cases e : s = S; (subst e; have e1 : PT (g 18) (rnd (lgm g a nc nv) (g 19) nv) s = (fw2 s, ls2 s) := (by (rw [PT_eq, hfo, show sub = 0 by omega]; cases m <;> rfl)); rw [e1]; exact ⟨rfl, rfl⟩); (exact ht2 s (by omega))))
              · replace h3 := q_m32.mp h3
                have hle := sub_le hsb
                rw [show (0 : Int32) = nI 0 from rfl, nI_ltI (by omega) (by omega)] at h3
                obtain ⟨m, rfl⟩ : ∃ m9, m = m9 + 1 := ⟨m - 1, by omega⟩
                have hxl := sub_lt hsb (by omega)
                have hxt := ht2 _ hxl
                refine i_aload_n B 3 dX9_part_50 rfl ?_
                refine i_iload_n B 0 dX9_part_51 rfl ?_
                refine c_roV (rest := []) (As := [.int (nI sub)]) B (k_X9_roundOf l E h q g (va_up (va_up (va_up (va_up a 30 f9) 31 r9) 32 fw2) 33 ls2) sub (by omega)) cal_yX9_roundOf iv_yX9_roundOf mlX9_196 rfl 0 rfl (by decide) (by decide) rfl (Nat.le_of_ble_eq_true rfl) Has.rf _ rfl dX9_part_52 (fun r hr => ?_)
                subst hr
                refine i_val (v' := .int (rdo r9 sub)) rfl ?_
                refine i_val (v' := .int (rnd (lgm g a nc nv) (g 19) nv sub)) (congrArg Value.int (rdo_eq (hr9 sub 10 (by omega) (by omega)))) ?_
                refine i_istore B [(4, .int (rnd (lgm g a nc nv) (g 19) nv sub)), (3, .int (nI sub)), (2, .int ((nI S) &&& (-(nI S)))), (1, .int (nI S)), (0, .ref h)] dX9_part_55 (by decide) rfl ?_
                refine i_iload_n B 1 dX9_part_57 rfl ?_
                refine i_iload_n B 2 dX9_part_58 rfl ?_
                refine i_iand B dX9_part_59 ?_
                refine i_if_eq B 159 dX9_part_60 (by decide) (fun h4 => ?_) (fun h4 => ?_)
                · have h4d := decide_eq_true h4
                  refine i_iload_n B 1 dX9_part_159 rfl ?_
                  refine i_iconst (v := 1) B dX9_part_160 (by decide) ?_
                  refine i_isub B dX9_part_161 ?_
                  refine i_iload_n B 3 dX9_part_162 rfl ?_
                  refine i_iand B dX9_part_163 ?_
                  refine i_istore_n B [(3, .int (((nI sub) - 1) &&& (nI S))), (4, .int (rnd (lgm g a nc nv) (g 19) nv sub)), (2, .int ((nI S) &&& (-(nI S)))), (1, .int (nI S)), (0, .ref h)] dX9_part_164 (by decide) rfl ?_
                  refine i_goto B 46 dX9_part_165 (by decide) ?_
                  refine i_locals [0, 2, 3, 4] (L' := [(3, .int (((nI sub) - 1) &&& (nI S))), (2, .int ((nI S) &&& (-(nI S)))), (1, .int (nI S)), (0, .ref h)]) rfl ?_
                  refine i_Leq (congrArg (fun z_9 => ([(3, .int z_9), (2, .int ((nI S) &&& (-(nI S)))), (1, .int (nI S)), (0, .ref h)] : List (Nat × Value))) (show ((((nI sub) - 1) &&& (nI S)) : Int32) = (nI ((sub - 1) &&& S)) from low_sub h3)) ?_
                  exact ih_lb ((sub - 1) &&& S) m fw2 ls2 (by (have := and_pred (S := S) (sub := sub); omega)) (sub_and _ _) (by (have := and_pred (S := S) (sub := sub); omega)) ht2 (by rw [hfo, pfo, if_neg (by omega), pst]; simp only [h4d, decide_true, decide_false, Bool.not_true, Bool.not_false, Bool.true_and, Bool.false_and, Bool.and_true, Bool.and_false, Bool.true_or, Bool.or_true, Bool.false_or, Bool.or_false, bI_t, bI_f, if_true, if_false, ite_true, ite_false, Bool.false_eq_true, Bool.true_eq_false, eq_self, reduceIte, true_or, or_true, false_or, or_false, and_true, true_and, and_false, false_and, not_true_eq_false, not_false_eq_true, decide_eq_true_eq, decide_eq_false_iff_not])
                · have h4d := decide_eq_false h4
                  refine i_iload B 0 dX9_part_63 rfl ?_
                  refine i_aload_n B 4 dX9_part_65 rfl ?_
                  refine i_get (v := .int (g 18)) B flX9_47 0 rfl rfl dX9_part_66 ?_
                  refine i_icmp_gt B 159 dX9_part_69 (by decide) (fun h5 => ?_) (fun h5 => ?_)
                  · refine i_iload_n B 1 dX9_part_159 rfl ?_
                    refine i_iconst (v := 1) B dX9_part_160 (by decide) ?_
                    refine i_isub B dX9_part_161 ?_
                    refine i_iload_n B 3 dX9_part_162 rfl ?_
                    refine i_iand B dX9_part_163 ?_
                    refine i_istore_n B [(3, .int (((nI sub) - 1) &&& (nI S))), (4, .int (rnd (lgm g a nc nv) (g 19) nv sub)), (2, .int ((nI S) &&& (-(nI S)))), (1, .int (nI S)), (0, .ref h)] dX9_part_164 (by decide) rfl ?_
                    refine i_goto B 46 dX9_part_165 (by decide) ?_
                    refine i_locals [0, 2, 3, 4] (L' := [(3, .int (((nI sub) - 1) &&& (nI S))), (2, .int ((nI S) &&& (-(nI S)))), (1, .int (nI S)), (0, .ref h)]) rfl ?_
                    refine i_Leq (congrArg (fun z_9 => ([(3, .int z_9), (2, .int ((nI S) &&& (-(nI S)))), (1, .int (nI S)), (0, .ref h)] : List (Nat × Value))) (show ((((nI sub) - 1) &&& (nI S)) : Int32) = (nI ((sub - 1) &&& S)) from low_sub h3)) ?_
                    exact ih_lb ((sub - 1) &&& S) m fw2 ls2 (by (have := and_pred (S := S) (sub := sub); omega)) (sub_and _ _) (by (have := and_pred (S := S) (sub := sub); omega)) ht2 (by rw [hfo, pfo, if_neg (by omega), pst]; simp only [h4d, h5, decide_true, decide_false, Bool.not_true, Bool.not_false, Bool.true_and, Bool.false_and, Bool.and_true, Bool.and_false, Bool.true_or, Bool.or_true, Bool.false_or, Bool.or_false, bI_t, bI_f, if_true, if_false, ite_true, ite_false, Bool.false_eq_true, Bool.true_eq_false, eq_self, reduceIte, true_or, or_true, false_or, or_false, and_true, true_and, and_false, false_and, not_true_eq_false, not_false_eq_true, decide_eq_true_eq, decide_eq_false_iff_not])
                  · refine i_aload_n B 4 dX9_part_72 rfl ?_
                    refine i_get (v := .ref (q 32)) B flX9_81 0 rfl rfl dX9_part_73 ?_
                    refine i_iload_n B 3 dX9_part_76 rfl ?_
                    refine i_iload_n B 1 dX9_part_77 rfl ?_
                    refine i_ixor B dX9_part_78 ?_
                    refine i_ialdN B 21 (S ^^^ sub) rfl (nx_xor _ _) (by omega) (by decide) dX9_part_79 ?_
                    refine i_val (v' := .int (fw2 (S ^^^ sub))) rfl ?_
                    refine i_val (v' := .int (PT (g 18) (rnd (lgm g a nc nv) (g 19) nv) (S ^^^ sub)).1) (congrArg Value.int (hxt.1)) ?_
                    refine i_ldc B ckX9_151 dX9_part_80 ?_
                    refine i_icmp_ge B 159 dX9_part_82 (by decide) (fun h6 => ?_) (fun h6 => ?_)
                    · replace h6 := q_n32.mpr h6
                      refine i_iload_n B 1 dX9_part_159 rfl ?_
                      refine i_iconst (v := 1) B dX9_part_160 (by decide) ?_
                      refine i_isub B dX9_part_161 ?_
                      refine i_iload_n B 3 dX9_part_162 rfl ?_
                      refine i_iand B dX9_part_163 ?_
                      refine i_istore_n B [(3, .int (((nI sub) - 1) &&& (nI S))), (4, .int (rnd (lgm g a nc nv) (g 19) nv sub)), (2, .int ((nI S) &&& (-(nI S)))), (1, .int (nI S)), (0, .ref h)] dX9_part_164 (by decide) rfl ?_
                      refine i_goto B 46 dX9_part_165 (by decide) ?_
                      refine i_locals [0, 2, 3, 4] (L' := [(3, .int (((nI sub) - 1) &&& (nI S))), (2, .int ((nI S) &&& (-(nI S)))), (1, .int (nI S)), (0, .ref h)]) rfl ?_
                      refine i_Leq (congrArg (fun z_9 => ([(3, .int z_9), (2, .int ((nI S) &&& (-(nI S)))), (1, .int (nI S)), (0, .ref h)] : List (Nat × Value))) (show ((((nI sub) - 1) &&& (nI S)) : Int32) = (nI ((sub - 1) &&& S)) from low_sub h3)) ?_
                      exact ih_lb ((sub - 1) &&& S) m fw2 ls2 (by (have := and_pred (S := S) (sub := sub); omega)) (sub_and _ _) (by (have := and_pred (S := S) (sub := sub); omega)) ht2 (by rw [hfo, pfo, if_neg (by omega), pst]; simp only [h4d, h5, h6, decide_true, decide_false, Bool.not_true, Bool.not_false, Bool.true_and, Bool.false_and, Bool.and_true, Bool.and_false, Bool.true_or, Bool.or_true, Bool.false_or, Bool.or_false, bI_t, bI_f, if_true, if_false, ite_true, ite_false, Bool.false_eq_true, Bool.true_eq_false, eq_self, reduceIte, true_or, or_true, false_or, or_false, and_true, true_and, and_false, false_and, not_true_eq_false, not_false_eq_true, decide_eq_true_eq, decide_eq_false_iff_not])
                    · replace h6 := q_m32.mp h6
                      refine i_aload_n B 4 dX9_part_85 rfl ?_
                      refine i_get (v := .ref (q 32)) B flX9_81 0 rfl rfl dX9_part_86 ?_
                      refine i_iload_n B 3 dX9_part_89 rfl ?_
                      refine i_iload_n B 1 dX9_part_90 rfl ?_
                      refine i_ixor B dX9_part_91 ?_
                      refine i_ialdN B 21 (S ^^^ sub) rfl (nx_xor _ _) (by omega) (by decide) dX9_part_92 ?_
                      refine i_val (v' := .int (fw2 (S ^^^ sub))) rfl ?_
                      refine i_val (v' := .int (PT (g 18) (rnd (lgm g a nc nv) (g 19) nv) (S ^^^ sub)).1) (congrArg Value.int (hxt.1)) ?_
                      refine i_iconst (v := 1) B dX9_part_93 (by decide) ?_
                      refine i_iadd B dX9_part_94 ?_
                      refine i_istore B [(5, .int ((PT (g 18) (rnd (lgm g a nc nv) (g 19) nv) (S ^^^ sub)).1 + 1)), (4, .int (rnd (lgm g a nc nv) (g 19) nv sub)), (3, .int (nI sub)), (2, .int ((nI S) &&& (-(nI S)))), (1, .int (nI S)), (0, .ref h)] dX9_part_95 (by decide) rfl ?_
                      refine i_aload_n B 5 dX9_part_97 rfl ?_
                      refine i_get (v := .ref (q 33)) B flX9_84 0 rfl rfl dX9_part_98 ?_
                      refine i_iload_n B 4 dX9_part_101 rfl ?_
                      refine i_iload_n B 2 dX9_part_102 rfl ?_
                      refine i_ixor B dX9_part_103 ?_
                      refine i_ialdN B 22 (S ^^^ sub) rfl (nx_xor _ _) (by omega) (by decide) dX9_part_104 ?_
                      refine i_val (v' := .int (ls2 (S ^^^ sub))) rfl ?_
                      refine i_val (v' := .int (PT (g 18) (rnd (lgm g a nc nv) (g 19) nv) (S ^^^ sub)).2) (congrArg Value.int (hxt.2)) ?_
                      refine i_iload B 1 dX9_part_105 rfl ?_
                      refine i_iadd B dX9_part_107 ?_
                      refine i_istore B [(6, .int ((PT (g 18) (rnd (lgm g a nc nv) (g 19) nv) (S ^^^ sub)).2 + (rnd (lgm g a nc nv) (g 19) nv sub))), (5, .int ((PT (g 18) (rnd (lgm g a nc nv) (g 19) nv) (S ^^^ sub)).1 + 1)), (4, .int (rnd (lgm g a nc nv) (g 19) nv sub)), (3, .int (nI sub)), (2, .int ((nI S) &&& (-(nI S)))), (1, .int (nI S)), (0, .ref h)] dX9_part_108 (by decide) rfl ?_
                      refine i_iload B 1 dX9_part_110 rfl ?_
                      refine i_aload_n B 6 dX9_part_112 rfl ?_
                      refine i_get (v := .ref (q 32)) B flX9_81 0 rfl rfl dX9_part_113 ?_
                      refine i_iload_n B 5 dX9_part_116 rfl ?_
                      refine i_ialdN B 21 S rfl rfl (by omega) (by decide) dX9_part_117 ?_
                      refine i_val (v' := .int (fw2 S)) rfl ?_
                      refine i_icmp_lt B 143 dX9_part_118 (by decide) (fun h7 => ?_) (fun h7 => ?_)
                      · refine i_aload_n B 6 dX9_part_143 rfl ?_
                        refine i_get (v := .ref (q 32)) B flX9_81 0 rfl rfl dX9_part_144 ?_
                        refine i_iload_n B 5 dX9_part_147 rfl ?_
                        refine i_iload B 1 dX9_part_148 rfl ?_
                        refine i_iastN B 21 S (mW E h q g (va_up (va_up (va_up (va_up a 30 f9) 31 r9) 33 ls2) 32 (upd fw2 S ((PT (g 18) (rnd (lgm g a nc nv) (g 19) nv) (S ^^^ sub)).1 + 1)))) rfl rfl (by omega) (by decide) rfl dX9_part_150 ?_
                        refine i_aload_n B 6 dX9_part_151 rfl ?_
                        refine i_get (v := .ref (q 33)) B flX9_84 0 rfl rfl dX9_part_152 ?_
                        refine i_iload_n B 5 dX9_part_155 rfl ?_
                        refine i_iload B 0 dX9_part_156 rfl ?_
                        refine i_iastN B 22 S (mW E h q g (va_up (va_up (va_up (va_up a 30 f9) 31 r9) 32 (upd fw2 S ((PT (g 18) (rnd (lgm g a nc nv) (g 19) nv) (S ^^^ sub)).1 + 1))) 33 (upd ls2 S ((PT (g 18) (rnd (lgm g a nc nv) (g 19) nv) (S ^^^ sub)).2 + (rnd (lgm g a nc nv) (g 19) nv sub))))) rfl rfl (by omega) (by decide) rfl dX9_part_158 ?_
                        refine i_iload_n B 3 dX9_part_159 rfl ?_
                        refine i_iconst (v := 1) B dX9_part_160 (by decide) ?_
                        refine i_isub B dX9_part_161 ?_
                        refine i_iload_n B 5 dX9_part_162 rfl ?_
                        refine i_iand B dX9_part_163 ?_
                        refine i_istore_n B [(3, .int (((nI sub) - 1) &&& (nI S))), (6, .int ((PT (g 18) (rnd (lgm g a nc nv) (g 19) nv) (S ^^^ sub)).2 + (rnd (lgm g a nc nv) (g 19) nv sub))), (5, .int ((PT (g 18) (rnd (lgm g a nc nv) (g 19) nv) (S ^^^ sub)).1 + 1)), (4, .int (rnd (lgm g a nc nv) (g 19) nv sub)), (2, .int ((nI S) &&& (-(nI S)))), (1, .int (nI S)), (0, .ref h)] dX9_part_164 (by decide) rfl ?_
                        refine i_goto B 46 dX9_part_165 (by decide) ?_
                        refine i_locals [0, 4, 5, 6] (L' := [(3, .int (((nI sub) - 1) &&& (nI S))), (2, .int ((nI S) &&& (-(nI S)))), (1, .int (nI S)), (0, .ref h)]) rfl ?_
                        refine i_Leq (congrArg (fun z_9 => ([(3, .int z_9), (2, .int ((nI S) &&& (-(nI S)))), (1, .int (nI S)), (0, .ref h)] : List (Nat × Value))) (show ((((nI sub) - 1) &&& (nI S)) : Int32) = (nI ((sub - 1) &&& S)) from low_sub h3)) ?_
                        exact ih_lb ((sub - 1) &&& S) m (upd fw2 S ((PT (g 18) (rnd (lgm g a nc nv) (g 19) nv) (S ^^^ sub)).1 + 1)) (upd ls2 S ((PT (g 18) (rnd (lgm g a nc nv) (g 19) nv) (S ^^^ sub)).2 + (rnd (lgm g a nc nv) (g 19) nv sub))) (by (have := and_pred (S := S) (sub := sub); omega)) (sub_and _ _) (by (have := and_pred (S := S) (sub := sub); omega)) (fun s hs => by rw [pk_un (by omega), pk_un (by omega)]; exact ht2 s hs) (by rw [pk_us, pk_us]; rw [hfo, pfo, if_neg (by omega), pst]; simp only [h4d, h5, h6, h7, decide_true, decide_false, Bool.not_true, Bool.not_false, Bool.true_and, Bool.false_and, Bool.and_true, Bool.and_false, Bool.true_or, Bool.or_true, Bool.false_or, Bool.or_false, bI_t, bI_f, if_true, if_false, ite_true, ite_false, Bool.false_eq_true, Bool.true_eq_false, eq_self, reduceIte, true_or, or_true, false_or, or_false, and_true, true_and, and_false, false_and, not_true_eq_false, not_false_eq_true, decide_eq_true_eq, decide_eq_false_iff_not])
                      · refine i_iload B 1 dX9_part_121 rfl ?_
                        refine i_aload_n B 6 dX9_part_123 rfl ?_
                        refine i_get (v := .ref (q 32)) B flX9_81 0 rfl rfl dX9_part_124 ?_
                        refine i_iload_n B 5 dX9_part_127 rfl ?_
                        refine i_ialdN B 21 S rfl rfl (by omega) (by decide) dX9_part_128 ?_
                        refine i_val (v' := .int (fw2 S)) rfl ?_
                        refine i_icmp_ne B 159 dX9_part_129 (by decide) (fun h8 => ?_) (fun h8 => ?_)
                        · have h8d := decide_eq_false h8
                          refine i_iload_n B 3 dX9_part_159 rfl ?_
                          refine i_iconst (v := 1) B dX9_part_160 (by decide) ?_
                          refine i_isub B dX9_part_161 ?_
                          refine i_iload_n B 5 dX9_part_162 rfl ?_
                          refine i_iand B dX9_part_163 ?_
                          refine i_istore_n B [(3, .int (((nI sub) - 1) &&& (nI S))), (6, .int ((PT (g 18) (rnd (lgm g a nc nv) (g 19) nv) (S ^^^ sub)).2 + (rnd (lgm g a nc nv) (g 19) nv sub))), (5, .int ((PT (g 18) (rnd (lgm g a nc nv) (g 19) nv) (S ^^^ sub)).1 + 1)), (4, .int (rnd (lgm g a nc nv) (g 19) nv sub)), (2, .int ((nI S) &&& (-(nI S)))), (1, .int (nI S)), (0, .ref h)] dX9_part_164 (by decide) rfl ?_
                          refine i_goto B 46 dX9_part_165 (by decide) ?_
                          refine i_locals [0, 4, 5, 6] (L' := [(3, .int (((nI sub) - 1) &&& (nI S))), (2, .int ((nI S) &&& (-(nI S)))), (1, .int (nI S)), (0, .ref h)]) rfl ?_
                          refine i_Leq (congrArg (fun z_9 => ([(3, .int z_9), (2, .int ((nI S) &&& (-(nI S)))), (1, .int (nI S)), (0, .ref h)] : List (Nat × Value))) (show ((((nI sub) - 1) &&& (nI S)) : Int32) = (nI ((sub - 1) &&& S)) from low_sub h3)) ?_
                          exact ih_lb ((sub - 1) &&& S) m fw2 ls2 (by (have := and_pred (S := S) (sub := sub); omega)) (sub_and _ _) (by (have := and_pred (S := S) (sub := sub); omega)) ht2 (by rw [hfo, pfo, if_neg (by omega), pst]; simp only [h4d, h5, h6, h7, h8d, decide_true, decide_false, Bool.not_true, Bool.not_false, Bool.true_and, Bool.false_and, Bool.and_true, Bool.and_false, Bool.true_or, Bool.or_true, Bool.false_or, Bool.or_false, bI_t, bI_f, if_true, if_false, ite_true, ite_false, Bool.false_eq_true, Bool.true_eq_false, eq_self, reduceIte, true_or, or_true, false_or, or_false, and_true, true_and, and_false, false_and, not_true_eq_false, not_false_eq_true, decide_eq_true_eq, decide_eq_false_iff_not])
                        · have h8d := decide_eq_true h8
                          refine i_iload B 0 dX9_part_132 rfl ?_
                          refine i_aload_n B 6 dX9_part_134 rfl ?_
                          refine i_get (v := .ref (q 33)) B flX9_84 0 rfl rfl dX9_part_135 ?_
                          refine i_iload_n B 5 dX9_part_138 rfl ?_
                          refine i_ialdN B 22 S rfl rfl (by omega) (by decide) dX9_part_139 ?_
                          refine i_val (v' := .int (ls2 S)) rfl ?_
                          refine i_icmp_ge B 159 dX9_part_140 (by decide) (fun h9 => ?_) (fun h9 => ?_)
                          · replace h9 := q_n32.mpr h9
                            refine i_iload_n B 3 dX9_part_159 rfl ?_
                            refine i_iconst (v := 1) B dX9_part_160 (by decide) ?_
                            refine i_isub B dX9_part_161 ?_
                            refine i_iload_n B 5 dX9_part_162 rfl ?_
                            refine i_iand B dX9_part_163 ?_
                            refine i_istore_n B [(3, .int (((nI sub) - 1) &&& (nI S))), (6, .int ((PT (g 18) (rnd (lgm g a nc nv) (g 19) nv) (S ^^^ sub)).2 + (rnd (lgm g a nc nv) (g 19) nv sub))), (5, .int ((PT (g 18) (rnd (lgm g a nc nv) (g 19) nv) (S ^^^ sub)).1 + 1)), (4, .int (rnd (lgm g a nc nv) (g 19) nv sub)), (2, .int ((nI S) &&& (-(nI S)))), (1, .int (nI S)), (0, .ref h)] dX9_part_164 (by decide) rfl ?_
                            refine i_goto B 46 dX9_part_165 (by decide) ?_
                            refine i_locals [0, 4, 5, 6] (L' := [(3, .int (((nI sub) - 1) &&& (nI S))), (2, .int ((nI S) &&& (-(nI S)))), (1, .int (nI S)), (0, .ref h)]) rfl ?_
                            refine i_Leq (congrArg (fun z_9 => ([(3, .int z_9), (2, .int ((nI S) &&& (-(nI S)))), (1, .int (nI S)), (0, .ref h)] : List (Nat × Value))) (show ((((nI sub) - 1) &&& (nI S)) : Int32) = (nI ((sub - 1) &&& S)) from low_sub h3)) ?_
                            exact ih_lb ((sub - 1) &&& S) m fw2 ls2 (by (have := and_pred (S := S) (sub := sub); omega)) (sub_and _ _) (by (have := and_pred (S := S) (sub := sub); omega)) ht2 (by rw [hfo, pfo, if_neg (by omega), pst]; simp only [h4d, h5, h6, h7, h8d, h9, decide_true, decide_false, Bool.not_true, Bool.not_false, Bool.true_and, Bool.false_and, Bool.and_true, Bool.and_false, Bool.true_or, Bool.or_true, Bool.false_or, Bool.or_false, bI_t, bI_f, if_true, if_false, ite_true, ite_false, Bool.false_eq_true, Bool.true_eq_false, eq_self, reduceIte, true_or, or_true, false_or, or_false, and_true, true_and, and_false, false_and, not_true_eq_false, not_false_eq_true, decide_eq_true_eq, decide_eq_false_iff_not])
                          · replace h9 := q_m32.mp h9
                            refine i_aload_n B 6 dX9_part_143 rfl ?_
                            refine i_get (v := .ref (q 32)) B flX9_81 0 rfl rfl dX9_part_144 ?_
                            refine i_iload_n B 5 dX9_part_147 rfl ?_
                            refine i_iload B 1 dX9_part_148 rfl ?_
                            refine i_iastN B 21 S (mW E h q g (va_up (va_up (va_up (va_up a 30 f9) 31 r9) 33 ls2) 32 (upd fw2 S ((PT (g 18) (rnd (lgm g a nc nv) (g 19) nv) (S ^^^ sub)).1 + 1)))) rfl rfl (by omega) (by decide) rfl dX9_part_150 ?_
                            refine i_aload_n B 6 dX9_part_151 rfl ?_
                            refine i_get (v := .ref (q 33)) B flX9_84 0 rfl rfl dX9_part_152 ?_
                            refine i_iload_n B 5 dX9_part_155 rfl ?_
                            refine i_iload B 0 dX9_part_156 rfl ?_
                            refine i_iastN B 22 S (mW E h q g (va_up (va_up (va_up (va_up a 30 f9) 31 r9) 32 (upd fw2 S ((PT (g 18) (rnd (lgm g a nc nv) (g 19) nv) (S ^^^ sub)).1 + 1))) 33 (upd ls2 S ((PT (g 18) (rnd (lgm g a nc nv) (g 19) nv) (S ^^^ sub)).2 + (rnd (lgm g a nc nv) (g 19) nv sub))))) rfl rfl (by omega) (by decide) rfl dX9_part_158 ?_
                            refine i_iload_n B 3 dX9_part_159 rfl ?_
                            refine i_iconst (v := 1) B dX9_part_160 (by decide) ?_
                            refine i_isub B dX9_part_161 ?_
                            refine i_iload_n B 5 dX9_part_162 rfl ?_
                            refine i_iand B dX9_part_163 ?_
                            refine i_istore_n B [(3, .int (((nI sub) - 1) &&& (nI S))), (6, .int ((PT (g 18) (rnd (lgm g a nc nv) (g 19) nv) (S ^^^ sub)).2 + (rnd (lgm g a nc nv) (g 19) nv sub))), (5, .int ((PT (g 18) (rnd (lgm g a nc nv) (g 19) nv) (S ^^^ sub)).1 + 1)), (4, .int (rnd (lgm g a nc nv) (g 19) nv sub)), (2, .int ((nI S) &&& (-(nI S)))), (1, .int (nI S)), (0, .ref h)] dX9_part_164 (by decide) rfl ?_
                            refine i_goto B 46 dX9_part_165 (by decide) ?_
                            refine i_locals [0, 4, 5, 6] (L' := [(3, .int (((nI sub) - 1) &&& (nI S))), (2, .int ((nI S) &&& (-(nI S)))), (1, .int (nI S)), (0, .ref h)]) rfl ?_
                            refine i_Leq (congrArg (fun z_9 => ([(3, .int z_9), (2, .int ((nI S) &&& (-(nI S)))), (1, .int (nI S)), (0, .ref h)] : List (Nat × Value))) (show ((((nI sub) - 1) &&& (nI S)) : Int32) = (nI ((sub - 1) &&& S)) from low_sub h3)) ?_
                            exact ih_lb ((sub - 1) &&& S) m (upd fw2 S ((PT (g 18) (rnd (lgm g a nc nv) (g 19) nv) (S ^^^ sub)).1 + 1)) (upd ls2 S ((PT (g 18) (rnd (lgm g a nc nv) (g 19) nv) (S ^^^ sub)).2 + (rnd (lgm g a nc nv) (g 19) nv sub))) (by (have := and_pred (S := S) (sub := sub); omega)) (sub_and _ _) (by (have := and_pred (S := S) (sub := sub); omega)) (fun s hs => by rw [pk_un (by omega), pk_un (by omega)]; exact ht2 s hs) (by rw [pk_us, pk_us]; rw [hfo, pfo, if_neg (by omega), pst]; simp only [h4d, h5, h6, h7, h8d, h9, decide_true, decide_false, Bool.not_true, Bool.not_false, Bool.true_and, Bool.false_and, Bool.and_true, Bool.and_false, Bool.true_or, Bool.or_true, Bool.false_or, Bool.or_false, bI_t, bI_f, if_true, if_false, ite_true, ite_false, Bool.false_eq_true, Bool.true_eq_false, eq_self, reduceIte, true_or, or_true, false_or, or_false, and_true, true_and, and_false, false_and, not_true_eq_false, not_false_eq_true, decide_eq_true_eq, decide_eq_false_iff_not])
          exact lb (S + 1) S S (upd fw S 1000000) (upd ls S 0) (by omega) (Nat.and_self S) (Nat.le_refl _) (fun s hs => by rw [pk_un (by omega), pk_un (by omega)]; exact ht s hs) (by rw [pk_us, pk_us, p0, h2d]; simp only [decide_true, decide_false, Bool.not_true, Bool.not_false, Bool.true_and, Bool.false_and, Bool.and_true, Bool.and_false, Bool.true_or, Bool.or_true, Bool.false_or, Bool.or_false, bI_t, bI_f, if_true, if_false, ite_true, ite_false, Bool.false_eq_true, Bool.true_eq_false, eq_self, reduceIte, true_or, or_true, false_or, or_false, and_true, true_and, and_false, false_and, not_true_eq_false, not_false_eq_true, decide_eq_true_eq, decide_eq_false_iff_not])
        · rw [show (0 : Int32) = nI 0 from rfl, nI_eq (by omega) (by omega)] at h2
          have h2d := decide_eq_true h2
          refine i_iconst (v := 0) B dX9_part_25 (by decide) ?_
          refine i_goto B 31 dX9_part_26 (by decide) ?_
          refine i_iastN B 21 S (mW E h q g (va_up (va_up (va_up (va_up a 30 f9) 31 r9) 33 ls) 32 (upd fw S 0))) rfl rfl (by omega) (by decide) rfl dX9_part_31 ?_
          refine i_aload_n B 1 dX9_part_32 rfl ?_
          refine i_get (v := .ref (q 33)) B flX9_84 0 rfl rfl dX9_part_33 ?_
          refine i_iload_n B 0 dX9_part_36 rfl ?_
          refine i_iconst (v := 0) B dX9_part_37 (by decide) ?_
          refine i_iastN B 22 S (mW E h q g (va_up (va_up (va_up (va_up a 30 f9) 31 r9) 32 (upd fw S 0)) 33 (upd ls S 0))) rfl rfl (by omega) (by decide) rfl dX9_part_38 ?_
          refine i_iload_n B 0 dX9_part_39 rfl ?_
          refine i_iload_n B 0 dX9_part_40 rfl ?_
          refine i_ineg B dX9_part_41 ?_
          refine i_iand B dX9_part_42 ?_
          refine i_istore_n B [(2, .int ((nI S) &&& (-(nI S)))), (1, .int (nI S)), (0, .ref h)] dX9_part_43 (by decide) rfl ?_
          refine i_iload_n B 1 dX9_part_44 rfl ?_
          refine i_istore_n B [(3, .int (nI S)), (2, .int ((nI S) &&& (-(nI S)))), (1, .int (nI S)), (0, .ref h)] dX9_part_45 (by decide) rfl ?_
          have lb : ∀ (n_lb : Nat) (sub : Nat) (m : Nat) (fw2 : Nat → Int32) (ls2 : Nat → Int32), (sub < n_lb) → (sub &&& S = sub) → (sub ≤ m) → (∀ s : Nat, s < S → fw2 s = (PT (g 18) (rnd (lgm g a nc nv) (g 19) nv) s).1 ∧ ls2 s = (PT (g 18) (rnd (lgm g a nc nv) (g 19) nv) s).2) → (pfo (g 18) (rnd (lgm g a nc nv) (g 19) nv) (PT (g 18) (rnd (lgm g a nc nv) (g 19) nv)) S S S (p0 S) = pfo (g 18) (rnd (lgm g a nc nv) (g 19) nv) (PT (g 18) (rnd (lgm g a nc nv) (g 19) nv)) S m sub (fw2 S, ls2 S)) → J Z 0 0 (mW E h q g (va_up (va_up (va_up (va_up a 30 f9) 31 r9) 32 fw2) 33 ls2)) 46 [(3, .int (nI sub)), (2, .int ((nI S) &&& (-(nI S)))), (1, .int (nI S)), (0, .ref h)] [] := by
            intro n_lb
            induction n_lb with
            | zero => intro sub m fw2 ls2 hf_lb hsb hm ht2 hfo; omega
            | succ n_lb ih_lb =>
              intro sub m fw2 ls2 hf_lb hsb hm ht2 hfo
              refine i_iload_n B 0 dX9_part_46 rfl ?_
              refine i_if_le B 168 dX9_part_47 (by decide) (fun h10 => ?_) (fun h10 => ?_)
              · replace h10 := q_n32.mpr h10
                have hle := sub_le hsb
                rw [show (0 : Int32) = nI 0 from rfl, nI_ltI (by omega) (by omega)] at h10
                refine i_iinc (v := (nI (S + 1))) B 2 [(1, .int (nI (S + 1))), (3, .int (nI sub)), (2, .int ((nI S) &&& (-(nI S)))), (0, .ref h)] dX9_part_168 rfl ((nI_1 _)) (by decide) rfl ?_
                refine i_goto B 6 dX9_part_171 (by decide) ?_
                refine i_locals [0, 3] (L' := [(1, .int (nI (S + 1))), (0, .ref h)]) rfl ?_
                exact ih_la (S + 1) fw2 ls2 (by omega) (by omega) (fun s h => by (by_cases e : s = S; (subst e; have e1 : PT (g 18) (rnd (lgm g a nc nv) (g 19) nv) s = (fw2 s, ls2 s) := (by (rw [PT_eq, hfo, show sub = 0 by omega]; cases m <;> rfl)); rw [e1]; exact ⟨rfl, rfl⟩); (exact ht2 s (by omega))))
              · replace h10 := q_m32.mp h10
                have hle := sub_le hsb
                rw [show (0 : Int32) = nI 0 from rfl, nI_ltI (by omega) (by omega)] at h10
                obtain ⟨m, rfl⟩ : ∃ m9, m = m9 + 1 := ⟨m - 1, by omega⟩
                have hxl := sub_lt hsb (by omega)
                have hxt := ht2 _ hxl
                refine i_aload_n B 3 dX9_part_50 rfl ?_
                refine i_iload_n B 0 dX9_part_51 rfl ?_
                refine c_roV (rest := []) (As := [.int (nI sub)]) B (k_X9_roundOf l E h q g (va_up (va_up (va_up (va_up a 30 f9) 31 r9) 32 fw2) 33 ls2) sub (by omega)) cal_yX9_roundOf iv_yX9_roundOf mlX9_196 rfl 0 rfl (by decide) (by decide) rfl (Nat.le_of_ble_eq_true rfl) Has.rf _ rfl dX9_part_52 (fun r hr => ?_)
                subst hr
                refine i_val (v' := .int (rdo r9 sub)) rfl ?_
                refine i_val (v' := .int (rnd (lgm g a nc nv) (g 19) nv sub)) (congrArg Value.int (rdo_eq (hr9 sub 10 (by omega) (by omega)))) ?_
                refine i_istore B [(4, .int (rnd (lgm g a nc nv) (g 19) nv sub)), (3, .int (nI sub)), (2, .int ((nI S) &&& (-(nI S)))), (1, .int (nI S)), (0, .ref h)] dX9_part_55 (by decide) rfl ?_
                refine i_iload_n B 1 dX9_part_57 rfl ?_
                refine i_iload_n B 2 dX9_part_58 rfl ?_
                refine i_iand B dX9_part_59 ?_
                refine i_if_eq B 159 dX9_part_60 (by decide) (fun h11 => ?_) (fun h11 => ?_)
                · have h11d := decide_eq_true h11
                  refine i_iload_n B 1 dX9_part_159 rfl ?_
                  refine i_iconst (v := 1) B dX9_part_160 (by decide) ?_
                  refine i_isub B dX9_part_161 ?_
                  refine i_iload_n B 3 dX9_part_162 rfl ?_
                  refine i_iand B dX9_part_163 ?_
                  refine i_istore_n B [(3, .int (((nI sub) - 1) &&& (nI S))), (4, .int (rnd (lgm g a nc nv) (g 19) nv sub)), (2, .int ((nI S) &&& (-(nI S)))), (1, .int (nI S)), (0, .ref h)] dX9_part_164 (by decide) rfl ?_
                  refine i_goto B 46 dX9_part_165 (by decide) ?_
                  refine i_locals [0, 2, 3, 4] (L' := [(3, .int (((nI sub) - 1) &&& (nI S))), (2, .int ((nI S) &&& (-(nI S)))), (1, .int (nI S)), (0, .ref h)]) rfl ?_
                  refine i_Leq (congrArg (fun z_9 => ([(3, .int z_9), (2, .int ((nI S) &&& (-(nI S)))), (1, .int (nI S)), (0, .ref h)] : List (Nat × Value))) (show ((((nI sub) - 1) &&& (nI S)) : Int32) = (nI ((sub - 1) &&& S)) from low_sub h10)) ?_
                  exact ih_lb ((sub - 1) &&& S) m fw2 ls2 (by (have := and_pred (S := S) (sub := sub); omega)) (sub_and _ _) (by (have := and_pred (S := S) (sub := sub); omega)) ht2 (by rw [hfo, pfo, if_neg (by omega), pst]; simp only [h11d, decide_true, decide_false, Bool.not_true, Bool.not_false, Bool.true_and, Bool.false_and, Bool.and_true, Bool.and_false, Bool.true_or, Bool.or_true, Bool.false_or, Bool.or_false, bI_t, bI_f, if_true, if_false, ite_true, ite_false, Bool.false_eq_true, Bool.true_eq_false, eq_self, reduceIte, true_or, or_true, false_or, or_false, and_true, true_and, and_false, false_and, not_true_eq_false, not_false_eq_true, decide_eq_true_eq, decide_eq_false_iff_not])
                · have h11d := decide_eq_false h11
                  refine i_iload B 0 dX9_part_63 rfl ?_
                  refine i_aload_n B 4 dX9_part_65 rfl ?_
                  refine i_get (v := .int (g 18)) B flX9_47 0 rfl rfl dX9_part_66 ?_
                  refine i_icmp_gt B 159 dX9_part_69 (by decide) (fun h12 => ?_) (fun h12 => ?_)
                  · refine i_iload_n B 1 dX9_part_159 rfl ?_
                    refine i_iconst (v := 1) B dX9_part_160 (by decide) ?_
                    refine i_isub B dX9_part_161 ?_
                    refine i_iload_n B 3 dX9_part_162 rfl ?_
                    refine i_iand B dX9_part_163 ?_
                    refine i_istore_n B [(3, .int (((nI sub) - 1) &&& (nI S))), (4, .int (rnd (lgm g a nc nv) (g 19) nv sub)), (2, .int ((nI S) &&& (-(nI S)))), (1, .int (nI S)), (0, .ref h)] dX9_part_164 (by decide) rfl ?_
                    refine i_goto B 46 dX9_part_165 (by decide) ?_
                    refine i_locals [0, 2, 3, 4] (L' := [(3, .int (((nI sub) - 1) &&& (nI S))), (2, .int ((nI S) &&& (-(nI S)))), (1, .int (nI S)), (0, .ref h)]) rfl ?_
                    refine i_Leq (congrArg (fun z_9 => ([(3, .int z_9), (2, .int ((nI S) &&& (-(nI S)))), (1, .int (nI S)), (0, .ref h)] : List (Nat × Value))) (show ((((nI sub) - 1) &&& (nI S)) : Int32) = (nI ((sub - 1) &&& S)) from low_sub h10)) ?_
                    exact ih_lb ((sub - 1) &&& S) m fw2 ls2 (by (have := and_pred (S := S) (sub := sub); omega)) (sub_and _ _) (by (have := and_pred (S := S) (sub := sub); omega)) ht2 (by rw [hfo, pfo, if_neg (by omega), pst]; simp only [h11d, h12, decide_true, decide_false, Bool.not_true, Bool.not_false, Bool.true_and, Bool.false_and, Bool.and_true, Bool.and_false, Bool.true_or, Bool.or_true, Bool.false_or, Bool.or_false, bI_t, bI_f, if_true, if_false, ite_true, ite_false, Bool.false_eq_true, Bool.true_eq_false, eq_self, reduceIte, true_or, or_true, false_or, or_false, and_true, true_and, and_false, false_and, not_true_eq_false, not_false_eq_true, decide_eq_true_eq, decide_eq_false_iff_not])
                  · refine i_aload_n B 4 dX9_part_72 rfl ?_
                    refine i_get (v := .ref (q 32)) B flX9_81 0 rfl rfl dX9_part_73 ?_
                    refine i_iload_n B 3 dX9_part_76 rfl ?_
                    refine i_iload_n B 1 dX9_part_77 rfl ?_
                    refine i_ixor B dX9_part_78 ?_
                    refine i_ialdN B 21 (S ^^^ sub) rfl (nx_xor _ _) (by omega) (by decide) dX9_part_79 ?_
                    refine i_val (v' := .int (fw2 (S ^^^ sub))) rfl ?_
                    refine i_val (v' := .int (PT (g 18) (rnd (lgm g a nc nv) (g 19) nv) (S ^^^ sub)).1) (congrArg Value.int (hxt.1)) ?_
                    refine i_ldc B ckX9_151 dX9_part_80 ?_
                    refine i_icmp_ge B 159 dX9_part_82 (by decide) (fun h13 => ?_) (fun h13 => ?_)
                    · replace h13 := q_n32.mpr h13
                      refine i_iload_n B 1 dX9_part_159 rfl ?_
                      refine i_iconst (v := 1) B dX9_part_160 (by decide) ?_
                      refine i_isub B dX9_part_161 ?_
                      refine i_iload_n B 3 dX9_part_162 rfl ?_
                      refine i_iand B dX9_part_163 ?_
                      refine i_istore_n B [(3, .int (((nI sub) - 1) &&& (nI S))), (4, .int (rnd (lgm g a nc nv) (g 19) nv sub)), (2, .int ((nI S) &&& (-(nI S)))), (1, .int (nI S)), (0, .ref h)] dX9_part_164 (by decide) rfl ?_
                      refine i_goto B 46 dX9_part_165 (by decide) ?_
                      refine i_locals [0, 2, 3, 4] (L' := [(3, .int (((nI sub) - 1) &&& (nI S))), (2, .int ((nI S) &&& (-(nI S)))), (1, .int (nI S)), (0, .ref h)]) rfl ?_
                      refine i_Leq (congrArg (fun z_9 => ([(3, .int z_9), (2, .int ((nI S) &&& (-(nI S)))), (1, .int (nI S)), (0, .ref h)] : List (Nat × Value))) (show ((((nI sub) - 1) &&& (nI S)) : Int32) = (nI ((sub - 1) &&& S)) from low_sub h10)) ?_
                      exact ih_lb ((sub - 1) &&& S) m fw2 ls2 (by (have := and_pred (S := S) (sub := sub); omega)) (sub_and _ _) (by (have := and_pred (S := S) (sub := sub); omega)) ht2 (by rw [hfo, pfo, if_neg (by omega), pst]; simp only [h11d, h12, h13, decide_true, decide_false, Bool.not_true, Bool.not_false, Bool.true_and, Bool.false_and, Bool.and_true, Bool.and_false, Bool.true_or, Bool.or_true, Bool.false_or, Bool.or_false, bI_t, bI_f, if_true, if_false, ite_true, ite_false, Bool.false_eq_true, Bool.true_eq_false, eq_self, reduceIte, true_or, or_true, false_or, or_false, and_true, true_and, and_false, false_and, not_true_eq_false, not_false_eq_true, decide_eq_true_eq, decide_eq_false_iff_not])
                    · replace h13 := q_m32.mp h13
                      refine i_aload_n B 4 dX9_part_85 rfl ?_
                      refine i_get (v := .ref (q 32)) B flX9_81 0 rfl rfl dX9_part_86 ?_
                      refine i_iload_n B 3 dX9_part_89 rfl ?_
                      refine i_iload_n B 1 dX9_part_90 rfl ?_
                      refine i_ixor B dX9_part_91 ?_
                      refine i_ialdN B 21 (S ^^^ sub) rfl (nx_xor _ _) (by omega) (by decide) dX9_part_92 ?_
                      refine i_val (v' := .int (fw2 (S ^^^ sub))) rfl ?_
                      refine i_val (v' := .int (PT (g 18) (rnd (lgm g a nc nv) (g 19) nv) (S ^^^ sub)).1) (congrArg Value.int (hxt.1)) ?_
                      refine i_iconst (v := 1) B dX9_part_93 (by decide) ?_
                      refine i_iadd B dX9_part_94 ?_
                      refine i_istore B [(5, .int ((PT (g 18) (rnd (lgm g a nc nv) (g 19) nv) (S ^^^ sub)).1 + 1)), (4, .int (rnd (lgm g a nc nv) (g 19) nv sub)), (3, .int (nI sub)), (2, .int ((nI S) &&& (-(nI S)))), (1, .int (nI S)), (0, .ref h)] dX9_part_95 (by decide) rfl ?_
                      refine i_aload_n B 5 dX9_part_97 rfl ?_
                      refine i_get (v := .ref (q 33)) B flX9_84 0 rfl rfl dX9_part_98 ?_
                      refine i_iload_n B 4 dX9_part_101 rfl ?_
                      refine i_iload_n B 2 dX9_part_102 rfl ?_
                      refine i_ixor B dX9_part_103 ?_
                      refine i_ialdN B 22 (S ^^^ sub) rfl (nx_xor _ _) (by omega) (by decide) dX9_part_104 ?_
                      refine i_val (v' := .int (ls2 (S ^^^ sub))) rfl ?_
                      refine i_val (v' := .int (PT (g 18) (rnd (lgm g a nc nv) (g 19) nv) (S ^^^ sub)).2) (congrArg Value.int (hxt.2)) ?_
                      refine i_iload B 1 dX9_part_105 rfl ?_
                      refine i_iadd B dX9_part_107 ?_
                      refine i_istore B [(6, .int ((PT (g 18) (rnd (lgm g a nc nv) (g 19) nv) (S ^^^ sub)).2 + (rnd (lgm g a nc nv) (g 19) nv sub))), (5, .int ((PT (g 18) (rnd (lgm g a nc nv) (g 19) nv) (S ^^^ sub)).1 + 1)), (4, .int (rnd (lgm g a nc nv) (g 19) nv sub)), (3, .int (nI sub)), (2, .int ((nI S) &&& (-(nI S)))), (1, .int (nI S)), (0, .ref h)] dX9_part_108 (by decide) rfl ?_
                      refine i_iload B 1 dX9_part_110 rfl ?_
                      refine i_aload_n B 6 dX9_part_112 rfl ?_
                      refine i_get (v := .ref (q 32)) B flX9_81 0 rfl rfl dX9_part_113 ?_
                      refine i_iload_n B 5 dX9_part_116 rfl ?_
                      refine i_ialdN B 21 S rfl rfl (by omega) (by decide) dX9_part_117 ?_
                      refine i_val (v' := .int (fw2 S)) rfl ?_
                      refine i_icmp_lt B 143 dX9_part_118 (by decide) (fun h14 => ?_) (fun h14 => ?_)
                      · refine i_aload_n B 6 dX9_part_143 rfl ?_
                        refine i_get (v := .ref (q 32)) B flX9_81 0 rfl rfl dX9_part_144 ?_
                        refine i_iload_n B 5 dX9_part_147 rfl ?_
                        refine i_iload B 1 dX9_part_148 rfl ?_
                        refine i_iastN B 21 S (mW E h q g (va_up (va_up (va_up (va_up a 30 f9) 31 r9) 33 ls2) 32 (upd fw2 S ((PT (g 18) (rnd (lgm g a nc nv) (g 19) nv) (S ^^^ sub)).1 + 1)))) rfl rfl (by omega) (by decide) rfl dX9_part_150 ?_
                        refine i_aload_n B 6 dX9_part_151 rfl ?_
                        refine i_get (v := .ref (q 33)) B flX9_84 0 rfl rfl dX9_part_152 ?_
                        refine i_iload_n B 5 dX9_part_155 rfl ?_
                        refine i_iload B 0 dX9_part_156 rfl ?_
                        refine i_iastN B 22 S (mW E h q g (va_up (va_up (va_up (va_up a 30 f9) 31 r9) 32 (upd fw2 S ((PT (g 18) (rnd (lgm g a nc nv) (g 19) nv) (S ^^^ sub)).1 + 1))) 33 (upd ls2 S ((PT (g 18) (rnd (lgm g a nc nv) (g 19) nv) (S ^^^ sub)).2 + (rnd (lgm g a nc nv) (g 19) nv sub))))) rfl rfl (by omega) (by decide) rfl dX9_part_158 ?_
                        refine i_iload_n B 3 dX9_part_159 rfl ?_
                        refine i_iconst (v := 1) B dX9_part_160 (by decide) ?_
                        refine i_isub B dX9_part_161 ?_
                        refine i_iload_n B 5 dX9_part_162 rfl ?_
                        refine i_iand B dX9_part_163 ?_
                        refine i_istore_n B [(3, .int (((nI sub) - 1) &&& (nI S))), (6, .int ((PT (g 18) (rnd (lgm g a nc nv) (g 19) nv) (S ^^^ sub)).2 + (rnd (lgm g a nc nv) (g 19) nv sub))), (5, .int ((PT (g 18) (rnd (lgm g a nc nv) (g 19) nv) (S ^^^ sub)).1 + 1)), (4, .int (rnd (lgm g a nc nv) (g 19) nv sub)), (2, .int ((nI S) &&& (-(nI S)))), (1, .int (nI S)), (0, .ref h)] dX9_part_164 (by decide) rfl ?_
                        refine i_goto B 46 dX9_part_165 (by decide) ?_
                        refine i_locals [0, 4, 5, 6] (L' := [(3, .int (((nI sub) - 1) &&& (nI S))), (2, .int ((nI S) &&& (-(nI S)))), (1, .int (nI S)), (0, .ref h)]) rfl ?_
                        refine i_Leq (congrArg (fun z_9 => ([(3, .int z_9), (2, .int ((nI S) &&& (-(nI S)))), (1, .int (nI S)), (0, .ref h)] : List (Nat × Value))) (show ((((nI sub) - 1) &&& (nI S)) : Int32) = (nI ((sub - 1) &&& S)) from low_sub h10)) ?_
                        exact ih_lb ((sub - 1) &&& S) m (upd fw2 S ((PT (g 18) (rnd (lgm g a nc nv) (g 19) nv) (S ^^^ sub)).1 + 1)) (upd ls2 S ((PT (g 18) (rnd (lgm g a nc nv) (g 19) nv) (S ^^^ sub)).2 + (rnd (lgm g a nc nv) (g 19) nv sub))) (by (have := and_pred (S := S) (sub := sub); omega)) (sub_and _ _) (by (have := and_pred (S := S) (sub := sub); omega)) (fun s hs => by rw [pk_un (by omega), pk_un (by omega)]; exact ht2 s hs) (by rw [pk_us, pk_us]; rw [hfo, pfo, if_neg (by omega), pst]; simp only [h11d, h12, h13, h14, decide_true, decide_false, Bool.not_true, Bool.not_false, Bool.true_and, Bool.false_and, Bool.and_true, Bool.and_false, Bool.true_or, Bool.or_true, Bool.false_or, Bool.or_false, bI_t, bI_f, if_true, if_false, ite_true, ite_false, Bool.false_eq_true, Bool.true_eq_false, eq_self, reduceIte, true_or, or_true, false_or, or_false, and_true, true_and, and_false, false_and, not_true_eq_false, not_false_eq_true, decide_eq_true_eq, decide_eq_false_iff_not])
                      · refine i_iload B 1 dX9_part_121 rfl ?_
                        refine i_aload_n B 6 dX9_part_123 rfl ?_
                        refine i_get (v := .ref (q 32)) B flX9_81 0 rfl rfl dX9_part_124 ?_
                        refine i_iload_n B 5 dX9_part_127 rfl ?_
                        refine i_ialdN B 21 S rfl rfl (by omega) (by decide) dX9_part_128 ?_
                        refine i_val (v' := .int (fw2 S)) rfl ?_
                        refine i_icmp_ne B 159 dX9_part_129 (by decide) (fun h15 => ?_) (fun h15 => ?_)
                        · have h15d := decide_eq_false h15
                          refine i_iload_n B 3 dX9_part_159 rfl ?_
                          refine i_iconst (v := 1) B dX9_part_160 (by decide) ?_
                          refine i_isub B dX9_part_161 ?_
                          refine i_iload_n B 5 dX9_part_162 rfl ?_
                          refine i_iand B dX9_part_163 ?_
                          refine i_istore_n B [(3, .int (((nI sub) - 1) &&& (nI S))), (6, .int ((PT (g 18) (rnd (lgm g a nc nv) (g 19) nv) (S ^^^ sub)).2 + (rnd (lgm g a nc nv) (g 19) nv sub))), (5, .int ((PT (g 18) (rnd (lgm g a nc nv) (g 19) nv) (S ^^^ sub)).1 + 1)), (4, .int (rnd (lgm g a nc nv) (g 19) nv sub)), (2, .int ((nI S) &&& (-(nI S)))), (1, .int (nI S)), (0, .ref h)] dX9_part_164 (by decide) rfl ?_
                          refine i_goto B 46 dX9_part_165 (by decide) ?_
                          refine i_locals [0, 4, 5, 6] (L' := [(3, .int (((nI sub) - 1) &&& (nI S))), (2, .int ((nI S) &&& (-(nI S)))), (1, .int (nI S)), (0, .ref h)]) rfl ?_
                          refine i_Leq (congrArg (fun z_9 => ([(3, .int z_9), (2, .int ((nI S) &&& (-(nI S)))), (1, .int (nI S)), (0, .ref h)] : List (Nat × Value))) (show ((((nI sub) - 1) &&& (nI S)) : Int32) = (nI ((sub - 1) &&& S)) from low_sub h10)) ?_
                          exact ih_lb ((sub - 1) &&& S) m fw2 ls2 (by (have := and_pred (S := S) (sub := sub); omega)) (sub_and _ _) (by (have := and_pred (S := S) (sub := sub); omega)) ht2 (by rw [hfo, pfo, if_neg (by omega), pst]; simp only [h11d, h12, h13, h14, h15d, decide_true, decide_false, Bool.not_true, Bool.not_false, Bool.true_and, Bool.false_and, Bool.and_true, Bool.and_false, Bool.true_or, Bool.or_true, Bool.false_or, Bool.or_false, bI_t, bI_f, if_true, if_false, ite_true, ite_false, Bool.false_eq_true, Bool.true_eq_false, eq_self, reduceIte, true_or, or_true, false_or, or_false, and_true, true_and, and_false, false_and, not_true_eq_false, not_false_eq_true, decide_eq_true_eq, decide_eq_false_iff_not])
                        · have h15d := decide_eq_true h15
                          refine i_iload B 0 dX9_part_132 rfl ?_
                          refine i_aload_n B 6 dX9_part_134 rfl ?_
                          refine i_get (v := .ref (q 33)) B flX9_84 0 rfl rfl dX9_part_135 ?_
                          refine i_iload_n B 5 dX9_part_138 rfl ?_
                          refine i_ialdN B 22 S rfl rfl (by omega) (by decide) dX9_part_139 ?_
                          refine i_val (v' := .int (ls2 S)) rfl ?_
                          refine i_icmp_ge B 159 dX9_part_140 (by decide) (fun h16 => ?_) (fun h16 => ?_)
                          · replace h16 := q_n32.mpr h16
                            refine i_iload_n B 3 dX9_part_159 rfl ?_
                            refine i_iconst (v := 1) B dX9_part_160 (by decide) ?_
                            refine i_isub B dX9_part_161 ?_
                            refine i_iload_n B 5 dX9_part_162 rfl ?_
                            refine i_iand B dX9_part_163 ?_
                            refine i_istore_n B [(3, .int (((nI sub) - 1) &&& (nI S))), (6, .int ((PT (g 18) (rnd (lgm g a nc nv) (g 19) nv) (S ^^^ sub)).2 + (rnd (lgm g a nc nv) (g 19) nv sub))), (5, .int ((PT (g 18) (rnd (lgm g a nc nv) (g 19) nv) (S ^^^ sub)).1 + 1)), (4, .int (rnd (lgm g a nc nv) (g 19) nv sub)), (2, .int ((nI S) &&& (-(nI S)))), (1, .int (nI S)), (0, .ref h)] dX9_part_164 (by decide) rfl ?_
                            refine i_goto B 46 dX9_part_165 (by decide) ?_
                            refine i_locals [0, 4, 5, 6] (L' := [(3, .int (((nI sub) - 1) &&& (nI S))), (2, .int ((nI S) &&& (-(nI S)))), (1, .int (nI S)), (0, .ref h)]) rfl ?_
                            refine i_Leq (congrArg (fun z_9 => ([(3, .int z_9), (2, .int ((nI S) &&& (-(nI S)))), (1, .int (nI S)), (0, .ref h)] : List (Nat × Value))) (show ((((nI sub) - 1) &&& (nI S)) : Int32) = (nI ((sub - 1) &&& S)) from low_sub h10)) ?_
                            exact ih_lb ((sub - 1) &&& S) m fw2 ls2 (by (have := and_pred (S := S) (sub := sub); omega)) (sub_and _ _) (by (have := and_pred (S := S) (sub := sub); omega)) ht2 (by rw [hfo, pfo, if_neg (by omega), pst]; simp only [h11d, h12, h13, h14, h15d, h16, decide_true, decide_false, Bool.not_true, Bool.not_false, Bool.true_and, Bool.false_and, Bool.and_true, Bool.and_false, Bool.true_or, Bool.or_true, Bool.false_or, Bool.or_false, bI_t, bI_f, if_true, if_false, ite_true, ite_false, Bool.false_eq_true, Bool.true_eq_false, eq_self, reduceIte, true_or, or_true, false_or, or_false, and_true, true_and, and_false, false_and, not_true_eq_false, not_false_eq_true, decide_eq_true_eq, decide_eq_false_iff_not])
                          · replace h16 := q_m32.mp h16
                            refine i_aload_n B 6 dX9_part_143 rfl ?_
                            refine i_get (v := .ref (q 32)) B flX9_81 0 rfl rfl dX9_part_144 ?_
                            refine i_iload_n B 5 dX9_part_147 rfl ?_
                            refine i_iload B 1 dX9_part_148 rfl ?_
                            refine i_iastN B 21 S (mW E h q g (va_up (va_up (va_up (va_up a 30 f9) 31 r9) 33 ls2) 32 (upd fw2 S ((PT (g 18) (rnd (lgm g a nc nv) (g 19) nv) (S ^^^ sub)).1 + 1)))) rfl rfl (by omega) (by decide) rfl dX9_part_150 ?_
                            refine i_aload_n B 6 dX9_part_151 rfl ?_
                            refine i_get (v := .ref (q 33)) B flX9_84 0 rfl rfl dX9_part_152 ?_
                            refine i_iload_n B 5 dX9_part_155 rfl ?_
                            refine i_iload B 0 dX9_part_156 rfl ?_
                            refine i_iastN B 22 S (mW E h q g (va_up (va_up (va_up (va_up a 30 f9) 31 r9) 32 (upd fw2 S ((PT (g 18) (rnd (lgm g a nc nv) (g 19) nv) (S ^^^ sub)).1 + 1))) 33 (upd ls2 S ((PT (g 18) (rnd (lgm g a nc nv) (g 19) nv) (S ^^^ sub)).2 + (rnd (lgm g a nc nv) (g 19) nv sub))))) rfl rfl (by omega) (by decide) rfl dX9_part_158 ?_
                            refine i_iload_n B 3 dX9_part_159 rfl ?_
                            refine i_iconst (v := 1) B dX9_part_160 (by decide) ?_
                            refine i_isub B dX9_part_161 ?_
                            refine i_iload_n B 5 dX9_part_162 rfl ?_
                            refine i_iand B dX9_part_163 ?_
                            refine i_istore_n B [(3, .int (((nI sub) - 1) &&& (nI S))), (6, .int ((PT (g 18) (rnd (lgm g a nc nv) (g 19) nv) (S ^^^ sub)).2 + (rnd (lgm g a nc nv) (g 19) nv sub))), (5, .int ((PT (g 18) (rnd (lgm g a nc nv) (g 19) nv) (S ^^^ sub)).1 + 1)), (4, .int (rnd (lgm g a nc nv) (g 19) nv sub)), (2, .int ((nI S) &&& (-(nI S)))), (1, .int (nI S)), (0, .ref h)] dX9_part_164 (by decide) rfl ?_
                            refine i_goto B 46 dX9_part_165 (by decide) ?_
                            refine i_locals [0, 4, 5, 6] (L' := [(3, .int (((nI sub) - 1) &&& (nI S))), (2, .int ((nI S) &&& (-(nI S)))), (1, .int (nI S)), (0, .ref h)]) rfl ?_
                            refine i_Leq (congrArg (fun z_9 => ([(3, .int z_9), (2, .int ((nI S) &&& (-(nI S)))), (1, .int (nI S)), (0, .ref h)] : List (Nat × Value))) (show ((((nI sub) - 1) &&& (nI S)) : Int32) = (nI ((sub - 1) &&& S)) from low_sub h10)) ?_
                            exact ih_lb ((sub - 1) &&& S) m (upd fw2 S ((PT (g 18) (rnd (lgm g a nc nv) (g 19) nv) (S ^^^ sub)).1 + 1)) (upd ls2 S ((PT (g 18) (rnd (lgm g a nc nv) (g 19) nv) (S ^^^ sub)).2 + (rnd (lgm g a nc nv) (g 19) nv sub))) (by (have := and_pred (S := S) (sub := sub); omega)) (sub_and _ _) (by (have := and_pred (S := S) (sub := sub); omega)) (fun s hs => by rw [pk_un (by omega), pk_un (by omega)]; exact ht2 s hs) (by rw [pk_us, pk_us]; rw [hfo, pfo, if_neg (by omega), pst]; simp only [h11d, h12, h13, h14, h15d, h16, decide_true, decide_false, Bool.not_true, Bool.not_false, Bool.true_and, Bool.false_and, Bool.and_true, Bool.and_false, Bool.true_or, Bool.or_true, Bool.false_or, Bool.or_false, bI_t, bI_f, if_true, if_false, ite_true, ite_false, Bool.false_eq_true, Bool.true_eq_false, eq_self, reduceIte, true_or, or_true, false_or, or_false, and_true, true_and, and_false, false_and, not_true_eq_false, not_false_eq_true, decide_eq_true_eq, decide_eq_false_iff_not])
          exact lb (S + 1) S S (upd fw S 0) (upd ls S 0) (by omega) (Nat.and_self S) (Nat.le_refl _) (fun s hs => by rw [pk_un (by omega), pk_un (by omega)]; exact ht s hs) (by rw [pk_us, pk_us, p0, h2d]; simp only [decide_true, decide_false, Bool.not_true, Bool.not_false, Bool.true_and, Bool.false_and, Bool.and_true, Bool.and_false, Bool.true_or, Bool.or_true, Bool.false_or, Bool.or_false, bI_t, bI_f, if_true, if_false, ite_true, ite_false, Bool.false_eq_true, Bool.true_eq_false, eq_self, reduceIte, true_or, or_true, false_or, or_false, and_true, true_and, and_false, false_and, not_true_eq_false, not_false_eq_true, decide_eq_true_eq, decide_eq_false_iff_not])
  refine i_Leq (congrArg (fun z_9 => ([(1, .int z_9), (0, .ref h)] : List (Nat × Value))) (show (0 : Int32) = (nI 0) from rfl)) ?_
  refine i_world (ws' := (mW E h q g (va_up (va_up (va_up (va_up a 30 f9) 31 r9) 32 (a 32)) 33 (a 33)))) (rfl) ?_
  exact la (2 ^ nv + 1) 0 (a 32) (a 33) (Nat.lt_succ_of_le (Nat.sub_le _ _)) (Nat.zero_le _) (fun s h => absurd h (by omega))

set_option maxHeartbeats 4000000 in
set_option maxRecDepth 100000 in
theorem k_X9_flights (l : Launch) (E : ED) (h : Nat) (q : Nat → Nat) (g : Nat → Int32) (a : Nat → Nat → Int32) (nc : Nat) (hc : g 11 = nI nc) (hnc : nc ≤ 4) (nv : Nat) (hv : g 8 = nI nv) (hnv : nv ≤ 10) (hpt : ∀ v, thr nv v = true → pt (a 9 v) (a 10 v) = true) (x : Int32) : WR l E yX9_flights cX9_flights 2 .int 5 149 0 0 [.ref h, .int x] (mW E h q g a) (fun r (_ : N4) => r = fliF g a nc nv x) (fun u : N4 => mW E h q g (va_up (va_up (va_up (va_up a 30 u.1) 31 u.2.1) 32 u.2.2.1) 33 u.2.2.2)) := by
  refine WR.mk (by decide) (Nat.le_of_ble_eq_true rfl) [(0, .ref h), (1, .int x)] rfl (fun Z B ret => ?_)
  refine i_aload_n B 0 dX9_flights_0 rfl ?_
  refine i_iconst (v := 0) B dX9_flights_1 (by decide) ?_
  refine i_put B flX9_99 0 (mW E h q g a) rfl rfl rfl rfl (Nat.le_of_ble_eq_true rfl) rfl dX9_flights_2 ?_
  refine i_aload_n B 0 dX9_flights_5 rfl ?_
  refine i_iload_n B 1 dX9_flights_6 rfl ?_
  refine c_roV (rest := []) (As := [.int x]) B (k_X9_noSet l E h q g a x) cal_yX9_noSet iv_yX9_noSet mlX9_163 rfl 0 rfl (by decide) (by decide) rfl (Nat.le_of_ble_eq_true rfl) Has.rf _ rfl dX9_flights_7 (fun r hr => ?_)
  subst hr
  refine i_val (v' := .int (bI (nset (g 8) x))) rfl ?_
  refine i_if_eq B 15 dX9_flights_10 (by decide) (fun h1 => ?_) (fun h1 => ?_)
  · replace h1 := bI_0.mp h1
    obtain ⟨S, hS, rfl⟩ := nset_ix hnv (by rw [← hv]; exact h1)
    have hpw := pow_le nv hnv
    refine i_aload_n B 0 dX9_flights_15 rfl ?_
    refine c_wvV (rest := []) (As := []) B (k_X9_part l E h q g a nc hc hnc nv hv hnv hpt) cal_yX9_part iv_yX9_part mlX9_199 rfl 0 rfl (by decide) (by decide) rfl (Nat.le_of_ble_eq_true rfl) ([]) ([]) rfl _ rfl dX9_flights_16 (fun ⟨f9, r9, fw9, ls9⟩ hr => ?_)
    dsimp only at hr
    refine i_world (ws' := (mW E h q g (va_up (va_up (va_up (va_up a 30 f9) 31 r9) 32 fw9) 33 ls9))) rfl ?_
    refine i_aload_n B 0 dX9_flights_19 rfl ?_
    refine i_get (v := .ref (q 32)) B flX9_81 0 rfl rfl dX9_flights_20 ?_
    refine i_iload_n B 1 dX9_flights_23 rfl ?_
    refine i_ialdN B 21 S rfl rfl (by omega) (by decide) dX9_flights_24 ?_
    refine i_val (v' := .int (fw9 S)) rfl ?_
    refine i_val (v' := .int (PTg g a nc nv S).1) (congrArg Value.int ((hr S hS).1)) ?_
    refine i_ldc B ckX9_151 dX9_flights_25 ?_
    refine i_icmp_lt B 35 dX9_flights_27 (by decide) (fun h2 => ?_) (fun h2 => ?_)
    · refine i_aload_n B 0 dX9_flights_35 rfl ?_
      refine i_get (v := .ref (q 32)) B flX9_81 0 rfl rfl dX9_flights_36 ?_
      refine i_iload_n B 1 dX9_flights_39 rfl ?_
      refine i_ialdN B 21 S rfl rfl (by omega) (by decide) dX9_flights_40 ?_
      refine i_val (v' := .int (fw9 S)) rfl ?_
      refine i_val (v' := .int (PTg g a nc nv S).1) (congrArg Value.int ((hr S hS).1)) ?_
      exact ret _ _ _ (f9, r9, fw9, ls9) rfl dX9_flights_41 (by simp only [fliF, ix_nI (show S < 2 ^ 31 by omega), h1, h2, decide_true, decide_false, Bool.not_true, Bool.not_false, Bool.true_and, Bool.false_and, Bool.and_true, Bool.and_false, Bool.true_or, Bool.or_true, Bool.false_or, Bool.or_false, Bool.and_self, Bool.or_self, bI_t, bI_f, if_true, if_false, ite_true, ite_false, Bool.false_eq_true, Bool.true_eq_false, eq_self, reduceIte, true_or, or_true, false_or, or_false, and_true, true_and, and_false, false_and, not_true_eq_false, not_false_eq_true, decide_eq_true_eq, decide_eq_false_iff_not])
    · refine i_bipush (v := (-9)) B dX9_flights_30 (by decide) ?_
      refine i_goto B 41 dX9_flights_32 (by decide) ?_
      exact ret _ _ _ (f9, r9, fw9, ls9) rfl dX9_flights_41 (by simp only [fliF, ix_nI (show S < 2 ^ 31 by omega), h1, h2, decide_true, decide_false, Bool.not_true, Bool.not_false, Bool.true_and, Bool.false_and, Bool.and_true, Bool.and_false, Bool.true_or, Bool.or_true, Bool.false_or, Bool.or_false, Bool.and_self, Bool.or_self, bI_t, bI_f, if_true, if_false, ite_true, ite_false, Bool.false_eq_true, Bool.true_eq_false, eq_self, reduceIte, true_or, or_true, false_or, or_false, and_true, true_and, and_false, false_and, not_true_eq_false, not_false_eq_true, decide_eq_true_eq, decide_eq_false_iff_not])
  · replace h1 := bI_n.mp h1
    refine i_iconst (v := (-1)) B dX9_flights_13 (by decide) ?_
    exact ret _ _ _ ((a 30), (a 31), (a 32), (a 33)) rfl dX9_flights_14 (by simp only [fliF, h1, decide_true, decide_false, Bool.not_true, Bool.not_false, Bool.true_and, Bool.false_and, Bool.and_true, Bool.and_false, Bool.true_or, Bool.or_true, Bool.false_or, Bool.or_false, Bool.and_self, Bool.or_self, bI_t, bI_f, if_true, if_false, ite_true, ite_false, Bool.false_eq_true, Bool.true_eq_false, eq_self, reduceIte, true_or, or_true, false_or, or_false, and_true, true_and, and_false, false_and, not_true_eq_false, not_false_eq_true, decide_eq_true_eq, decide_eq_false_iff_not])

set_option maxHeartbeats 4000000 in
set_option maxRecDepth 100000 in
theorem k_X9_energy (l : Launch) (E : ED) (h : Nat) (q : Nat → Nat) (g : Nat → Int32) (a : Nat → Nat → Int32) (nc : Nat) (hc : g 11 = nI nc) (hnc : nc ≤ 4) (nv : Nat) (hv : g 8 = nI nv) (hnv : nv ≤ 10) (hpt : ∀ v, thr nv v = true → pt (a 9 v) (a 10 v) = true) (x : Int32) : WR l E yX9_energy cX9_energy 2 .int 5 149 0 0 [.ref h, .int x] (mW E h q g a) (fun r (_ : N4) => r = eneF g a nc nv x) (fun u : N4 => mW E h q g (va_up (va_up (va_up (va_up a 30 u.1) 31 u.2.1) 32 u.2.2.1) 33 u.2.2.2)) := by
  refine WR.mk (by decide) (Nat.le_of_ble_eq_true rfl) [(0, .ref h), (1, .int x)] rfl (fun Z B ret => ?_)
  refine i_aload_n B 0 dX9_energy_0 rfl ?_
  refine i_iconst (v := 0) B dX9_energy_1 (by decide) ?_
  refine i_put B flX9_99 0 (mW E h q g a) rfl rfl rfl rfl (Nat.le_of_ble_eq_true rfl) rfl dX9_energy_2 ?_
  refine i_aload_n B 0 dX9_energy_5 rfl ?_
  refine i_iload_n B 1 dX9_energy_6 rfl ?_
  refine c_roV (rest := []) (As := [.int x]) B (k_X9_noSet l E h q g a x) cal_yX9_noSet iv_yX9_noSet mlX9_163 rfl 0 rfl (by decide) (by decide) rfl (Nat.le_of_ble_eq_true rfl) Has.rf _ rfl dX9_energy_7 (fun r hr => ?_)
  subst hr
  refine i_val (v' := .int (bI (nset (g 8) x))) rfl ?_
  refine i_if_eq B 15 dX9_energy_10 (by decide) (fun h1 => ?_) (fun h1 => ?_)
  · replace h1 := bI_0.mp h1
    obtain ⟨S, hS, rfl⟩ := nset_ix hnv (by rw [← hv]; exact h1)
    have hpw := pow_le nv hnv
    refine i_aload_n B 0 dX9_energy_15 rfl ?_
    refine c_wvV (rest := []) (As := []) B (k_X9_part l E h q g a nc hc hnc nv hv hnv hpt) cal_yX9_part iv_yX9_part mlX9_199 rfl 0 rfl (by decide) (by decide) rfl (Nat.le_of_ble_eq_true rfl) ([]) ([]) rfl _ rfl dX9_energy_16 (fun ⟨f9, r9, fw9, ls9⟩ hr => ?_)
    dsimp only at hr
    refine i_world (ws' := (mW E h q g (va_up (va_up (va_up (va_up a 30 f9) 31 r9) 32 fw9) 33 ls9))) rfl ?_
    refine i_aload_n B 0 dX9_energy_19 rfl ?_
    refine i_get (v := .ref (q 32)) B flX9_81 0 rfl rfl dX9_energy_20 ?_
    refine i_iload_n B 1 dX9_energy_23 rfl ?_
    refine i_ialdN B 21 S rfl rfl (by omega) (by decide) dX9_energy_24 ?_
    refine i_val (v' := .int (fw9 S)) rfl ?_
    refine i_val (v' := .int (PTg g a nc nv S).1) (congrArg Value.int ((hr S hS).1)) ?_
    refine i_ldc B ckX9_151 dX9_energy_25 ?_
    refine i_icmp_lt B 35 dX9_energy_27 (by decide) (fun h2 => ?_) (fun h2 => ?_)
    · refine i_aload_n B 0 dX9_energy_35 rfl ?_
      refine i_get (v := .ref (q 33)) B flX9_84 0 rfl rfl dX9_energy_36 ?_
      refine i_iload_n B 1 dX9_energy_39 rfl ?_
      refine i_ialdN B 22 S rfl rfl (by omega) (by decide) dX9_energy_40 ?_
      refine i_val (v' := .int (ls9 S)) rfl ?_
      refine i_val (v' := .int (PTg g a nc nv S).2) (congrArg Value.int ((hr S hS).2)) ?_
      exact ret _ _ _ (f9, r9, fw9, ls9) rfl dX9_energy_41 (by simp only [eneF, ix_nI (show S < 2 ^ 31 by omega), h1, h2, decide_true, decide_false, Bool.not_true, Bool.not_false, Bool.true_and, Bool.false_and, Bool.and_true, Bool.and_false, Bool.true_or, Bool.or_true, Bool.false_or, Bool.or_false, Bool.and_self, Bool.or_self, bI_t, bI_f, if_true, if_false, ite_true, ite_false, Bool.false_eq_true, Bool.true_eq_false, eq_self, reduceIte, true_or, or_true, false_or, or_false, and_true, true_and, and_false, false_and, not_true_eq_false, not_false_eq_true, decide_eq_true_eq, decide_eq_false_iff_not])
    · refine i_bipush (v := (-9)) B dX9_energy_30 (by decide) ?_
      refine i_goto B 41 dX9_energy_32 (by decide) ?_
      exact ret _ _ _ (f9, r9, fw9, ls9) rfl dX9_energy_41 (by simp only [eneF, ix_nI (show S < 2 ^ 31 by omega), h1, h2, decide_true, decide_false, Bool.not_true, Bool.not_false, Bool.true_and, Bool.false_and, Bool.and_true, Bool.and_false, Bool.true_or, Bool.or_true, Bool.false_or, Bool.or_false, Bool.and_self, Bool.or_self, bI_t, bI_f, if_true, if_false, ite_true, ite_false, Bool.false_eq_true, Bool.true_eq_false, eq_self, reduceIte, true_or, or_true, false_or, or_false, and_true, true_and, and_false, false_and, not_true_eq_false, not_false_eq_true, decide_eq_true_eq, decide_eq_false_iff_not])
  · replace h1 := bI_n.mp h1
    refine i_iconst (v := (-1)) B dX9_energy_13 (by decide) ?_
    exact ret _ _ _ ((a 30), (a 31), (a 32), (a 33)) rfl dX9_energy_14 (by simp only [eneF, h1, decide_true, decide_false, Bool.not_true, Bool.not_false, Bool.true_and, Bool.false_and, Bool.and_true, Bool.and_false, Bool.true_or, Bool.or_true, Bool.false_or, Bool.or_false, Bool.and_self, Bool.or_self, bI_t, bI_f, if_true, if_false, ite_true, ite_false, Bool.false_eq_true, Bool.true_eq_false, eq_self, reduceIte, true_or, or_true, false_or, or_false, and_true, true_and, and_false, false_and, not_true_eq_false, not_false_eq_true, decide_eq_true_eq, decide_eq_false_iff_not])
