theorem nx_and (a b : Nat) : nI a &&& nI b = nI (a &&& b) := by
  apply Int32.toBitVec_inj.1
  show BitVec.ofNat 32 a &&& BitVec.ofNat 32 b = BitVec.ofNat 32 (a &&& b)
  apply BitVec.eq_of_getLsbD_eq
  intro i hi
  simp [hi]
theorem nx_xor (a b : Nat) : nI a ^^^ nI b = nI (a ^^^ b) := by
  apply Int32.toBitVec_inj.1
  show BitVec.ofNat 32 a ^^^ BitVec.ofNat 32 b = BitVec.ofNat 32 (a ^^^ b)
  apply BitVec.eq_of_getLsbD_eq
  intro i hi
  simp [hi]
theorem xsub : ∀ S t : Nat, t &&& S = t → (S ^^^ t) + t = S := by
  intro S
  induction S using Nat.strongRecOn with
  | _ S ih =>
    intro t h
    by_cases h0 : S = 0
    · subst h0
      have : t = 0 := by rw [← h]; simp
      subst this
      rfl
    · have h2 : t / 2 &&& S / 2 = t / 2 := by rw [← Nat.and_div_two, h]
      have i2 := ih (S / 2) (by omega) (t / 2) h2
      have e1 : (S ^^^ t) / 2 = S / 2 ^^^ t / 2 := Nat.xor_div_two
      have e2 : ((S ^^^ t) % 2 = 1) ↔ ¬ ((S % 2 = 1) ↔ (t % 2 = 1)) := Nat.xor_mod_two_eq_one
      have e3 : (t &&& S) % 2 = 1 ↔ t % 2 = 1 ∧ S % 2 = 1 := Nat.and_mod_two_eq_one
      rw [h] at e3
      rw [← e1] at i2
      by_cases a1 : S % 2 = 1 <;> by_cases a2 : t % 2 = 1 <;> simp only [a1, a2, true_iff, iff_true, false_iff, iff_false, not_true_eq_false, not_false_eq_true, and_true, true_and, and_false, false_and, and_self] at e2 e3 <;> omega
theorem bit_in {S b : Nat} (h : S.testBit b = true) : 2 ^ b &&& S = 2 ^ b := by
  apply Nat.eq_of_testBit_eq
  intro i
  rw [Nat.testBit_and, Nat.testBit_two_pow]
  by_cases e : b = i
  · subst e; rw [h]; simp
  · simp [e]
theorem bit_lt {S b : Nat} (h : S.testBit b = true) : S ^^^ 2 ^ b < S := by
  have := xsub S (2 ^ b) (bit_in h)
  have := Nat.two_pow_pos b
  omega
theorem sm31 : ∀ b, b < 32 → ((nI b &&& 31).toBitVec.smod 32).toNat = b := by decide +kernel
/-- a bit of a set -/
theorem bit_iff {S b : Nat} (hS : S < 2 ^ 31) (hb : b < 32) : (nI S >>> (nI b &&& 31) &&& 1 = 1) ↔ S.testBit b = true := by
  rw [pk_shrN hS _ b (sm31 b hb), show (1 : Int32) = nI 1 from rfl, nx_and, Nat.and_one_is_mod, nI_eq (by omega) (by omega), Nat.testBit_eq_decide_div_mod_eq]
  simp
theorem nset_ix {x : Int32} {n : Nat} (hn : n ≤ 10) (h : nset (nI n) x = false) : ∃ S : Nat, S < 2 ^ n ∧ x = nI S := by
  unfold nset at h
  rw [Bool.or_eq_false_iff] at h
  obtain ⟨h1, h2⟩ := h
  obtain ⟨S, hS, rfl⟩ := nI_of (of_decide_eq_false h1)
  refine ⟨S, ?_, rfl⟩
  have h3 : nI S >>> (nI n &&& 31) = 0 := by simpa using h2
  have hd : S / 2 ^ n ≤ S := Nat.div_le_self _ _
  rw [pk_shrN hS _ n (sm31 n (by omega)), show (0 : Int32) = nI 0 from rfl, nI_eq (by omega) (by omega)] at h3
  have hp := Nat.two_pow_pos n
  exact (Nat.div_eq_zero_iff_lt hp).mp h3
theorem ins_cg {a b : Nat → Nat → Int32} (h2 : b 12 = a 12) (h3 : b 13 = a 13) (h4 : b 14 = a 14) (h5 : b 15 = a 15) (c : Nat) (ax ay bx by_ : Int32) : insF b c ax ay bx by_ = insF a c ax ay bx by_ := by
  rw [insF, insF, h2, h3, h4, h5]
theorem shF_cg {a b : Nat → Nat → Int32} (h2 : b 12 = a 12) (h3 : b 13 = a 13) (h4 : b 14 = a 14) (h5 : b 15 = a 15) (ax ay bx by_ : Int32) (n : Nat) : shF b ax ay bx by_ n = shF a ax ay bx by_ n := by
  induction n with
  | zero => rfl
  | succ n ih => rw [shF, shF, ih, ins_cg h2 h3 h4 h5]
theorem legF_cg {g : Nat → Int32} {a b : Nat → Nat → Int32} (h2 : b 12 = a 12) (h3 : b 13 = a 13) (h4 : b 14 = a 14) (h5 : b 15 = a 15) (nc : Nat) (ax ay bx by_ : Int32) : legF g b nc ax ay bx by_ = legF g a nc ax ay bx by_ := by
  rw [legF, legF, shF_cg h2 h3 h4 h5]
theorem legF_30 (g : Nat → Int32) (a : Nat → Nat → Int32) (f : Nat → Int32) (nc : Nat) (ax ay bx by_ : Int32) : legF g (va_up a 30 f) nc ax ay bx by_ = legF g a nc ax ay bx by_ := legF_cg (a := a) (b := va_up a 30 f) rfl rfl rfl rfl nc ax ay bx by_
def thr (nv x : Nat) : Bool := decide (x < nv) || decide (x = 10)
/-- the LEGS among VIEWS and THE BASE (10) -/
def lgm (g : Nat → Int32) (a : Nat → Nat → Int32) (nc nv x y : Nat) : Int32 := if (thr nv x && thr nv y) = true then legF g a nc (a 9 x) (a 10 x) (a 9 y) (a 10 y) else 1000000
/-- the least way on from x through the VIEWS of S, those below b looked at -/
def bst (lg : Nat → Nat → Int32) (hov : Int32) (T : Nat → Nat → Int32) (S x : Nat) : Nat → Int32
  | 0 => if decide (S = 0) = true then lg x 10 else 1000000
  | b + 1 => if S.testBit b = true then (if lg x b + hov + T (S ^^^ 2 ^ b) b < bst lg hov T S x b then lg x b + hov + T (S ^^^ 2 ^ b) b else bst lg hov T S x b) else bst lg hov T S x b
def rtb (lg : Nat → Nat → Int32) (hov : Int32) (nv : Nat) : Nat → Nat → Nat → Int32
  | 0 => fun _ _ => 0
  | n + 1 => fun S x => if S = n then bst lg hov (rtb lg hov nv n) n x nv else rtb lg hov nv n S x
/-- the least way on from x through all VIEWS of S and back -/
def Rr (lg : Nat → Nat → Int32) (hov : Int32) (nv S x : Nat) : Int32 := rtb lg hov nv (S + 1) S x
theorem bst_cg {lg lg' : Nat → Nat → Int32} {hov : Int32} {T T' : Nat → Nat → Int32} {S x n : Nat} (h0 : S = 0 → lg x 10 = lg' x 10) (h : ∀ b, b < n → S.testBit b = true → lg x b = lg' x b ∧ T (S ^^^ 2 ^ b) b = T' (S ^^^ 2 ^ b) b) : bst lg hov T S x n = bst lg' hov T' S x n := by
  induction n with
  | zero =>
    rw [bst, bst]
    by_cases e : S = 0
    · rw [h0 e]
    · simp [e]
  | succ n ih =>
    rw [bst, bst, ih (fun b hb => h b (by omega))]
    by_cases e : S.testBit n = true
    · rw [(h n (by omega) e).1, (h n (by omega) e).2]
    · simp [e]
theorem rtb_lt {lg : Nat → Nat → Int32} {hov : Int32} {nv n S x : Nat} (h : S < n) : rtb lg hov nv n S x = Rr lg hov nv S x := by
  induction n with
  | zero => omega
  | succ n ih =>
    by_cases e : S = n
    · subst e; rfl
    · show (if S = n then _ else rtb lg hov nv n S x) = _
      rw [if_neg e]; exact ih (by omega)
theorem Rr_eq (lg : Nat → Nat → Int32) (hov : Int32) (nv S x : Nat) : Rr lg hov nv S x = bst lg hov (Rr lg hov nv) S x nv := by
  rw [Rr]
  show (if S = S then bst lg hov (rtb lg hov nv S) S x nv else _) = _
  rw [if_pos rfl]
  exact bst_cg (fun _ => rfl) (fun b _ hb => ⟨rfl, rtb_lt (bit_lt hb)⟩)

set_option maxHeartbeats 4000000 in
set_option maxRecDepth 100000 in
theorem k_X9_fly (l : Launch) (E : ED) (h : Nat) (q : Nat → Nat) (g : Nat → Int32) (a : Nat → Nat → Int32) (nc : Nat) (hc : g 11 = nI nc) (hnc : nc ≤ 4) (nv : Nat) (hv : g 8 = nI nv) (hnv : nv ≤ 10) (hpt : ∀ v, thr nv v = true → pt (a 9 v) (a 10 v) = true) : WV l E yX9_fly cX9_fly 6 3 98 0 0 [.ref h] (mW E h q g a) (fun u : (Nat → Int32) × (Nat → Int32) => (∀ x y : Nat, x < 11 → y < 11 → u.1 (11 * x + y) = lgm g a nc nv x y) ∧ (∀ s y : Nat, s < 2 ^ nv → y < 11 → u.2 (11 * s + y) = Rr (lgm g a nc nv) (g 19) nv s y)) (fun u => mW E h q g (va_up (va_up a 30 u.1) 31 u.2)) := by
  refine WV.mk (by decide) (Nat.le_of_ble_eq_true rfl) [(0, .ref h)] rfl (fun Z B hI ret => ?_)
  have lc : ∀ (n_lc : Nat) (S : Nat) (f : Nat → Int32) (r1 : Nat → Int32), (2 ^ nv - S < n_lc) → (S ≤ 2 ^ nv) → (∀ x y : Nat, x < 11 → y < 11 → f (11 * x + y) = lgm g a nc nv x y) → ((∀ s y : Nat, y < 11 → 11 * s + y < 11 * S + 0 → r1 (11 * s + y) = Rr (lgm g a nc nv) (g 19) nv s y)) → J Z 0 0 (mW E h q g (va_up (va_up a 30 f) 31 r1)) 112 [(1, .int (nI S)), (0, .ref h)] [] := by
    intro n_lc
    induction n_lc with
    | zero => intro S f r1 hf_lc hS hf hr1; omega
    | succ n_lc ih_lc =>
      intro S f r1 hf_lc hS hf hr1
      have hpw := pow_le nv hnv
      refine i_iload_n B 0 dX9_fly_112 rfl ?_
      refine i_iconst (v := 1) B dX9_fly_113 (by decide) ?_
      refine i_aload_n B 1 dX9_fly_114 rfl ?_
      refine i_get (v := .int (g 8)) B flX9_111 0 rfl rfl dX9_fly_115 ?_
      refine i_ishl B dX9_fly_118 ?_
      refine i_icmp_ge B 254 dX9_fly_119 (by decide) (fun h1 => ?_) (fun h1 => ?_)
      · replace h1 := q_n32.mpr h1
        rw [hv, shl1 nv hnv, nI_ltI (by omega) (by omega)] at h1
        exact ret _ _ (f, r1) dX9_fly_254 (⟨hf, fun s y hs hy => hr1 s y hy (by omega)⟩)
      · replace h1 := q_m32.mp h1
        rw [hv, shl1 nv hnv, nI_ltI (by omega) (by omega)] at h1
        refine i_iconst (v := 0) B dX9_fly_122 (by decide) ?_
        refine i_istore_n B [(2, .int 0), (1, .int (nI S)), (0, .ref h)] dX9_fly_123 (by decide) rfl ?_
        have ld : ∀ (n_ld : Nat) (x : Nat) (r2 : Nat → Int32), (11 - x < n_ld) → (x ≤ 11) → ((∀ s y : Nat, y < 11 → 11 * s + y < 11 * S + x → r2 (11 * s + y) = Rr (lgm g a nc nv) (g 19) nv s y)) → J Z 0 0 (mW E h q g (va_up (va_up a 30 f) 31 r2)) 124 [(2, .int (nI x)), (1, .int (nI S)), (0, .ref h)] [] := by
          intro n_ld
          induction n_ld with
          | zero => intro x r2 hf_ld hx hr2; omega
          | succ n_ld ih_ld =>
            intro x r2 hf_ld hx hr2
            refine i_iload_n B 0 dX9_fly_124 rfl ?_
            refine i_bipush (v := 11) B dX9_fly_125 (by decide) ?_
            refine i_icmp_ge B 248 dX9_fly_127 (by decide) (fun h2 => ?_) (fun h2 => ?_)
            · replace h2 := q_n32.mpr h2
              rw [show (11 : Int32) = nI 11 from rfl, nI_ltI (by omega) (by omega)] at h2
              refine i_iinc (v := (nI (S + 1))) B 1 [(1, .int (nI (S + 1))), (2, .int (nI x)), (0, .ref h)] dX9_fly_248 rfl ((nI_1 _)) (by decide) rfl ?_
              refine i_goto B 112 dX9_fly_251 (by decide) ?_
              refine i_locals [0, 2] (L' := [(1, .int (nI (S + 1))), (0, .ref h)]) rfl ?_
              exact ih_lc (S + 1) f r2 (by omega) (by omega) hf (fun x y hy hl => hr2 x y hy (by omega))
            · replace h2 := q_m32.mp h2
              rw [show (11 : Int32) = nI 11 from rfl, nI_ltI (by omega) (by omega)] at h2
              refine i_iload_n B 1 dX9_fly_130 rfl ?_
              refine i_if_ne B 149 dX9_fly_131 (by decide) (fun h3 => ?_) (fun h3 => ?_)
              · rw [show (0 : Int32) = nI 0 from rfl, nI_eq (by omega) (by omega)] at h3
                have h3d := decide_eq_false h3
                refine i_ldc B ckX9_151 dX9_fly_149 ?_
                refine i_istore_n B [(3, .int 1000000), (2, .int (nI x)), (1, .int (nI S)), (0, .ref h)] dX9_fly_151 (by decide) rfl ?_
                refine i_iconst (v := 0) B dX9_fly_152 (by decide) ?_
                refine i_istore B [(4, .int 0), (3, .int 1000000), (2, .int (nI x)), (1, .int (nI S)), (0, .ref h)] dX9_fly_153 (by decide) rfl ?_
                have le : ∀ (n_le : Nat) (b : Nat), (nv - b < n_le) → (b ≤ nv) → J Z 0 0 (mW E h q g (va_up (va_up a 30 f) 31 r2)) 155 [(4, .int (nI b)), (3, .int (bst (lgm g a nc nv) (g 19) (Rr (lgm g a nc nv) (g 19) nv) S x b)), (2, .int (nI x)), (1, .int (nI S)), (0, .ref h)] [] := by
                  intro n_le
                  induction n_le with
                  | zero => intro b hf_le hb; omega
                  | succ n_le ih_le =>
                    intro b hf_le hb
                    refine i_iload B 0 dX9_fly_155 rfl ?_
                    refine i_aload_n B 4 dX9_fly_157 rfl ?_
                    refine i_get (v := .int (g 8)) B flX9_111 0 rfl rfl dX9_fly_158 ?_
                    refine i_icmp_ge B 230 dX9_fly_161 (by decide) (fun h4 => ?_) (fun h4 => ?_)
                    · replace h4 := q_n32.mpr h4
                      rw [hv, nI_ltI (by omega) (by omega)] at h4
                      refine i_aload_n B 4 dX9_fly_230 rfl ?_
                      refine i_get (v := .ref (q 31)) B flX9_78 0 rfl rfl dX9_fly_231 ?_
                      refine i_bipush (v := 11) B dX9_fly_234 (by decide) ?_
                      refine i_iload_n B 3 dX9_fly_236 rfl ?_
                      refine i_imul B dX9_fly_237 ?_
                      refine i_iload_n B 2 dX9_fly_238 rfl ?_
                      refine i_iadd B dX9_fly_239 ?_
                      refine i_iload_n B 1 dX9_fly_240 rfl ?_
                      refine i_iastN B 20 (11 * S + x) (mW E h q g (va_up (va_up a 30 f) 31 (upd r2 (11 * S + x) (bst (lgm g a nc nv) (g 19) (Rr (lgm g a nc nv) (g 19) nv) S x b)))) rfl (by rw [show (11 : Int32) = nI 11 from rfl, pk_mul, nI_add]) (by omega) (by decide) rfl dX9_fly_241 ?_
                      refine i_iinc (v := (nI (x + 1))) B 2 [(2, .int (nI (x + 1))), (4, .int (nI b)), (3, .int (bst (lgm g a nc nv) (g 19) (Rr (lgm g a nc nv) (g 19) nv) S x b)), (1, .int (nI S)), (0, .ref h)] dX9_fly_242 rfl ((nI_1 _)) (by decide) rfl ?_
                      refine i_goto B 124 dX9_fly_245 (by decide) ?_
                      refine i_locals [0, 3, 4] (L' := [(2, .int (nI (x + 1))), (1, .int (nI S)), (0, .ref h)]) rfl ?_
                      exact ih_ld (x + 1) (upd r2 (11 * S + x) (bst (lgm g a nc nv) (g 19) (Rr (lgm g a nc nv) (g 19) nv) S x b)) (by omega) (by omega) (fun s y hy hlt => by (by_cases e : 11 * s + y = 11 * S + x; (have e1 : s = S := (by omega); have e2 : y = x := (by omega); subst e1; subst e2; rw [pk_us, Rr_eq, show nv = b by omega]); (rw [pk_un e]; exact hr2 s y hy (by omega))))
                    · replace h4 := q_m32.mp h4
                      rw [hv, nI_ltI (by omega) (by omega)] at h4
                      refine i_iload_n B 3 dX9_fly_164 rfl ?_
                      refine i_iload B 0 dX9_fly_165 rfl ?_
                      refine i_ishr B dX9_fly_167 ?_
                      refine i_iconst (v := 1) B dX9_fly_168 (by decide) ?_
                      refine i_iand B dX9_fly_169 ?_
                      refine i_iconst (v := 1) B dX9_fly_170 (by decide) ?_
                      refine i_icmp_ne B 224 dX9_fly_171 (by decide) (fun h5 => ?_) (fun h5 => ?_)
                      · rw [bit_iff (by omega) (by omega)] at h5
                        have h5d := decide_eq_false h5
                        refine i_iinc (v := (nI (b + 1))) B 0 [(4, .int (nI (b + 1))), (3, .int (bst (lgm g a nc nv) (g 19) (Rr (lgm g a nc nv) (g 19) nv) S x b)), (2, .int (nI x)), (1, .int (nI S)), (0, .ref h)] dX9_fly_224 rfl ((nI_1 _)) (by decide) rfl ?_
                        refine i_goto B 155 dX9_fly_227 (by decide) ?_
                        refine i_Leq (congrArg (fun z_9 => ([(4, .int (nI (b + 1))), (3, .int z_9), (2, .int (nI x)), (1, .int (nI S)), (0, .ref h)] : List (Nat × Value))) (show ((bst (lgm g a nc nv) (g 19) (Rr (lgm g a nc nv) (g 19) nv) S x b) : Int32) = (bst (lgm g a nc nv) (g 19) (Rr (lgm g a nc nv) (g 19) nv) S x (b + 1)) from by rw [bst]; simp only [h5, if_true, if_false, ite_true, ite_false, Bool.false_eq_true, Bool.true_eq_false, eq_self, reduceIte, true_or, or_true, false_or, or_false, and_true, true_and, and_false, false_and, not_true_eq_false, not_false_eq_true, decide_eq_true_eq, decide_eq_false_iff_not])) ?_
                        exact ih_le (b + 1) (by omega) (by omega)
                      · rw [bit_iff (by omega) (by omega)] at h5
                        have h5d := decide_eq_true h5
                        refine i_aload_n B 4 dX9_fly_174 rfl ?_
                        refine i_get (v := .ref (q 30)) B flX9_75 0 rfl rfl dX9_fly_175 ?_
                        refine i_bipush (v := 11) B dX9_fly_178 (by decide) ?_
                        refine i_iload_n B 2 dX9_fly_180 rfl ?_
                        refine i_imul B dX9_fly_181 ?_
                        refine i_iload B 0 dX9_fly_182 rfl ?_
                        refine i_iadd B dX9_fly_184 ?_
                        refine i_ialdN B 19 (11 * x + b) rfl (by rw [show (11 : Int32) = nI 11 from rfl, pk_mul, nI_add]) (by omega) (by decide) dX9_fly_185 ?_
                        refine i_val (v' := .int (lgm g a nc nv x b)) (congrArg Value.int (hf x b (by omega) (by omega))) ?_
                        refine i_aload_n B 4 dX9_fly_186 rfl ?_
                        refine i_get (v := .int (g 19)) B flX9_187 0 rfl rfl dX9_fly_187 ?_
                        refine i_iadd B dX9_fly_190 ?_
                        refine i_aload_n B 4 dX9_fly_191 rfl ?_
                        refine i_get (v := .ref (q 31)) B flX9_78 0 rfl rfl dX9_fly_192 ?_
                        refine i_bipush (v := 11) B dX9_fly_195 (by decide) ?_
                        refine i_iload_n B 3 dX9_fly_197 rfl ?_
                        refine i_iconst (v := 1) B dX9_fly_198 (by decide) ?_
                        refine i_iload B 0 dX9_fly_199 rfl ?_
                        refine i_ishl B dX9_fly_201 ?_
                        refine i_ixor B dX9_fly_202 ?_
                        refine i_imul B dX9_fly_203 ?_
                        refine i_iload B 0 dX9_fly_204 rfl ?_
                        refine i_iadd B dX9_fly_206 ?_
                        refine i_ialdN B 20 (11 * (S ^^^ 2 ^ b) + b) rfl (by rw [shl1 b (by omega), nx_xor, show (11 : Int32) = nI 11 from rfl, pk_mul, nI_add]) (by have := bit_lt h5; omega) (by decide) dX9_fly_207 ?_
                        refine i_val (v' := .int (Rr (lgm g a nc nv) (g 19) nv (S ^^^ 2 ^ b) b)) (congrArg Value.int (hr2 (S ^^^ 2 ^ b) b (by omega) (by have := bit_lt h5; omega))) ?_
                        refine i_iadd B dX9_fly_208 ?_
                        refine i_istore B [(5, .int (((lgm g a nc nv x b) + (g 19)) + (Rr (lgm g a nc nv) (g 19) nv (S ^^^ 2 ^ b) b))), (4, .int (nI b)), (3, .int (bst (lgm g a nc nv) (g 19) (Rr (lgm g a nc nv) (g 19) nv) S x b)), (2, .int (nI x)), (1, .int (nI S)), (0, .ref h)] dX9_fly_209 (by decide) rfl ?_
                        refine i_iload B 0 dX9_fly_211 rfl ?_
                        refine i_iload_n B 2 dX9_fly_213 rfl ?_
                        refine i_icmp_ge B 222 dX9_fly_214 (by decide) (fun h6 => ?_) (fun h6 => ?_)
                        · replace h6 := q_n32.mpr h6
                          refine i_iload_n B 2 dX9_fly_222 rfl ?_
                          refine i_istore_n B [(3, .int (bst (lgm g a nc nv) (g 19) (Rr (lgm g a nc nv) (g 19) nv) S x b)), (5, .int (((lgm g a nc nv x b) + (g 19)) + (Rr (lgm g a nc nv) (g 19) nv (S ^^^ 2 ^ b) b))), (4, .int (nI b)), (2, .int (nI x)), (1, .int (nI S)), (0, .ref h)] dX9_fly_223 (by decide) rfl ?_
                          refine i_iinc (v := (nI (b + 1))) B 2 [(4, .int (nI (b + 1))), (3, .int (bst (lgm g a nc nv) (g 19) (Rr (lgm g a nc nv) (g 19) nv) S x b)), (5, .int (((lgm g a nc nv x b) + (g 19)) + (Rr (lgm g a nc nv) (g 19) nv (S ^^^ 2 ^ b) b))), (2, .int (nI x)), (1, .int (nI S)), (0, .ref h)] dX9_fly_224 rfl ((nI_1 _)) (by decide) rfl ?_
                          refine i_goto B 155 dX9_fly_227 (by decide) ?_
                          refine i_locals [0, 1, 3, 4, 5] (L' := [(4, .int (nI (b + 1))), (3, .int (bst (lgm g a nc nv) (g 19) (Rr (lgm g a nc nv) (g 19) nv) S x b)), (2, .int (nI x)), (1, .int (nI S)), (0, .ref h)]) rfl ?_
                          refine i_Leq (congrArg (fun z_9 => ([(4, .int (nI (b + 1))), (3, .int z_9), (2, .int (nI x)), (1, .int (nI S)), (0, .ref h)] : List (Nat × Value))) (show ((bst (lgm g a nc nv) (g 19) (Rr (lgm g a nc nv) (g 19) nv) S x b) : Int32) = (bst (lgm g a nc nv) (g 19) (Rr (lgm g a nc nv) (g 19) nv) S x (b + 1)) from by rw [bst]; simp only [h5, h6, if_true, if_false, ite_true, ite_false, Bool.false_eq_true, Bool.true_eq_false, eq_self, reduceIte, true_or, or_true, false_or, or_false, and_true, true_and, and_false, false_and, not_true_eq_false, not_false_eq_true, decide_eq_true_eq, decide_eq_false_iff_not])) ?_
                          exact ih_le (b + 1) (by omega) (by omega)
                        · replace h6 := q_m32.mp h6
                          refine i_iload B 0 dX9_fly_217 rfl ?_
                          refine i_goto B 223 dX9_fly_219 (by decide) ?_
                          refine i_istore_n B [(3, .int (((lgm g a nc nv x b) + (g 19)) + (Rr (lgm g a nc nv) (g 19) nv (S ^^^ 2 ^ b) b))), (5, .int (((lgm g a nc nv x b) + (g 19)) + (Rr (lgm g a nc nv) (g 19) nv (S ^^^ 2 ^ b) b))), (4, .int (nI b)), (2, .int (nI x)), (1, .int (nI S)), (0, .ref h)] dX9_fly_223 (by decide) rfl ?_
                          refine i_iinc (v := (nI (b + 1))) B 2 [(4, .int (nI (b + 1))), (3, .int (((lgm g a nc nv x b) + (g 19)) + (Rr (lgm g a nc nv) (g 19) nv (S ^^^ 2 ^ b) b))), (5, .int (((lgm g a nc nv x b) + (g 19)) + (Rr (lgm g a nc nv) (g 19) nv (S ^^^ 2 ^ b) b))), (2, .int (nI x)), (1, .int (nI S)), (0, .ref h)] dX9_fly_224 rfl ((nI_1 _)) (by decide) rfl ?_
                          refine i_goto B 155 dX9_fly_227 (by decide) ?_
                          refine i_locals [0, 1, 3, 4, 5] (L' := [(4, .int (nI (b + 1))), (3, .int (((lgm g a nc nv x b) + (g 19)) + (Rr (lgm g a nc nv) (g 19) nv (S ^^^ 2 ^ b) b))), (2, .int (nI x)), (1, .int (nI S)), (0, .ref h)]) rfl ?_
                          refine i_Leq (congrArg (fun z_9 => ([(4, .int (nI (b + 1))), (3, .int z_9), (2, .int (nI x)), (1, .int (nI S)), (0, .ref h)] : List (Nat × Value))) (show ((((lgm g a nc nv x b) + (g 19)) + (Rr (lgm g a nc nv) (g 19) nv (S ^^^ 2 ^ b) b)) : Int32) = (bst (lgm g a nc nv) (g 19) (Rr (lgm g a nc nv) (g 19) nv) S x (b + 1)) from by rw [bst]; simp only [h5, h6, if_true, if_false, ite_true, ite_false, Bool.false_eq_true, Bool.true_eq_false, eq_self, reduceIte, true_or, or_true, false_or, or_false, and_true, true_and, and_false, false_and, not_true_eq_false, not_false_eq_true, decide_eq_true_eq, decide_eq_false_iff_not])) ?_
                          exact ih_le (b + 1) (by omega) (by omega)
                refine i_Leq (congrArg (fun z_9 => ([(4, .int z_9), (3, .int 1000000), (2, .int (nI x)), (1, .int (nI S)), (0, .ref h)] : List (Nat × Value))) (show (0 : Int32) = (nI 0) from rfl)) ?_
                refine i_Leq (congrArg (fun z_9 => ([(4, .int (nI 0)), (3, .int z_9), (2, .int (nI x)), (1, .int (nI S)), (0, .ref h)] : List (Nat × Value))) (show (1000000 : Int32) = (bst (lgm g a nc nv) (g 19) (Rr (lgm g a nc nv) (g 19) nv) S x 0) from by rw [bst, h3d]; rfl)) ?_
                exact le (nv + 1) 0 (by omega) (Nat.zero_le _)
              · rw [show (0 : Int32) = nI 0 from rfl, nI_eq (by omega) (by omega)] at h3
                have h3d := decide_eq_true h3
                refine i_aload_n B 2 dX9_fly_134 rfl ?_
                refine i_get (v := .ref (q 30)) B flX9_75 0 rfl rfl dX9_fly_135 ?_
                refine i_bipush (v := 11) B dX9_fly_138 (by decide) ?_
                refine i_iload_n B 0 dX9_fly_140 rfl ?_
                refine i_imul B dX9_fly_141 ?_
                refine i_bipush (v := 10) B dX9_fly_142 (by decide) ?_
                refine i_iadd B dX9_fly_144 ?_
                refine i_ialdN B 19 (11 * x + 10) rfl (by rw [show (11 : Int32) = nI 11 from rfl, show (10 : Int32) = nI 10 from rfl, pk_mul, nI_add]) (by omega) (by decide) dX9_fly_145 ?_
                refine i_goto B 151 dX9_fly_146 (by decide) ?_
                refine i_istore_n B [(3, .int (f (11 * x + 10))), (2, .int (nI x)), (1, .int (nI S)), (0, .ref h)] dX9_fly_151 (by decide) rfl ?_
                refine i_iconst (v := 0) B dX9_fly_152 (by decide) ?_
                refine i_istore B [(4, .int 0), (3, .int (f (11 * x + 10))), (2, .int (nI x)), (1, .int (nI S)), (0, .ref h)] dX9_fly_153 (by decide) rfl ?_
                have le : ∀ (n_le : Nat) (b : Nat), (nv - b < n_le) → (b ≤ nv) → J Z 0 0 (mW E h q g (va_up (va_up a 30 f) 31 r2)) 155 [(4, .int (nI b)), (3, .int (bst (lgm g a nc nv) (g 19) (Rr (lgm g a nc nv) (g 19) nv) S x b)), (2, .int (nI x)), (1, .int (nI S)), (0, .ref h)] [] := by
                  intro n_le
                  induction n_le with
                  | zero => intro b hf_le hb; omega
                  | succ n_le ih_le =>
                    intro b hf_le hb
                    refine i_iload B 0 dX9_fly_155 rfl ?_
                    refine i_aload_n B 4 dX9_fly_157 rfl ?_
                    refine i_get (v := .int (g 8)) B flX9_111 0 rfl rfl dX9_fly_158 ?_
                    refine i_icmp_ge B 230 dX9_fly_161 (by decide) (fun h7 => ?_) (fun h7 => ?_)
                    · replace h7 := q_n32.mpr h7
                      rw [hv, nI_ltI (by omega) (by omega)] at h7
                      refine i_aload_n B 4 dX9_fly_230 rfl ?_
                      refine i_get (v := .ref (q 31)) B flX9_78 0 rfl rfl dX9_fly_231 ?_
                      refine i_bipush (v := 11) B dX9_fly_234 (by decide) ?_
                      refine i_iload_n B 3 dX9_fly_236 rfl ?_
                      refine i_imul B dX9_fly_237 ?_
                      refine i_iload_n B 2 dX9_fly_238 rfl ?_
                      refine i_iadd B dX9_fly_239 ?_
                      refine i_iload_n B 1 dX9_fly_240 rfl ?_
                      refine i_iastN B 20 (11 * S + x) (mW E h q g (va_up (va_up a 30 f) 31 (upd r2 (11 * S + x) (bst (lgm g a nc nv) (g 19) (Rr (lgm g a nc nv) (g 19) nv) S x b)))) rfl (by rw [show (11 : Int32) = nI 11 from rfl, pk_mul, nI_add]) (by omega) (by decide) rfl dX9_fly_241 ?_
                      refine i_iinc (v := (nI (x + 1))) B 2 [(2, .int (nI (x + 1))), (4, .int (nI b)), (3, .int (bst (lgm g a nc nv) (g 19) (Rr (lgm g a nc nv) (g 19) nv) S x b)), (1, .int (nI S)), (0, .ref h)] dX9_fly_242 rfl ((nI_1 _)) (by decide) rfl ?_
                      refine i_goto B 124 dX9_fly_245 (by decide) ?_
                      refine i_locals [0, 3, 4] (L' := [(2, .int (nI (x + 1))), (1, .int (nI S)), (0, .ref h)]) rfl ?_
                      exact ih_ld (x + 1) (upd r2 (11 * S + x) (bst (lgm g a nc nv) (g 19) (Rr (lgm g a nc nv) (g 19) nv) S x b)) (by omega) (by omega) (fun s y hy hlt => by (by_cases e : 11 * s + y = 11 * S + x; (have e1 : s = S := (by omega); have e2 : y = x := (by omega); subst e1; subst e2; rw [pk_us, Rr_eq, show nv = b by omega]); (rw [pk_un e]; exact hr2 s y hy (by omega))))
                    · replace h7 := q_m32.mp h7
                      rw [hv, nI_ltI (by omega) (by omega)] at h7
                      refine i_iload_n B 3 dX9_fly_164 rfl ?_
                      refine i_iload B 0 dX9_fly_165 rfl ?_
                      refine i_ishr B dX9_fly_167 ?_
                      refine i_iconst (v := 1) B dX9_fly_168 (by decide) ?_
                      refine i_iand B dX9_fly_169 ?_
                      refine i_iconst (v := 1) B dX9_fly_170 (by decide) ?_
                      refine i_icmp_ne B 224 dX9_fly_171 (by decide) (fun h8 => ?_) (fun h8 => ?_)
                      · rw [bit_iff (by omega) (by omega)] at h8
                        have h8d := decide_eq_false h8
                        refine i_iinc (v := (nI (b + 1))) B 0 [(4, .int (nI (b + 1))), (3, .int (bst (lgm g a nc nv) (g 19) (Rr (lgm g a nc nv) (g 19) nv) S x b)), (2, .int (nI x)), (1, .int (nI S)), (0, .ref h)] dX9_fly_224 rfl ((nI_1 _)) (by decide) rfl ?_
                        refine i_goto B 155 dX9_fly_227 (by decide) ?_
                        refine i_Leq (congrArg (fun z_9 => ([(4, .int (nI (b + 1))), (3, .int z_9), (2, .int (nI x)), (1, .int (nI S)), (0, .ref h)] : List (Nat × Value))) (show ((bst (lgm g a nc nv) (g 19) (Rr (lgm g a nc nv) (g 19) nv) S x b) : Int32) = (bst (lgm g a nc nv) (g 19) (Rr (lgm g a nc nv) (g 19) nv) S x (b + 1)) from by rw [bst]; simp only [h8, if_true, if_false, ite_true, ite_false, Bool.false_eq_true, Bool.true_eq_false, eq_self, reduceIte, true_or, or_true, false_or, or_false, and_true, true_and, and_false, false_and, not_true_eq_false, not_false_eq_true, decide_eq_true_eq, decide_eq_false_iff_not])) ?_
                        exact ih_le (b + 1) (by omega) (by omega)
                      · rw [bit_iff (by omega) (by omega)] at h8
                        have h8d := decide_eq_true h8
                        refine i_aload_n B 4 dX9_fly_174 rfl ?_
                        refine i_get (v := .ref (q 30)) B flX9_75 0 rfl rfl dX9_fly_175 ?_
                        refine i_bipush (v := 11) B dX9_fly_178 (by decide) ?_
                        refine i_iload_n B 2 dX9_fly_180 rfl ?_
                        refine i_imul B dX9_fly_181 ?_
                        refine i_iload B 0 dX9_fly_182 rfl ?_
                        refine i_iadd B dX9_fly_184 ?_
                        refine i_ialdN B 19 (11 * x + b) rfl (by rw [show (11 : Int32) = nI 11 from rfl, pk_mul, nI_add]) (by omega) (by decide) dX9_fly_185 ?_
                        refine i_val (v' := .int (lgm g a nc nv x b)) (congrArg Value.int (hf x b (by omega) (by omega))) ?_
                        refine i_aload_n B 4 dX9_fly_186 rfl ?_
                        refine i_get (v := .int (g 19)) B flX9_187 0 rfl rfl dX9_fly_187 ?_
                        refine i_iadd B dX9_fly_190 ?_
                        refine i_aload_n B 4 dX9_fly_191 rfl ?_
                        refine i_get (v := .ref (q 31)) B flX9_78 0 rfl rfl dX9_fly_192 ?_
                        refine i_bipush (v := 11) B dX9_fly_195 (by decide) ?_
                        refine i_iload_n B 3 dX9_fly_197 rfl ?_
                        refine i_iconst (v := 1) B dX9_fly_198 (by decide) ?_
                        refine i_iload B 0 dX9_fly_199 rfl ?_
                        refine i_ishl B dX9_fly_201 ?_
                        refine i_ixor B dX9_fly_202 ?_
                        refine i_imul B dX9_fly_203 ?_
                        refine i_iload B 0 dX9_fly_204 rfl ?_
                        refine i_iadd B dX9_fly_206 ?_
                        refine i_ialdN B 20 (11 * (S ^^^ 2 ^ b) + b) rfl (by rw [shl1 b (by omega), nx_xor, show (11 : Int32) = nI 11 from rfl, pk_mul, nI_add]) (by have := bit_lt h8; omega) (by decide) dX9_fly_207 ?_
                        refine i_val (v' := .int (Rr (lgm g a nc nv) (g 19) nv (S ^^^ 2 ^ b) b)) (congrArg Value.int (hr2 (S ^^^ 2 ^ b) b (by omega) (by have := bit_lt h8; omega))) ?_
                        refine i_iadd B dX9_fly_208 ?_
                        refine i_istore B [(5, .int (((lgm g a nc nv x b) + (g 19)) + (Rr (lgm g a nc nv) (g 19) nv (S ^^^ 2 ^ b) b))), (4, .int (nI b)), (3, .int (bst (lgm g a nc nv) (g 19) (Rr (lgm g a nc nv) (g 19) nv) S x b)), (2, .int (nI x)), (1, .int (nI S)), (0, .ref h)] dX9_fly_209 (by decide) rfl ?_
                        refine i_iload B 0 dX9_fly_211 rfl ?_
                        refine i_iload_n B 2 dX9_fly_213 rfl ?_
                        refine i_icmp_ge B 222 dX9_fly_214 (by decide) (fun h9 => ?_) (fun h9 => ?_)
                        · replace h9 := q_n32.mpr h9
                          refine i_iload_n B 2 dX9_fly_222 rfl ?_
                          refine i_istore_n B [(3, .int (bst (lgm g a nc nv) (g 19) (Rr (lgm g a nc nv) (g 19) nv) S x b)), (5, .int (((lgm g a nc nv x b) + (g 19)) + (Rr (lgm g a nc nv) (g 19) nv (S ^^^ 2 ^ b) b))), (4, .int (nI b)), (2, .int (nI x)), (1, .int (nI S)), (0, .ref h)] dX9_fly_223 (by decide) rfl ?_
                          refine i_iinc (v := (nI (b + 1))) B 2 [(4, .int (nI (b + 1))), (3, .int (bst (lgm g a nc nv) (g 19) (Rr (lgm g a nc nv) (g 19) nv) S x b)), (5, .int (((lgm g a nc nv x b) + (g 19)) + (Rr (lgm g a nc nv) (g 19) nv (S ^^^ 2 ^ b) b))), (2, .int (nI x)), (1, .int (nI S)), (0, .ref h)] dX9_fly_224 rfl ((nI_1 _)) (by decide) rfl ?_
                          refine i_goto B 155 dX9_fly_227 (by decide) ?_
                          refine i_locals [0, 1, 3, 4, 5] (L' := [(4, .int (nI (b + 1))), (3, .int (bst (lgm g a nc nv) (g 19) (Rr (lgm g a nc nv) (g 19) nv) S x b)), (2, .int (nI x)), (1, .int (nI S)), (0, .ref h)]) rfl ?_
                          refine i_Leq (congrArg (fun z_9 => ([(4, .int (nI (b + 1))), (3, .int z_9), (2, .int (nI x)), (1, .int (nI S)), (0, .ref h)] : List (Nat × Value))) (show ((bst (lgm g a nc nv) (g 19) (Rr (lgm g a nc nv) (g 19) nv) S x b) : Int32) = (bst (lgm g a nc nv) (g 19) (Rr (lgm g a nc nv) (g 19) nv) S x (b + 1)) from by rw [bst]; simp only [h8, h9, if_true, if_false, ite_true, ite_false, Bool.false_eq_true, Bool.true_eq_false, eq_self, reduceIte, true_or, or_true, false_or, or_false, and_true, true_and, and_false, false_and, not_true_eq_false, not_false_eq_true, decide_eq_true_eq, decide_eq_false_iff_not])) ?_
                          exact ih_le (b + 1) (by omega) (by omega)
                        · replace h9 := q_m32.mp h9
                          refine i_iload B 0 dX9_fly_217 rfl ?_
                          refine i_goto B 223 dX9_fly_219 (by decide) ?_
                          refine i_istore_n B [(3, .int (((lgm g a nc nv x b) + (g 19)) + (Rr (lgm g a nc nv) (g 19) nv (S ^^^ 2 ^ b) b))), (5, .int (((lgm g a nc nv x b) + (g 19)) + (Rr (lgm g a nc nv) (g 19) nv (S ^^^ 2 ^ b) b))), (4, .int (nI b)), (2, .int (nI x)), (1, .int (nI S)), (0, .ref h)] dX9_fly_223 (by decide) rfl ?_
                          refine i_iinc (v := (nI (b + 1))) B 2 [(4, .int (nI (b + 1))), (3, .int (((lgm g a nc nv x b) + (g 19)) + (Rr (lgm g a nc nv) (g 19) nv (S ^^^ 2 ^ b) b))), (5, .int (((lgm g a nc nv x b) + (g 19)) + (Rr (lgm g a nc nv) (g 19) nv (S ^^^ 2 ^ b) b))), (2, .int (nI x)), (1, .int (nI S)), (0, .ref h)] dX9_fly_224 rfl ((nI_1 _)) (by decide) rfl ?_
                          refine i_goto B 155 dX9_fly_227 (by decide) ?_
                          refine i_locals [0, 1, 3, 4, 5] (L' := [(4, .int (nI (b + 1))), (3, .int (((lgm g a nc nv x b) + (g 19)) + (Rr (lgm g a nc nv) (g 19) nv (S ^^^ 2 ^ b) b))), (2, .int (nI x)), (1, .int (nI S)), (0, .ref h)]) rfl ?_
                          refine i_Leq (congrArg (fun z_9 => ([(4, .int (nI (b + 1))), (3, .int z_9), (2, .int (nI x)), (1, .int (nI S)), (0, .ref h)] : List (Nat × Value))) (show ((((lgm g a nc nv x b) + (g 19)) + (Rr (lgm g a nc nv) (g 19) nv (S ^^^ 2 ^ b) b)) : Int32) = (bst (lgm g a nc nv) (g 19) (Rr (lgm g a nc nv) (g 19) nv) S x (b + 1)) from by rw [bst]; simp only [h8, h9, if_true, if_false, ite_true, ite_false, Bool.false_eq_true, Bool.true_eq_false, eq_self, reduceIte, true_or, or_true, false_or, or_false, and_true, true_and, and_false, false_and, not_true_eq_false, not_false_eq_true, decide_eq_true_eq, decide_eq_false_iff_not])) ?_
                          exact ih_le (b + 1) (by omega) (by omega)
                refine i_Leq (congrArg (fun z_9 => ([(4, .int z_9), (3, .int (f (11 * x + 10))), (2, .int (nI x)), (1, .int (nI S)), (0, .ref h)] : List (Nat × Value))) (show (0 : Int32) = (nI 0) from rfl)) ?_
                refine i_Leq (congrArg (fun z_9 => ([(4, .int (nI 0)), (3, .int z_9), (2, .int (nI x)), (1, .int (nI S)), (0, .ref h)] : List (Nat × Value))) (show ((f (11 * x + 10)) : Int32) = (bst (lgm g a nc nv) (g 19) (Rr (lgm g a nc nv) (g 19) nv) S x 0) from by rw [bst, h3d]; exact hf x 10 (by omega) (by omega))) ?_
                exact le (nv + 1) 0 (by omega) (Nat.zero_le _)
        refine i_Leq (congrArg (fun z_9 => ([(2, .int z_9), (1, .int (nI S)), (0, .ref h)] : List (Nat × Value))) (show (0 : Int32) = (nI 0) from rfl)) ?_
        exact ld (12) 0 r1 (by omega) (Nat.zero_le _) (fun s y hy hl => hr1 s y hy (by omega))
  have la : ∀ (n_la : Nat) (i : Nat) (f1 : Nat → Int32), (11 - i < n_la) → (i ≤ 11) → ((∀ x y : Nat, y < 11 → 11 * x + y < 11 * i + 0 → f1 (11 * x + y) = lgm g a nc nv x y)) → J Z 0 0 (mW E h q g (va_up a 30 f1)) 2 [(1, .int (nI i)), (0, .ref h)] [] := by
    intro n_la
    induction n_la with
    | zero => intro i f1 hf_la hi hf1; omega
    | succ n_la ih_la =>
      intro i f1 hf_la hi hf1
      refine i_iload_n B 0 dX9_fly_2 rfl ?_
      refine i_bipush (v := 11) B dX9_fly_3 (by decide) ?_
      refine i_icmp_ge B 110 dX9_fly_5 (by decide) (fun h10 => ?_) (fun h10 => ?_)
      · replace h10 := q_n32.mpr h10
        rw [show (11 : Int32) = nI 11 from rfl, nI_ltI (by omega) (by omega)] at h10
        refine i_iconst (v := 0) B dX9_fly_110 (by decide) ?_
        refine i_istore_n B [(1, .int 0), (0, .ref h)] dX9_fly_111 (by decide) rfl ?_
        refine i_Leq (congrArg (fun z_9 => ([(1, .int z_9), (0, .ref h)] : List (Nat × Value))) (show (0 : Int32) = (nI 0) from rfl)) ?_
        refine i_world (ws' := (mW E h q g (va_up (va_up a 30 f1) 31 (a 31)))) (rfl) ?_
        exact lc (2 ^ nv + 1) 0 f1 (a 31) (Nat.lt_succ_of_le (Nat.sub_le _ _)) (Nat.zero_le _) (fun x y hx hy => hf1 x y hy (by omega)) (fun x y hy hl => absurd hl (by omega))
      · replace h10 := q_m32.mp h10
        rw [show (11 : Int32) = nI 11 from rfl, nI_ltI (by omega) (by omega)] at h10
        refine i_iconst (v := 0) B dX9_fly_8 (by decide) ?_
        refine i_istore_n B [(2, .int 0), (1, .int (nI i)), (0, .ref h)] dX9_fly_9 (by decide) rfl ?_
        have lb : ∀ (n_lb : Nat) (j : Nat) (f2 : Nat → Int32), (11 - j < n_lb) → (j ≤ 11) → ((∀ x y : Nat, y < 11 → 11 * x + y < 11 * i + j → f2 (11 * x + y) = lgm g a nc nv x y)) → J Z 0 0 (mW E h q g (va_up a 30 f2)) 10 [(2, .int (nI j)), (1, .int (nI i)), (0, .ref h)] [] := by
          intro n_lb
          induction n_lb with
          | zero => intro j f2 hf_lb hj hf2; omega
          | succ n_lb ih_lb =>
            intro j f2 hf_lb hj hf2
            refine i_iload_n B 0 dX9_fly_10 rfl ?_
            refine i_bipush (v := 11) B dX9_fly_11 (by decide) ?_
            refine i_icmp_ge B 104 dX9_fly_13 (by decide) (fun h11 => ?_) (fun h11 => ?_)
            · replace h11 := q_n32.mpr h11
              rw [show (11 : Int32) = nI 11 from rfl, nI_ltI (by omega) (by omega)] at h11
              refine i_iinc (v := (nI (i + 1))) B 1 [(1, .int (nI (i + 1))), (2, .int (nI j)), (0, .ref h)] dX9_fly_104 rfl ((nI_1 _)) (by decide) rfl ?_
              refine i_goto B 2 dX9_fly_107 (by decide) ?_
              refine i_locals [0, 2] (L' := [(1, .int (nI (i + 1))), (0, .ref h)]) rfl ?_
              exact ih_la (i + 1) f2 (by omega) (by omega) (fun x y hy hl => hf2 x y hy (by omega))
            · replace h11 := q_m32.mp h11
              rw [show (11 : Int32) = nI 11 from rfl, nI_ltI (by omega) (by omega)] at h11
              refine i_iload_n B 1 dX9_fly_16 rfl ?_
              refine i_aload_n B 2 dX9_fly_17 rfl ?_
              refine i_get (v := .int (g 8)) B flX9_111 0 rfl rfl dX9_fly_18 ?_
              refine i_icmp_lt B 30 dX9_fly_21 (by decide) (fun h12 => ?_) (fun h12 => ?_)
              · rw [hv, nI_ltI (by omega) (by omega)] at h12
                refine i_iload_n B 0 dX9_fly_30 rfl ?_
                refine i_aload_n B 2 dX9_fly_31 rfl ?_
                refine i_get (v := .int (g 8)) B flX9_111 0 rfl rfl dX9_fly_32 ?_
                refine i_icmp_lt B 44 dX9_fly_35 (by decide) (fun h13 => ?_) (fun h13 => ?_)
                · rw [hv, nI_ltI (by omega) (by omega)] at h13
                  refine i_iconst (v := 1) B dX9_fly_44 (by decide) ?_
                  refine i_goto B 49 dX9_fly_45 (by decide) ?_
                  refine i_istore_n B [(3, .int 1), (2, .int (nI j)), (1, .int (nI i)), (0, .ref h)] dX9_fly_49 (by decide) rfl ?_
                  refine i_aload_n B 3 dX9_fly_50 rfl ?_
                  refine i_get (v := .ref (q 30)) B flX9_75 0 rfl rfl dX9_fly_51 ?_
                  refine i_bipush (v := 11) B dX9_fly_54 (by decide) ?_
                  refine i_iload_n B 2 dX9_fly_56 rfl ?_
                  refine i_imul B dX9_fly_57 ?_
                  refine i_iload_n B 1 dX9_fly_58 rfl ?_
                  refine i_iadd B dX9_fly_59 ?_
                  refine i_iload_n B 0 dX9_fly_60 rfl ?_
                  refine i_if_eq B 95 dX9_fly_61 (by decide) (fun h14 => absurd h14 (by decide)) (fun _ => ?_)
                  refine i_aload_n B 3 dX9_fly_64 rfl ?_
                  refine i_aload_n B 3 dX9_fly_65 rfl ?_
                  refine i_get (v := .ref (q 9)) B flX9_29 0 rfl rfl dX9_fly_66 ?_
                  refine i_iload_n B 2 dX9_fly_69 rfl ?_
                  refine i_ialdN B 5 i rfl rfl (by omega) (by decide) dX9_fly_70 ?_
                  refine i_aload_n B 3 dX9_fly_71 rfl ?_
                  refine i_get (v := .ref (q 10)) B flX9_32 0 rfl rfl dX9_fly_72 ?_
                  refine i_iload_n B 2 dX9_fly_75 rfl ?_
                  refine i_ialdN B 6 i rfl rfl (by omega) (by decide) dX9_fly_76 ?_
                  refine i_aload_n B 3 dX9_fly_77 rfl ?_
                  refine i_get (v := .ref (q 9)) B flX9_29 0 rfl rfl dX9_fly_78 ?_
                  refine i_iload_n B 1 dX9_fly_81 rfl ?_
                  refine i_ialdN B 5 j rfl rfl (by omega) (by decide) dX9_fly_82 ?_
                  refine i_aload_n B 3 dX9_fly_83 rfl ?_
                  refine i_get (v := .ref (q 10)) B flX9_32 0 rfl rfl dX9_fly_84 ?_
                  refine i_iload_n B 1 dX9_fly_87 rfl ?_
                  refine i_ialdN B 6 j rfl rfl (by omega) (by decide) dX9_fly_88 ?_
                  refine c_roV (rest := [.int ((11 * (nI i)) + (nI j)), .ref (q 30)]) (As := [.int ((a 9) i), .int ((a 10) i), .int ((a 9) j), .int ((a 10) j)]) B (k_X9_legOf l E h q g (va_up a 30 f2) nc hc hnc ((a 9) i) ((a 10) i) ((a 9) j) ((a 10) j) (hpt i (by simp only [thr, h11, h12, h13, decide_true, decide_false, Bool.not_true, Bool.not_false, Bool.true_and, Bool.false_and, Bool.and_true, Bool.and_false, Bool.true_or, Bool.or_true, Bool.false_or, Bool.or_false, bI_t, bI_f])) (hpt j (by simp only [thr, h11, h12, h13, decide_true, decide_false, Bool.not_true, Bool.not_false, Bool.true_and, Bool.false_and, Bool.and_true, Bool.and_false, Bool.true_or, Bool.or_true, Bool.false_or, Bool.or_false, bI_t, bI_f]))) cal_yX9_legOf iv_yX9_legOf mlX9_190 rfl 0 rfl (by decide) (by decide) rfl (Nat.le_of_ble_eq_true rfl) Has.rf _ rfl dX9_fly_89 (fun r hr => ?_)
                  subst hr
                  refine i_val (v' := .int (legF g (va_up a 30 f2) nc ((a 9) i) ((a 10) i) ((a 9) j) ((a 10) j))) rfl ?_
                  refine i_val (v' := .int (legF g a nc ((a 9) i) ((a 10) i) ((a 9) j) ((a 10) j))) (congrArg Value.int (legF_30 _ _ _ _ _ _ _ _)) ?_
                  refine i_goto B 97 dX9_fly_92 (by decide) ?_
                  refine i_iastN B 19 (11 * i + j) (mW E h q g (va_up a 30 (upd f2 (11 * i + j) (legF g a nc ((a 9) i) ((a 10) i) ((a 9) j) ((a 10) j))))) rfl (by rw [show (11 : Int32) = nI 11 from rfl, pk_mul, nI_add]) (by omega) (by decide) rfl dX9_fly_97 ?_
                  refine i_iinc (v := (nI (j + 1))) B 1 [(2, .int (nI (j + 1))), (3, .int 1), (1, .int (nI i)), (0, .ref h)] dX9_fly_98 rfl ((nI_1 _)) (by decide) rfl ?_
                  refine i_goto B 10 dX9_fly_101 (by decide) ?_
                  refine i_locals [0, 2, 3] (L' := [(2, .int (nI (j + 1))), (1, .int (nI i)), (0, .ref h)]) rfl ?_
                  exact ih_lb (j + 1) (upd f2 (11 * i + j) (legF g a nc ((a 9) i) ((a 10) i) ((a 9) j) ((a 10) j))) (by omega) (by omega) (fun x y hy hlt => by (by_cases e : 11 * x + y = 11 * i + j; (have e1 : x = i := (by omega); have e2 : y = j := (by omega); subst e1; subst e2; rw [pk_us]; rw [lgm]; simp only [thr, h11, h12, h13, decide_true, decide_false, Bool.not_true, Bool.not_false, Bool.true_and, Bool.false_and, Bool.and_true, Bool.and_false, Bool.true_or, Bool.or_true, Bool.false_or, Bool.or_false, bI_t, bI_f, if_true, if_false, ite_true, ite_false, Bool.false_eq_true, Bool.true_eq_false, eq_self, reduceIte, true_or, or_true, false_or, or_false, and_true, true_and, and_false, false_and, not_true_eq_false, not_false_eq_true, decide_eq_true_eq, decide_eq_false_iff_not]); (rw [pk_un e]; exact hf2 x y hy (by omega))))
                · rw [hv, nI_ltI (by omega) (by omega)] at h13
                  refine i_iload_n B 0 dX9_fly_38 rfl ?_
                  refine i_bipush (v := 10) B dX9_fly_39 (by decide) ?_
                  refine i_icmp_ne B 48 dX9_fly_41 (by decide) (fun h15 => ?_) (fun h15 => ?_)
                  · rw [show (10 : Int32) = nI 10 from rfl, nI_eq (by omega) (by omega)] at h15
                    have h15d := decide_eq_false h15
                    refine i_iconst (v := 0) B dX9_fly_48 (by decide) ?_
                    refine i_istore_n B [(3, .int 0), (2, .int (nI j)), (1, .int (nI i)), (0, .ref h)] dX9_fly_49 (by decide) rfl ?_
                    refine i_aload_n B 3 dX9_fly_50 rfl ?_
                    refine i_get (v := .ref (q 30)) B flX9_75 0 rfl rfl dX9_fly_51 ?_
                    refine i_bipush (v := 11) B dX9_fly_54 (by decide) ?_
                    refine i_iload_n B 2 dX9_fly_56 rfl ?_
                    refine i_imul B dX9_fly_57 ?_
                    refine i_iload_n B 1 dX9_fly_58 rfl ?_
                    refine i_iadd B dX9_fly_59 ?_
                    refine i_iload_n B 0 dX9_fly_60 rfl ?_
                    refine i_if_eq B 95 dX9_fly_61 (by decide) (fun _ => ?_) (fun h16 => absurd h16 (by decide))
                    refine i_ldc B ckX9_151 dX9_fly_95 ?_
                    refine i_iastN B 19 (11 * i + j) (mW E h q g (va_up a 30 (upd f2 (11 * i + j) 1000000))) rfl (by rw [show (11 : Int32) = nI 11 from rfl, pk_mul, nI_add]) (by omega) (by decide) rfl dX9_fly_97 ?_
                    refine i_iinc (v := (nI (j + 1))) B 1 [(2, .int (nI (j + 1))), (3, .int 0), (1, .int (nI i)), (0, .ref h)] dX9_fly_98 rfl ((nI_1 _)) (by decide) rfl ?_
                    refine i_goto B 10 dX9_fly_101 (by decide) ?_
                    refine i_locals [0, 2, 3] (L' := [(2, .int (nI (j + 1))), (1, .int (nI i)), (0, .ref h)]) rfl ?_
                    exact ih_lb (j + 1) (upd f2 (11 * i + j) 1000000) (by omega) (by omega) (fun x y hy hlt => by (by_cases e : 11 * x + y = 11 * i + j; (have e1 : x = i := (by omega); have e2 : y = j := (by omega); subst e1; subst e2; rw [pk_us]; rw [lgm]; simp only [thr, h11, h12, h13, h15d, decide_true, decide_false, Bool.not_true, Bool.not_false, Bool.true_and, Bool.false_and, Bool.and_true, Bool.and_false, Bool.true_or, Bool.or_true, Bool.false_or, Bool.or_false, bI_t, bI_f, if_true, if_false, ite_true, ite_false, Bool.false_eq_true, Bool.true_eq_false, eq_self, reduceIte, true_or, or_true, false_or, or_false, and_true, true_and, and_false, false_and, not_true_eq_false, not_false_eq_true, decide_eq_true_eq, decide_eq_false_iff_not]); (rw [pk_un e]; exact hf2 x y hy (by omega))))
                  · rw [show (10 : Int32) = nI 10 from rfl, nI_eq (by omega) (by omega)] at h15
                    have h15d := decide_eq_true h15
                    refine i_iconst (v := 1) B dX9_fly_44 (by decide) ?_
                    refine i_goto B 49 dX9_fly_45 (by decide) ?_
                    refine i_istore_n B [(3, .int 1), (2, .int (nI j)), (1, .int (nI i)), (0, .ref h)] dX9_fly_49 (by decide) rfl ?_
                    refine i_aload_n B 3 dX9_fly_50 rfl ?_
                    refine i_get (v := .ref (q 30)) B flX9_75 0 rfl rfl dX9_fly_51 ?_
                    refine i_bipush (v := 11) B dX9_fly_54 (by decide) ?_
                    refine i_iload_n B 2 dX9_fly_56 rfl ?_
                    refine i_imul B dX9_fly_57 ?_
                    refine i_iload_n B 1 dX9_fly_58 rfl ?_
                    refine i_iadd B dX9_fly_59 ?_
                    refine i_iload_n B 0 dX9_fly_60 rfl ?_
                    refine i_if_eq B 95 dX9_fly_61 (by decide) (fun h17 => absurd h17 (by decide)) (fun _ => ?_)
                    refine i_aload_n B 3 dX9_fly_64 rfl ?_
                    refine i_aload_n B 3 dX9_fly_65 rfl ?_
                    refine i_get (v := .ref (q 9)) B flX9_29 0 rfl rfl dX9_fly_66 ?_
                    refine i_iload_n B 2 dX9_fly_69 rfl ?_
                    refine i_ialdN B 5 i rfl rfl (by omega) (by decide) dX9_fly_70 ?_
                    refine i_aload_n B 3 dX9_fly_71 rfl ?_
                    refine i_get (v := .ref (q 10)) B flX9_32 0 rfl rfl dX9_fly_72 ?_
                    refine i_iload_n B 2 dX9_fly_75 rfl ?_
                    refine i_ialdN B 6 i rfl rfl (by omega) (by decide) dX9_fly_76 ?_
                    refine i_aload_n B 3 dX9_fly_77 rfl ?_
                    refine i_get (v := .ref (q 9)) B flX9_29 0 rfl rfl dX9_fly_78 ?_
                    refine i_iload_n B 1 dX9_fly_81 rfl ?_
                    refine i_ialdN B 5 j rfl rfl (by omega) (by decide) dX9_fly_82 ?_
                    refine i_aload_n B 3 dX9_fly_83 rfl ?_
                    refine i_get (v := .ref (q 10)) B flX9_32 0 rfl rfl dX9_fly_84 ?_
                    refine i_iload_n B 1 dX9_fly_87 rfl ?_
                    refine i_ialdN B 6 j rfl rfl (by omega) (by decide) dX9_fly_88 ?_
                    refine c_roV (rest := [.int ((11 * (nI i)) + (nI j)), .ref (q 30)]) (As := [.int ((a 9) i), .int ((a 10) i), .int ((a 9) j), .int ((a 10) j)]) B (k_X9_legOf l E h q g (va_up a 30 f2) nc hc hnc ((a 9) i) ((a 10) i) ((a 9) j) ((a 10) j) (hpt i (by simp only [thr, h11, h12, h13, h15d, decide_true, decide_false, Bool.not_true, Bool.not_false, Bool.true_and, Bool.false_and, Bool.and_true, Bool.and_false, Bool.true_or, Bool.or_true, Bool.false_or, Bool.or_false, bI_t, bI_f])) (hpt j (by simp only [thr, h11, h12, h13, h15d, decide_true, decide_false, Bool.not_true, Bool.not_false, Bool.true_and, Bool.false_and, Bool.and_true, Bool.and_false, Bool.true_or, Bool.or_true, Bool.false_or, Bool.or_false, bI_t, bI_f]))) cal_yX9_legOf iv_yX9_legOf mlX9_190 rfl 0 rfl (by decide) (by decide) rfl (Nat.le_of_ble_eq_true rfl) Has.rf _ rfl dX9_fly_89 (fun r hr => ?_)
                    subst hr
                    refine i_val (v' := .int (legF g (va_up a 30 f2) nc ((a 9) i) ((a 10) i) ((a 9) j) ((a 10) j))) rfl ?_
                    refine i_val (v' := .int (legF g a nc ((a 9) i) ((a 10) i) ((a 9) j) ((a 10) j))) (congrArg Value.int (legF_30 _ _ _ _ _ _ _ _)) ?_
                    refine i_goto B 97 dX9_fly_92 (by decide) ?_
                    refine i_iastN B 19 (11 * i + j) (mW E h q g (va_up a 30 (upd f2 (11 * i + j) (legF g a nc ((a 9) i) ((a 10) i) ((a 9) j) ((a 10) j))))) rfl (by rw [show (11 : Int32) = nI 11 from rfl, pk_mul, nI_add]) (by omega) (by decide) rfl dX9_fly_97 ?_
                    refine i_iinc (v := (nI (j + 1))) B 1 [(2, .int (nI (j + 1))), (3, .int 1), (1, .int (nI i)), (0, .ref h)] dX9_fly_98 rfl ((nI_1 _)) (by decide) rfl ?_
                    refine i_goto B 10 dX9_fly_101 (by decide) ?_
                    refine i_locals [0, 2, 3] (L' := [(2, .int (nI (j + 1))), (1, .int (nI i)), (0, .ref h)]) rfl ?_
                    exact ih_lb (j + 1) (upd f2 (11 * i + j) (legF g a nc ((a 9) i) ((a 10) i) ((a 9) j) ((a 10) j))) (by omega) (by omega) (fun x y hy hlt => by (by_cases e : 11 * x + y = 11 * i + j; (have e1 : x = i := (by omega); have e2 : y = j := (by omega); subst e1; subst e2; rw [pk_us]; rw [lgm]; simp only [thr, h11, h12, h13, h15d, decide_true, decide_false, Bool.not_true, Bool.not_false, Bool.true_and, Bool.false_and, Bool.and_true, Bool.and_false, Bool.true_or, Bool.or_true, Bool.false_or, Bool.or_false, bI_t, bI_f, if_true, if_false, ite_true, ite_false, Bool.false_eq_true, Bool.true_eq_false, eq_self, reduceIte, true_or, or_true, false_or, or_false, and_true, true_and, and_false, false_and, not_true_eq_false, not_false_eq_true, decide_eq_true_eq, decide_eq_false_iff_not]); (rw [pk_un e]; exact hf2 x y hy (by omega))))
              · rw [hv, nI_ltI (by omega) (by omega)] at h12
                refine i_iload_n B 1 dX9_fly_24 rfl ?_
                refine i_bipush (v := 10) B dX9_fly_25 (by decide) ?_
                refine i_icmp_ne B 48 dX9_fly_27 (by decide) (fun h18 => ?_) (fun h18 => ?_)
                · rw [show (10 : Int32) = nI 10 from rfl, nI_eq (by omega) (by omega)] at h18
                  have h18d := decide_eq_false h18
                  refine i_iconst (v := 0) B dX9_fly_48 (by decide) ?_
                  refine i_istore_n B [(3, .int 0), (2, .int (nI j)), (1, .int (nI i)), (0, .ref h)] dX9_fly_49 (by decide) rfl ?_
                  refine i_aload_n B 3 dX9_fly_50 rfl ?_
                  refine i_get (v := .ref (q 30)) B flX9_75 0 rfl rfl dX9_fly_51 ?_
                  refine i_bipush (v := 11) B dX9_fly_54 (by decide) ?_
                  refine i_iload_n B 2 dX9_fly_56 rfl ?_
                  refine i_imul B dX9_fly_57 ?_
                  refine i_iload_n B 1 dX9_fly_58 rfl ?_
                  refine i_iadd B dX9_fly_59 ?_
                  refine i_iload_n B 0 dX9_fly_60 rfl ?_
                  refine i_if_eq B 95 dX9_fly_61 (by decide) (fun _ => ?_) (fun h19 => absurd h19 (by decide))
                  refine i_ldc B ckX9_151 dX9_fly_95 ?_
                  refine i_iastN B 19 (11 * i + j) (mW E h q g (va_up a 30 (upd f2 (11 * i + j) 1000000))) rfl (by rw [show (11 : Int32) = nI 11 from rfl, pk_mul, nI_add]) (by omega) (by decide) rfl dX9_fly_97 ?_
                  refine i_iinc (v := (nI (j + 1))) B 1 [(2, .int (nI (j + 1))), (3, .int 0), (1, .int (nI i)), (0, .ref h)] dX9_fly_98 rfl ((nI_1 _)) (by decide) rfl ?_
                  refine i_goto B 10 dX9_fly_101 (by decide) ?_
                  refine i_locals [0, 2, 3] (L' := [(2, .int (nI (j + 1))), (1, .int (nI i)), (0, .ref h)]) rfl ?_
                  exact ih_lb (j + 1) (upd f2 (11 * i + j) 1000000) (by omega) (by omega) (fun x y hy hlt => by (by_cases e : 11 * x + y = 11 * i + j; (have e1 : x = i := (by omega); have e2 : y = j := (by omega); subst e1; subst e2; rw [pk_us]; rw [lgm]; simp only [thr, h11, h12, h18d, decide_true, decide_false, Bool.not_true, Bool.not_false, Bool.true_and, Bool.false_and, Bool.and_true, Bool.and_false, Bool.true_or, Bool.or_true, Bool.false_or, Bool.or_false, bI_t, bI_f, if_true, if_false, ite_true, ite_false, Bool.false_eq_true, Bool.true_eq_false, eq_self, reduceIte, true_or, or_true, false_or, or_false, and_true, true_and, and_false, false_and, not_true_eq_false, not_false_eq_true, decide_eq_true_eq, decide_eq_false_iff_not]); (rw [pk_un e]; exact hf2 x y hy (by omega))))
                · rw [show (10 : Int32) = nI 10 from rfl, nI_eq (by omega) (by omega)] at h18
                  have h18d := decide_eq_true h18
                  refine i_iload_n B 0 dX9_fly_30 rfl ?_
                  refine i_aload_n B 2 dX9_fly_31 rfl ?_
                  refine i_get (v := .int (g 8)) B flX9_111 0 rfl rfl dX9_fly_32 ?_
                  refine i_icmp_lt B 44 dX9_fly_35 (by decide) (fun h20 => ?_) (fun h20 => ?_)
                  · rw [hv, nI_ltI (by omega) (by omega)] at h20
                    refine i_iconst (v := 1) B dX9_fly_44 (by decide) ?_
                    refine i_goto B 49 dX9_fly_45 (by decide) ?_
                    refine i_istore_n B [(3, .int 1), (2, .int (nI j)), (1, .int (nI i)), (0, .ref h)] dX9_fly_49 (by decide) rfl ?_
                    refine i_aload_n B 3 dX9_fly_50 rfl ?_
                    refine i_get (v := .ref (q 30)) B flX9_75 0 rfl rfl dX9_fly_51 ?_
                    refine i_bipush (v := 11) B dX9_fly_54 (by decide) ?_
                    refine i_iload_n B 2 dX9_fly_56 rfl ?_
                    refine i_imul B dX9_fly_57 ?_
                    refine i_iload_n B 1 dX9_fly_58 rfl ?_
                    refine i_iadd B dX9_fly_59 ?_
                    refine i_iload_n B 0 dX9_fly_60 rfl ?_
                    refine i_if_eq B 95 dX9_fly_61 (by decide) (fun h21 => absurd h21 (by decide)) (fun _ => ?_)
                    refine i_aload_n B 3 dX9_fly_64 rfl ?_
                    refine i_aload_n B 3 dX9_fly_65 rfl ?_
                    refine i_get (v := .ref (q 9)) B flX9_29 0 rfl rfl dX9_fly_66 ?_
                    refine i_iload_n B 2 dX9_fly_69 rfl ?_
                    refine i_ialdN B 5 i rfl rfl (by omega) (by decide) dX9_fly_70 ?_
                    refine i_aload_n B 3 dX9_fly_71 rfl ?_
                    refine i_get (v := .ref (q 10)) B flX9_32 0 rfl rfl dX9_fly_72 ?_
                    refine i_iload_n B 2 dX9_fly_75 rfl ?_
                    refine i_ialdN B 6 i rfl rfl (by omega) (by decide) dX9_fly_76 ?_
                    refine i_aload_n B 3 dX9_fly_77 rfl ?_
                    refine i_get (v := .ref (q 9)) B flX9_29 0 rfl rfl dX9_fly_78 ?_
                    refine i_iload_n B 1 dX9_fly_81 rfl ?_
                    refine i_ialdN B 5 j rfl rfl (by omega) (by decide) dX9_fly_82 ?_
                    refine i_aload_n B 3 dX9_fly_83 rfl ?_
                    refine i_get (v := .ref (q 10)) B flX9_32 0 rfl rfl dX9_fly_84 ?_
                    refine i_iload_n B 1 dX9_fly_87 rfl ?_
                    refine i_ialdN B 6 j rfl rfl (by omega) (by decide) dX9_fly_88 ?_
                    refine c_roV (rest := [.int ((11 * (nI i)) + (nI j)), .ref (q 30)]) (As := [.int ((a 9) i), .int ((a 10) i), .int ((a 9) j), .int ((a 10) j)]) B (k_X9_legOf l E h q g (va_up a 30 f2) nc hc hnc ((a 9) i) ((a 10) i) ((a 9) j) ((a 10) j) (hpt i (by simp only [thr, h11, h12, h18d, h20, decide_true, decide_false, Bool.not_true, Bool.not_false, Bool.true_and, Bool.false_and, Bool.and_true, Bool.and_false, Bool.true_or, Bool.or_true, Bool.false_or, Bool.or_false, bI_t, bI_f])) (hpt j (by simp only [thr, h11, h12, h18d, h20, decide_true, decide_false, Bool.not_true, Bool.not_false, Bool.true_and, Bool.false_and, Bool.and_true, Bool.and_false, Bool.true_or, Bool.or_true, Bool.false_or, Bool.or_false, bI_t, bI_f]))) cal_yX9_legOf iv_yX9_legOf mlX9_190 rfl 0 rfl (by decide) (by decide) rfl (Nat.le_of_ble_eq_true rfl) Has.rf _ rfl dX9_fly_89 (fun r hr => ?_)
                    subst hr
                    refine i_val (v' := .int (legF g (va_up a 30 f2) nc ((a 9) i) ((a 10) i) ((a 9) j) ((a 10) j))) rfl ?_
                    refine i_val (v' := .int (legF g a nc ((a 9) i) ((a 10) i) ((a 9) j) ((a 10) j))) (congrArg Value.int (legF_30 _ _ _ _ _ _ _ _)) ?_
                    refine i_goto B 97 dX9_fly_92 (by decide) ?_
                    refine i_iastN B 19 (11 * i + j) (mW E h q g (va_up a 30 (upd f2 (11 * i + j) (legF g a nc ((a 9) i) ((a 10) i) ((a 9) j) ((a 10) j))))) rfl (by rw [show (11 : Int32) = nI 11 from rfl, pk_mul, nI_add]) (by omega) (by decide) rfl dX9_fly_97 ?_
                    refine i_iinc (v := (nI (j + 1))) B 1 [(2, .int (nI (j + 1))), (3, .int 1), (1, .int (nI i)), (0, .ref h)] dX9_fly_98 rfl ((nI_1 _)) (by decide) rfl ?_
                    refine i_goto B 10 dX9_fly_101 (by decide) ?_
                    refine i_locals [0, 2, 3] (L' := [(2, .int (nI (j + 1))), (1, .int (nI i)), (0, .ref h)]) rfl ?_
                    exact ih_lb (j + 1) (upd f2 (11 * i + j) (legF g a nc ((a 9) i) ((a 10) i) ((a 9) j) ((a 10) j))) (by omega) (by omega) (fun x y hy hlt => by (by_cases e : 11 * x + y = 11 * i + j; (have e1 : x = i := (by omega); have e2 : y = j := (by omega); subst e1; subst e2; rw [pk_us]; rw [lgm]; simp only [thr, h11, h12, h18d, h20, decide_true, decide_false, Bool.not_true, Bool.not_false, Bool.true_and, Bool.false_and, Bool.and_true, Bool.and_false, Bool.true_or, Bool.or_true, Bool.false_or, Bool.or_false, bI_t, bI_f, if_true, if_false, ite_true, ite_false, Bool.false_eq_true, Bool.true_eq_false, eq_self, reduceIte, true_or, or_true, false_or, or_false, and_true, true_and, and_false, false_and, not_true_eq_false, not_false_eq_true, decide_eq_true_eq, decide_eq_false_iff_not]); (rw [pk_un e]; exact hf2 x y hy (by omega))))
                  · rw [hv, nI_ltI (by omega) (by omega)] at h20
                    refine i_iload_n B 0 dX9_fly_38 rfl ?_
                    refine i_bipush (v := 10) B dX9_fly_39 (by decide) ?_
                    refine i_icmp_ne B 48 dX9_fly_41 (by decide) (fun h22 => ?_) (fun h22 => ?_)
                    · rw [show (10 : Int32) = nI 10 from rfl, nI_eq (by omega) (by omega)] at h22
                      have h22d := decide_eq_false h22
                      refine i_iconst (v := 0) B dX9_fly_48 (by decide) ?_
                      refine i_istore_n B [(3, .int 0), (2, .int (nI j)), (1, .int (nI i)), (0, .ref h)] dX9_fly_49 (by decide) rfl ?_
                      refine i_aload_n B 3 dX9_fly_50 rfl ?_
                      refine i_get (v := .ref (q 30)) B flX9_75 0 rfl rfl dX9_fly_51 ?_
                      refine i_bipush (v := 11) B dX9_fly_54 (by decide) ?_
                      refine i_iload_n B 2 dX9_fly_56 rfl ?_
                      refine i_imul B dX9_fly_57 ?_
                      refine i_iload_n B 1 dX9_fly_58 rfl ?_
                      refine i_iadd B dX9_fly_59 ?_
                      refine i_iload_n B 0 dX9_fly_60 rfl ?_
                      refine i_if_eq B 95 dX9_fly_61 (by decide) (fun _ => ?_) (fun h23 => absurd h23 (by decide))
                      refine i_ldc B ckX9_151 dX9_fly_95 ?_
                      refine i_iastN B 19 (11 * i + j) (mW E h q g (va_up a 30 (upd f2 (11 * i + j) 1000000))) rfl (by rw [show (11 : Int32) = nI 11 from rfl, pk_mul, nI_add]) (by omega) (by decide) rfl dX9_fly_97 ?_
                      refine i_iinc (v := (nI (j + 1))) B 1 [(2, .int (nI (j + 1))), (3, .int 0), (1, .int (nI i)), (0, .ref h)] dX9_fly_98 rfl ((nI_1 _)) (by decide) rfl ?_
                      refine i_goto B 10 dX9_fly_101 (by decide) ?_
                      refine i_locals [0, 2, 3] (L' := [(2, .int (nI (j + 1))), (1, .int (nI i)), (0, .ref h)]) rfl ?_
                      exact ih_lb (j + 1) (upd f2 (11 * i + j) 1000000) (by omega) (by omega) (fun x y hy hlt => by (by_cases e : 11 * x + y = 11 * i + j; (have e1 : x = i := (by omega); have e2 : y = j := (by omega); subst e1; subst e2; rw [pk_us]; rw [lgm]; simp only [thr, h11, h12, h18d, h20, h22d, decide_true, decide_false, Bool.not_true, Bool.not_false, Bool.true_and, Bool.false_and, Bool.and_true, Bool.and_false, Bool.true_or, Bool.or_true, Bool.false_or, Bool.or_false, bI_t, bI_f, if_true, if_false, ite_true, ite_false, Bool.false_eq_true, Bool.true_eq_false, eq_self, reduceIte, true_or, or_true, false_or, or_false, and_true, true_and, and_false, false_and, not_true_eq_false, not_false_eq_true, decide_eq_true_eq, decide_eq_false_iff_not]); (rw [pk_un e]; exact hf2 x y hy (by omega))))
                    · rw [show (10 : Int32) = nI 10 from rfl, nI_eq (by omega) (by omega)] at h22
                      have h22d := decide_eq_true h22
                      refine i_iconst (v := 1) B dX9_fly_44 (by decide) ?_
                      refine i_goto B 49 dX9_fly_45 (by decide) ?_
                      refine i_istore_n B [(3, .int 1), (2, .int (nI j)), (1, .int (nI i)), (0, .ref h)] dX9_fly_49 (by decide) rfl ?_
                      refine i_aload_n B 3 dX9_fly_50 rfl ?_
                      refine i_get (v := .ref (q 30)) B flX9_75 0 rfl rfl dX9_fly_51 ?_
                      refine i_bipush (v := 11) B dX9_fly_54 (by decide) ?_
                      refine i_iload_n B 2 dX9_fly_56 rfl ?_
                      refine i_imul B dX9_fly_57 ?_
                      refine i_iload_n B 1 dX9_fly_58 rfl ?_
                      refine i_iadd B dX9_fly_59 ?_
                      refine i_iload_n B 0 dX9_fly_60 rfl ?_
                      refine i_if_eq B 95 dX9_fly_61 (by decide) (fun h24 => absurd h24 (by decide)) (fun _ => ?_)
                      refine i_aload_n B 3 dX9_fly_64 rfl ?_
                      refine i_aload_n B 3 dX9_fly_65 rfl ?_
                      refine i_get (v := .ref (q 9)) B flX9_29 0 rfl rfl dX9_fly_66 ?_
                      refine i_iload_n B 2 dX9_fly_69 rfl ?_
                      refine i_ialdN B 5 i rfl rfl (by omega) (by decide) dX9_fly_70 ?_
                      refine i_aload_n B 3 dX9_fly_71 rfl ?_
                      refine i_get (v := .ref (q 10)) B flX9_32 0 rfl rfl dX9_fly_72 ?_
                      refine i_iload_n B 2 dX9_fly_75 rfl ?_
                      refine i_ialdN B 6 i rfl rfl (by omega) (by decide) dX9_fly_76 ?_
                      refine i_aload_n B 3 dX9_fly_77 rfl ?_
                      refine i_get (v := .ref (q 9)) B flX9_29 0 rfl rfl dX9_fly_78 ?_
                      refine i_iload_n B 1 dX9_fly_81 rfl ?_
                      refine i_ialdN B 5 j rfl rfl (by omega) (by decide) dX9_fly_82 ?_
                      refine i_aload_n B 3 dX9_fly_83 rfl ?_
                      refine i_get (v := .ref (q 10)) B flX9_32 0 rfl rfl dX9_fly_84 ?_
                      refine i_iload_n B 1 dX9_fly_87 rfl ?_
                      refine i_ialdN B 6 j rfl rfl (by omega) (by decide) dX9_fly_88 ?_
                      refine c_roV (rest := [.int ((11 * (nI i)) + (nI j)), .ref (q 30)]) (As := [.int ((a 9) i), .int ((a 10) i), .int ((a 9) j), .int ((a 10) j)]) B (k_X9_legOf l E h q g (va_up a 30 f2) nc hc hnc ((a 9) i) ((a 10) i) ((a 9) j) ((a 10) j) (hpt i (by simp only [thr, h11, h12, h18d, h20, h22d, decide_true, decide_false, Bool.not_true, Bool.not_false, Bool.true_and, Bool.false_and, Bool.and_true, Bool.and_false, Bool.true_or, Bool.or_true, Bool.false_or, Bool.or_false, bI_t, bI_f])) (hpt j (by simp only [thr, h11, h12, h18d, h20, h22d, decide_true, decide_false, Bool.not_true, Bool.not_false, Bool.true_and, Bool.false_and, Bool.and_true, Bool.and_false, Bool.true_or, Bool.or_true, Bool.false_or, Bool.or_false, bI_t, bI_f]))) cal_yX9_legOf iv_yX9_legOf mlX9_190 rfl 0 rfl (by decide) (by decide) rfl (Nat.le_of_ble_eq_true rfl) Has.rf _ rfl dX9_fly_89 (fun r hr => ?_)
                      subst hr
                      refine i_val (v' := .int (legF g (va_up a 30 f2) nc ((a 9) i) ((a 10) i) ((a 9) j) ((a 10) j))) rfl ?_
                      refine i_val (v' := .int (legF g a nc ((a 9) i) ((a 10) i) ((a 9) j) ((a 10) j))) (congrArg Value.int (legF_30 _ _ _ _ _ _ _ _)) ?_
                      refine i_goto B 97 dX9_fly_92 (by decide) ?_
                      refine i_iastN B 19 (11 * i + j) (mW E h q g (va_up a 30 (upd f2 (11 * i + j) (legF g a nc ((a 9) i) ((a 10) i) ((a 9) j) ((a 10) j))))) rfl (by rw [show (11 : Int32) = nI 11 from rfl, pk_mul, nI_add]) (by omega) (by decide) rfl dX9_fly_97 ?_
                      refine i_iinc (v := (nI (j + 1))) B 1 [(2, .int (nI (j + 1))), (3, .int 1), (1, .int (nI i)), (0, .ref h)] dX9_fly_98 rfl ((nI_1 _)) (by decide) rfl ?_
                      refine i_goto B 10 dX9_fly_101 (by decide) ?_
                      refine i_locals [0, 2, 3] (L' := [(2, .int (nI (j + 1))), (1, .int (nI i)), (0, .ref h)]) rfl ?_
                      exact ih_lb (j + 1) (upd f2 (11 * i + j) (legF g a nc ((a 9) i) ((a 10) i) ((a 9) j) ((a 10) j))) (by omega) (by omega) (fun x y hy hlt => by (by_cases e : 11 * x + y = 11 * i + j; (have e1 : x = i := (by omega); have e2 : y = j := (by omega); subst e1; subst e2; rw [pk_us]; rw [lgm]; simp only [thr, h11, h12, h18d, h20, h22d, decide_true, decide_false, Bool.not_true, Bool.not_false, Bool.true_and, Bool.false_and, Bool.and_true, Bool.and_false, Bool.true_or, Bool.or_true, Bool.false_or, Bool.or_false, bI_t, bI_f, if_true, if_false, ite_true, ite_false, Bool.false_eq_true, Bool.true_eq_false, eq_self, reduceIte, true_or, or_true, false_or, or_false, and_true, true_and, and_false, false_and, not_true_eq_false, not_false_eq_true, decide_eq_true_eq, decide_eq_false_iff_not]); (rw [pk_un e]; exact hf2 x y hy (by omega))))
        refine i_Leq (congrArg (fun z_9 => ([(2, .int z_9), (1, .int (nI i)), (0, .ref h)] : List (Nat × Value))) (show (0 : Int32) = (nI 0) from rfl)) ?_
        exact lb (12) 0 f1 (by omega) (Nat.zero_le _) (fun x y hy hl => hf1 x y hy (by omega))
  refine i_iconst (v := 0) B dX9_fly_0 (by decide) ?_
  refine i_istore_n B [(1, .int 0), (0, .ref h)] dX9_fly_1 (by decide) rfl ?_
  refine i_Leq (congrArg (fun z_9 => ([(1, .int z_9), (0, .ref h)] : List (Nat × Value))) (show (0 : Int32) = (nI 0) from rfl)) ?_
  refine i_world (ws' := (mW E h q g (va_up a 30 (a 30)))) (rfl) ?_
  exact la (12) 0 (a 30) (by omega) (Nat.zero_le _) (fun x y hy hl => absurd hl (by omega))
