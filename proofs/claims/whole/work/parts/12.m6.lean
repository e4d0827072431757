abbrev L4 : Type := Int64 × Int64 × Int64 × Int64
/-- one axis of the reference's test: what is left of the way, or nothing -/
def axF (fi la sz : Int64) (s : L4) : L4 := (if s.1 * sz < fi * s.2.1 then fi else s.1, if s.1 * sz < fi * s.2.1 then sz else s.2.1, if la * s.2.2.2 < s.2.2.1 * sz then la else s.2.2.1, if la * s.2.2.2 < s.2.2.1 * sz then sz else s.2.2.2)
def axT (p d low high : Int32) (s : L4) : Option L4 := if decide (d = 0) = true then (if (!decide (low < p) || !decide (p < high)) = true then none else some s) else if 0 < d then some (axF (low - p).toInt64 (high - p).toInt64 d.toInt64 s) else some (axF (p - high).toInt64 (p - low).toInt64 (-d).toInt64 s)
def insF (a : Nat → Nat → Int32) (c : Nat) (ax ay bx by_ : Int32) : Bool := if (decide (ax = bx) && decide (ay = by_)) = true then wit ax (a 12 c + 1) (a 14 c - 1) && wit ay (a 13 c + 1) (a 15 c - 1) else
  match axT ax (bx - ax) (a 12 c) (a 14 c) (0, 1, 1, 1) with
  | none => false
  | some s => match axT ay (by_ - ay) (a 13 c) (a 15 c) s with
    | none => false
    | some s => decide (s.1 * s.2.2.2 < s.2.2.1 * s.2.1)
def shF (a : Nat → Nat → Int32) (ax ay bx by_ : Int32) : Nat → Bool
  | 0 => false
  | k + 1 => shF a ax ay bx by_ k || insF a k ax ay bx by_
theorem shF_le {a : Nat → Nat → Int32} {ax ay bx by_ : Int32} {i n : Nat} (h : shF a ax ay bx by_ i = true) (hi : i ≤ n) : shF a ax ay bx by_ n = true := by
  induction n with
  | zero => rw [show i = 0 by omega] at h; exact h
  | succ n ih =>
    by_cases e : i = n + 1
    · rw [e] at h; exact h
    · rw [shF, ih (by omega), Bool.true_or]
def sqF (ax ay bx by_ : Int32) : Int32 := 100 * ((bx - ax) * (bx - ax) + (by_ - ay) * (by_ - ay))
/-- the root: the least number whose square is as great -/
def rtf (sq : Int32) : Nat → Nat → Nat
  | 0, r => r
  | n + 1, r => if decide (nI r * nI r < sq) = true then rtf sq n (r + 1) else r
def alF (g : Nat → Int32) (ax ay bx by_ : Int32) : Int32 := g 16 * (bx - ax) + g 17 * (by_ - ay)
def legF (g : Nat → Int32) (a : Nat → Nat → Int32) (nc : Nat) (ax ay bx by_ : Int32) : Int32 := if shF a ax ay bx by_ nc = true then 1000000 else nI (rtf (sqF ax ay bx by_) 1000 0) + (if alF g ax ay bx by_ < 0 then -alF g ax ay bx by_ / 10 else 0)
def legA (g : Nat → Int32) (a : Nat → Nat → Int32) (nc : Nat) (ax ay bx by_ : Int32) : Int32 := if (!(pt ax ay && pt bx by_)) = true then -2 else if decide (legF g a nc ax ay bx by_ = 1000000) = true then -9 else legF g a nc ax ay bx by_
/-- the square of a way between two POINTS -/
theorem sq_ij : ∀ i, i ≤ 60 → ∀ j, j ≤ 60 → (nI j - nI i) * (nI j - nI i) = nI ((j - i) * (j - i) + (i - j) * (i - j)) := by decide +kernel
theorem pt_ij {x y : Int32} (h : pt x y = true) : ∃ i j : Nat, i ≤ 60 ∧ j ≤ 60 ∧ x = nI i ∧ y = nI j := by
  unfold pt wit at h
  simp only [Bool.and_eq_true, Bool.not_eq_true', decide_eq_false_iff_not] at h
  obtain ⟨⟨h1, h2⟩, h3, h4⟩ := h
  obtain ⟨i, hi, rfl⟩ := nI_of2 (M := 60) (n := 60) rfl h1 (q_n32.mp h2)
  obtain ⟨j, hj, rfl⟩ := nI_of2 (M := 60) (n := 60) rfl h3 (q_n32.mp h4)
  exact ⟨i, j, hi, hj, rfl, rfl⟩
theorem sq_le {i j : Nat} (hi : i ≤ 60) (hj : j ≤ 60) : (j - i) * (j - i) + (i - j) * (i - j) ≤ 3600 := by
  have h : ∀ i, i ≤ 60 → ∀ j, j ≤ 60 → (j - i) * (j - i) + (i - j) * (i - j) ≤ 3600 := by decide +kernel
  exact h i hi j hj
theorem sqF_le {ax ay bx by_ : Int32} (ha : pt ax ay = true) (hb : pt bx by_ = true) : ∃ s : Nat, s ≤ 720000 ∧ sqF ax ay bx by_ = nI s := by
  obtain ⟨i, j, hi, hj, rfl, rfl⟩ := pt_ij ha
  obtain ⟨k, m, hk, hm, rfl, rfl⟩ := pt_ij hb
  have h1 := sq_le hi hk
  have h2 := sq_le hj hm
  refine ⟨100 * (((k - i) * (k - i) + (i - k) * (i - k)) + ((m - j) * (m - j) + (j - m) * (j - m))), by omega, ?_⟩
  unfold sqF
  rw [sq_ij i hi k hk, sq_ij j hj m hm, nI_add, show (100 : Int32) = nI 100 from rfl, pk_mul]
theorem rt_top {s r : Nat} (hs : s ≤ 720000) (hr : r ≤ 1000) (h : nI r * nI r < nI s) : r < 1000 := by
  rw [pk_mul, nI_ltI (by have := Nat.mul_le_mul hr hr; omega) (by omega)] at h
  by_cases e : r = 1000
  · subst e; omega
  · omega

set_option maxHeartbeats 4000000 in
set_option maxRecDepth 100000 in
theorem k_X9_isInside (l : Launch) (E : ED) (h : Nat) (q : Nat → Nat) (g : Nat → Int32) (a : Nat → Nat → Int32) (c : Nat) (hcc : c < 4) (ax ay bx by_ : Int32) : RO l E yX9_isInside cX9_isInside 25 .boolean 1 25 [.ref h, .int (nI c), .int ax, .int ay, .int bx, .int by_] (mW E h q g a) (fun r => r = bI (insF a c ax ay bx by_)) := by
  refine RO.mk (by decide) (Nat.le_of_ble_eq_true rfl) [(0, .ref h), (1, .int (nI c)), (2, .int ax), (3, .int ay), (4, .int bx), (5, .int by_)] rfl (fun Z B ret => ?_)
  have t2 : ∀ (fu : Int64) (fl : Int64) (tu : Int64) (tl : Int64), ((decide (ax = bx) && decide (ay = by_)) = false) → (insF a c ax ay bx by_ = decide (fu * tl < tu * fl)) → J Z 0 0 (mW E h q g a) 85 [(0, .ref h), (1, .int (nI c)), (2, .int ax), (3, .int ay), (4, .int bx), (5, .int by_), (6, .long fu), (8, .long fl), (10, .long tu), (12, .long tl), (14, .int 2)] [] := by
    intro fu fl tu tl hne h1
    refine i_iload B 10 dX9_isInside_85 rfl ?_
    refine i_iconst (v := 2) B dX9_isInside_87 (by decide) ?_
    refine i_icmp_ge B 297 dX9_isInside_88 (by decide) (fun _ => ?_) (fun h1 => absurd h1 (by decide))
    refine i_lload B 6 dX9_isInside_297 rfl ?_
    refine i_lload B 9 dX9_isInside_299 rfl ?_
    refine i_lmul B dX9_isInside_301 ?_
    refine i_lload B 8 dX9_isInside_302 rfl ?_
    refine i_lload B 7 dX9_isInside_304 rfl ?_
    refine i_lmul B dX9_isInside_306 ?_
    refine i_lc_ge B 315 dX9_isInside_307 dX9_isInside_308 (by decide) (fun h2 => ?_) (fun h2 => ?_)
    · replace h2 := q_n64.mpr h2
      refine i_iconst (v := 0) B dX9_isInside_315 (by decide) ?_
      exact ret _ _ _ (by decide) dX9_isInside_316 (by rw [h1]; simp only [h2, decide_true, decide_false, Bool.not_true, Bool.not_false, Bool.true_and, Bool.false_and, Bool.and_true, Bool.and_false, Bool.true_or, Bool.or_true, Bool.false_or, Bool.or_false, bI_t, bI_f])
    · replace h2 := q_m64.mp h2
      refine i_iconst (v := 1) B dX9_isInside_311 (by decide) ?_
      refine i_goto B 316 dX9_isInside_312 (by decide) ?_
      exact ret _ _ _ (by decide) dX9_isInside_316 (by rw [h1]; simp only [h2, decide_true, decide_false, Bool.not_true, Bool.not_false, Bool.true_and, Bool.false_and, Bool.and_true, Bool.and_false, Bool.true_or, Bool.or_true, Bool.false_or, Bool.or_false, bI_t, bI_f])
  have t1 : ∀ (fu : Int64) (fl : Int64) (tu : Int64) (tl : Int64), ((decide (ax = bx) && decide (ay = by_)) = false) → (axT ax (bx - ax) (a 12 c) (a 14 c) (0, 1, 1, 1) = some (fu, fl, tu, tl)) → J Z 0 0 (mW E h q g a) 85 [(0, .ref h), (1, .int (nI c)), (2, .int ax), (3, .int ay), (4, .int bx), (5, .int by_), (6, .long fu), (8, .long fl), (10, .long tu), (12, .long tl), (14, .int 1)] [] := by
    intro fu fl tu tl hne h0
    refine i_iload B 10 dX9_isInside_85 rfl ?_
    refine i_iconst (v := 2) B dX9_isInside_87 (by decide) ?_
    refine i_icmp_ge B 297 dX9_isInside_88 (by decide) (fun h3 => absurd h3 (by decide)) (fun _ => ?_)
    refine i_iload B 10 dX9_isInside_91 rfl ?_
    refine i_if_ne B 100 dX9_isInside_93 (by decide) (fun _ => ?_) (fun h4 => absurd h4 (by decide))
    refine i_iload_n B 3 dX9_isInside_100 rfl ?_
    refine i_istore B [(15, .int ay), (0, .ref h), (1, .int (nI c)), (2, .int ax), (3, .int ay), (4, .int bx), (5, .int by_), (6, .long fu), (8, .long fl), (10, .long tu), (12, .long tl), (14, .int 1)] dX9_isInside_101 (by decide) rfl ?_
    refine i_iload B 11 dX9_isInside_103 rfl ?_
    refine i_if_ne B 115 dX9_isInside_105 (by decide) (fun _ => ?_) (fun h5 => absurd h5 (by decide))
    refine i_iload B 6 dX9_isInside_115 rfl ?_
    refine i_iload_n B 4 dX9_isInside_117 rfl ?_
    refine i_isub B dX9_isInside_118 ?_
    refine i_istore B [(16, .int (by_ - ay)), (15, .int ay), (0, .ref h), (1, .int (nI c)), (2, .int ax), (3, .int ay), (4, .int bx), (5, .int by_), (6, .long fu), (8, .long fl), (10, .long tu), (12, .long tl), (14, .int 1)] dX9_isInside_119 (by decide) rfl ?_
    refine i_iload B 12 dX9_isInside_121 rfl ?_
    refine i_if_ne B 135 dX9_isInside_123 (by decide) (fun _ => ?_) (fun h6 => absurd h6 (by decide))
    refine i_aload_n B 2 dX9_isInside_135 rfl ?_
    refine i_get (v := .ref (q 13)) B flX9_38 0 rfl rfl dX9_isInside_136 ?_
    refine i_iload_n B 3 dX9_isInside_139 rfl ?_
    refine i_ialdN B 8 c rfl rfl (by omega) (by decide) dX9_isInside_140 ?_
    refine i_istore B [(17, .int ((a 13) c)), (16, .int (by_ - ay)), (15, .int ay), (0, .ref h), (1, .int (nI c)), (2, .int ax), (3, .int ay), (4, .int bx), (5, .int by_), (6, .long fu), (8, .long fl), (10, .long tu), (12, .long tl), (14, .int 1)] dX9_isInside_141 (by decide) rfl ?_
    refine i_iload B 13 dX9_isInside_143 rfl ?_
    refine i_if_ne B 157 dX9_isInside_145 (by decide) (fun _ => ?_) (fun h7 => absurd h7 (by decide))
    refine i_aload_n B 3 dX9_isInside_157 rfl ?_
    refine i_get (v := .ref (q 15)) B flX9_44 0 rfl rfl dX9_isInside_158 ?_
    refine i_iload_n B 4 dX9_isInside_161 rfl ?_
    refine i_ialdN B 10 c rfl rfl (by omega) (by decide) dX9_isInside_162 ?_
    refine i_istore B [(18, .int ((a 15) c)), (17, .int ((a 13) c)), (16, .int (by_ - ay)), (15, .int ay), (0, .ref h), (1, .int (nI c)), (2, .int ax), (3, .int ay), (4, .int bx), (5, .int by_), (6, .long fu), (8, .long fl), (10, .long tu), (12, .long tl), (14, .int 1)] dX9_isInside_163 (by decide) rfl ?_
    refine i_iload B 2 dX9_isInside_165 rfl ?_
    refine i_if_ne B 186 dX9_isInside_167 (by decide) (fun h8 => ?_) (fun h8 => ?_)
    · have h8d := decide_eq_false h8
      refine i_iload B 2 dX9_isInside_186 rfl ?_
      refine i_if_le B 197 dX9_isInside_188 (by decide) (fun h9 => ?_) (fun h9 => ?_)
      · replace h9 := q_n32.mpr h9
        refine i_iload B 2 dX9_isInside_197 rfl ?_
        refine i_ineg B dX9_isInside_199 ?_
        refine i_i2l B dX9_isInside_200 ?_
        refine i_lstore B [(19, .long (Int32.toInt64 (-(by_ - ay)))), (18, .int ((a 15) c)), (17, .int ((a 13) c)), (16, .int (by_ - ay)), (15, .int ay), (0, .ref h), (1, .int (nI c)), (2, .int ax), (3, .int ay), (4, .int bx), (5, .int by_), (6, .long fu), (8, .long fl), (10, .long tu), (12, .long tl), (14, .int 1)] dX9_isInside_201 (by decide) rfl ?_
        refine i_iload B 3 dX9_isInside_203 rfl ?_
        refine i_if_le B 217 dX9_isInside_205 (by decide) (fun _ => ?_) (fun h10 => absurd (q_m32.mp h10) h9)
        refine i_iload B 4 dX9_isInside_217 rfl ?_
        refine i_iload B 1 dX9_isInside_219 rfl ?_
        refine i_isub B dX9_isInside_221 ?_
        refine i_i2l B dX9_isInside_222 ?_
        refine i_lstore B [(21, .long (Int32.toInt64 (ay - ((a 15) c)))), (19, .long (Int32.toInt64 (-(by_ - ay)))), (18, .int ((a 15) c)), (17, .int ((a 13) c)), (16, .int (by_ - ay)), (15, .int ay), (0, .ref h), (1, .int (nI c)), (2, .int ax), (3, .int ay), (4, .int bx), (5, .int by_), (6, .long fu), (8, .long fl), (10, .long tu), (12, .long tl), (14, .int 1)] dX9_isInside_223 (by decide) rfl ?_
        refine i_iload B 4 dX9_isInside_225 rfl ?_
        refine i_if_le B 239 dX9_isInside_227 (by decide) (fun _ => ?_) (fun h11 => absurd (q_m32.mp h11) h9)
        refine i_iload B 5 dX9_isInside_239 rfl ?_
        refine i_iload B 3 dX9_isInside_241 rfl ?_
        refine i_isub B dX9_isInside_243 ?_
        refine i_i2l B dX9_isInside_244 ?_
        refine i_lstore B [(23, .long (Int32.toInt64 (ay - ((a 13) c)))), (21, .long (Int32.toInt64 (ay - ((a 15) c)))), (19, .long (Int32.toInt64 (-(by_ - ay)))), (18, .int ((a 15) c)), (17, .int ((a 13) c)), (16, .int (by_ - ay)), (15, .int ay), (0, .ref h), (1, .int (nI c)), (2, .int ax), (3, .int ay), (4, .int bx), (5, .int by_), (6, .long fu), (8, .long fl), (10, .long tu), (12, .long tl), (14, .int 1)] dX9_isInside_245 (by decide) rfl ?_
        refine i_lload B 1 dX9_isInside_247 rfl ?_
        refine i_lload B 14 dX9_isInside_249 rfl ?_
        refine i_lmul B dX9_isInside_251 ?_
        refine i_lload B 13 dX9_isInside_252 rfl ?_
        refine i_lload B 2 dX9_isInside_254 rfl ?_
        refine i_lmul B dX9_isInside_256 ?_
        refine i_lc_le B 269 dX9_isInside_257 dX9_isInside_258 (by decide) (fun h12 => ?_) (fun h12 => ?_)
        · replace h12 := q_n64.mpr h12
          refine i_lload B 0 dX9_isInside_269 rfl ?_
          refine i_lload B 16 dX9_isInside_271 rfl ?_
          refine i_lmul B dX9_isInside_273 ?_
          refine i_lload B 15 dX9_isInside_274 rfl ?_
          refine i_lload B 2 dX9_isInside_276 rfl ?_
          refine i_lmul B dX9_isInside_278 ?_
          refine i_lc_ge B 291 dX9_isInside_279 dX9_isInside_280 (by decide) (fun h13 => ?_) (fun h13 => ?_)
          · replace h13 := q_n64.mpr h13
            refine i_iinc (v := 2) B 17 [(14, .int 2), (23, .long (Int32.toInt64 (ay - ((a 13) c)))), (21, .long (Int32.toInt64 (ay - ((a 15) c)))), (19, .long (Int32.toInt64 (-(by_ - ay)))), (18, .int ((a 15) c)), (17, .int ((a 13) c)), (16, .int (by_ - ay)), (15, .int ay), (0, .ref h), (1, .int (nI c)), (2, .int ax), (3, .int ay), (4, .int bx), (5, .int by_), (6, .long fu), (8, .long fl), (10, .long tu), (12, .long tl)] dX9_isInside_291 rfl (by decide) (by decide) rfl ?_
            refine i_goto B 85 dX9_isInside_294 (by decide) ?_
            refine i_locals [8, 9, 10, 11, 12, 13, 14, 15, 16, 17, 0] (L' := [(0, .ref h), (1, .int (nI c)), (2, .int ax), (3, .int ay), (4, .int bx), (5, .int by_), (6, .long fu), (8, .long fl), (10, .long tu), (12, .long tl), (14, .int 2)]) rfl ?_
            exact t2 fu fl tu tl hne (by rw [insF, hne, h0]; simp only [axT, axF, h0, h8d, h9, h12, h13, decide_true, decide_false, Bool.not_true, Bool.not_false, Bool.true_and, Bool.false_and, Bool.and_true, Bool.and_false, Bool.true_or, Bool.or_true, Bool.false_or, Bool.or_false, bI_t, bI_f, if_true, if_false, ite_true, ite_false, Bool.false_eq_true, Bool.true_eq_false, eq_self, reduceIte, true_or, or_true, false_or, or_false, and_true, true_and, and_false, false_and, not_true_eq_false, not_false_eq_true, decide_eq_true_eq, decide_eq_false_iff_not])
          · replace h13 := q_m64.mp h13
            refine i_lload B 0 dX9_isInside_283 rfl ?_
            refine i_lstore B [(10, .long (Int32.toInt64 (ay - ((a 13) c)))), (23, .long (Int32.toInt64 (ay - ((a 13) c)))), (21, .long (Int32.toInt64 (ay - ((a 15) c)))), (19, .long (Int32.toInt64 (-(by_ - ay)))), (18, .int ((a 15) c)), (17, .int ((a 13) c)), (16, .int (by_ - ay)), (15, .int ay), (0, .ref h), (1, .int (nI c)), (2, .int ax), (3, .int ay), (4, .int bx), (5, .int by_), (6, .long fu), (8, .long fl), (12, .long tl), (14, .int 1)] dX9_isInside_285 (by decide) rfl ?_
            refine i_lload B 3 dX9_isInside_287 rfl ?_
            refine i_lstore B [(12, .long (Int32.toInt64 (-(by_ - ay)))), (10, .long (Int32.toInt64 (ay - ((a 13) c)))), (23, .long (Int32.toInt64 (ay - ((a 13) c)))), (21, .long (Int32.toInt64 (ay - ((a 15) c)))), (19, .long (Int32.toInt64 (-(by_ - ay)))), (18, .int ((a 15) c)), (17, .int ((a 13) c)), (16, .int (by_ - ay)), (15, .int ay), (0, .ref h), (1, .int (nI c)), (2, .int ax), (3, .int ay), (4, .int bx), (5, .int by_), (6, .long fu), (8, .long fl), (14, .int 1)] dX9_isInside_289 (by decide) rfl ?_
            refine i_iinc (v := 2) B 17 [(14, .int 2), (12, .long (Int32.toInt64 (-(by_ - ay)))), (10, .long (Int32.toInt64 (ay - ((a 13) c)))), (23, .long (Int32.toInt64 (ay - ((a 13) c)))), (21, .long (Int32.toInt64 (ay - ((a 15) c)))), (19, .long (Int32.toInt64 (-(by_ - ay)))), (18, .int ((a 15) c)), (17, .int ((a 13) c)), (16, .int (by_ - ay)), (15, .int ay), (0, .ref h), (1, .int (nI c)), (2, .int ax), (3, .int ay), (4, .int bx), (5, .int by_), (6, .long fu), (8, .long fl)] dX9_isInside_291 rfl (by decide) (by decide) rfl ?_
            refine i_goto B 85 dX9_isInside_294 (by decide) ?_
            refine i_locals [10, 11, 12, 13, 14, 15, 16, 17, 2, 1, 0] (L' := [(0, .ref h), (1, .int (nI c)), (2, .int ax), (3, .int ay), (4, .int bx), (5, .int by_), (6, .long fu), (8, .long fl), (10, .long (Int32.toInt64 (ay - ((a 13) c)))), (12, .long (Int32.toInt64 (-(by_ - ay)))), (14, .int 2)]) rfl ?_
            exact t2 fu fl (Int32.toInt64 (ay - ((a 13) c))) (Int32.toInt64 (-(by_ - ay))) hne (by rw [insF, hne, h0]; simp only [axT, axF, h0, h8d, h9, h12, h13, decide_true, decide_false, Bool.not_true, Bool.not_false, Bool.true_and, Bool.false_and, Bool.and_true, Bool.and_false, Bool.true_or, Bool.or_true, Bool.false_or, Bool.or_false, bI_t, bI_f, if_true, if_false, ite_true, ite_false, Bool.false_eq_true, Bool.true_eq_false, eq_self, reduceIte, true_or, or_true, false_or, or_false, and_true, true_and, and_false, false_and, not_true_eq_false, not_false_eq_true, decide_eq_true_eq, decide_eq_false_iff_not])
        · replace h12 := q_m64.mp h12
          refine i_lload B 1 dX9_isInside_261 rfl ?_
          refine i_lstore B [(6, .long (Int32.toInt64 (ay - ((a 15) c)))), (23, .long (Int32.toInt64 (ay - ((a 13) c)))), (21, .long (Int32.toInt64 (ay - ((a 15) c)))), (19, .long (Int32.toInt64 (-(by_ - ay)))), (18, .int ((a 15) c)), (17, .int ((a 13) c)), (16, .int (by_ - ay)), (15, .int ay), (0, .ref h), (1, .int (nI c)), (2, .int ax), (3, .int ay), (4, .int bx), (5, .int by_), (8, .long fl), (10, .long tu), (12, .long tl), (14, .int 1)] dX9_isInside_263 (by decide) rfl ?_
          refine i_lload B 3 dX9_isInside_265 rfl ?_
          refine i_lstore B [(8, .long (Int32.toInt64 (-(by_ - ay)))), (6, .long (Int32.toInt64 (ay - ((a 15) c)))), (23, .long (Int32.toInt64 (ay - ((a 13) c)))), (21, .long (Int32.toInt64 (ay - ((a 15) c)))), (19, .long (Int32.toInt64 (-(by_ - ay)))), (18, .int ((a 15) c)), (17, .int ((a 13) c)), (16, .int (by_ - ay)), (15, .int ay), (0, .ref h), (1, .int (nI c)), (2, .int ax), (3, .int ay), (4, .int bx), (5, .int by_), (10, .long tu), (12, .long tl), (14, .int 1)] dX9_isInside_267 (by decide) rfl ?_
          refine i_lload B 2 dX9_isInside_269 rfl ?_
          refine i_lload B 16 dX9_isInside_271 rfl ?_
          refine i_lmul B dX9_isInside_273 ?_
          refine i_lload B 15 dX9_isInside_274 rfl ?_
          refine i_lload B 4 dX9_isInside_276 rfl ?_
          refine i_lmul B dX9_isInside_278 ?_
          refine i_lc_ge B 291 dX9_isInside_279 dX9_isInside_280 (by decide) (fun h14 => ?_) (fun h14 => ?_)
          · replace h14 := q_n64.mpr h14
            refine i_iinc (v := 2) B 17 [(14, .int 2), (8, .long (Int32.toInt64 (-(by_ - ay)))), (6, .long (Int32.toInt64 (ay - ((a 15) c)))), (23, .long (Int32.toInt64 (ay - ((a 13) c)))), (21, .long (Int32.toInt64 (ay - ((a 15) c)))), (19, .long (Int32.toInt64 (-(by_ - ay)))), (18, .int ((a 15) c)), (17, .int ((a 13) c)), (16, .int (by_ - ay)), (15, .int ay), (0, .ref h), (1, .int (nI c)), (2, .int ax), (3, .int ay), (4, .int bx), (5, .int by_), (10, .long tu), (12, .long tl)] dX9_isInside_291 rfl (by decide) (by decide) rfl ?_
            refine i_goto B 85 dX9_isInside_294 (by decide) ?_
            refine i_locals [10, 11, 12, 13, 14, 15, 2, 1, 16, 17, 0] (L' := [(0, .ref h), (1, .int (nI c)), (2, .int ax), (3, .int ay), (4, .int bx), (5, .int by_), (6, .long (Int32.toInt64 (ay - ((a 15) c)))), (8, .long (Int32.toInt64 (-(by_ - ay)))), (10, .long tu), (12, .long tl), (14, .int 2)]) rfl ?_
            exact t2 (Int32.toInt64 (ay - ((a 15) c))) (Int32.toInt64 (-(by_ - ay))) tu tl hne (by rw [insF, hne, h0]; simp only [axT, axF, h0, h8d, h9, h12, h14, decide_true, decide_false, Bool.not_true, Bool.not_false, Bool.true_and, Bool.false_and, Bool.and_true, Bool.and_false, Bool.true_or, Bool.or_true, Bool.false_or, Bool.or_false, bI_t, bI_f, if_true, if_false, ite_true, ite_false, Bool.false_eq_true, Bool.true_eq_false, eq_self, reduceIte, true_or, or_true, false_or, or_false, and_true, true_and, and_false, false_and, not_true_eq_false, not_false_eq_true, decide_eq_true_eq, decide_eq_false_iff_not])
          · replace h14 := q_m64.mp h14
            refine i_lload B 2 dX9_isInside_283 rfl ?_
            refine i_lstore B [(10, .long (Int32.toInt64 (ay - ((a 13) c)))), (8, .long (Int32.toInt64 (-(by_ - ay)))), (6, .long (Int32.toInt64 (ay - ((a 15) c)))), (23, .long (Int32.toInt64 (ay - ((a 13) c)))), (21, .long (Int32.toInt64 (ay - ((a 15) c)))), (19, .long (Int32.toInt64 (-(by_ - ay)))), (18, .int ((a 15) c)), (17, .int ((a 13) c)), (16, .int (by_ - ay)), (15, .int ay), (0, .ref h), (1, .int (nI c)), (2, .int ax), (3, .int ay), (4, .int bx), (5, .int by_), (12, .long tl), (14, .int 1)] dX9_isInside_285 (by decide) rfl ?_
            refine i_lload B 5 dX9_isInside_287 rfl ?_
            refine i_lstore B [(12, .long (Int32.toInt64 (-(by_ - ay)))), (10, .long (Int32.toInt64 (ay - ((a 13) c)))), (8, .long (Int32.toInt64 (-(by_ - ay)))), (6, .long (Int32.toInt64 (ay - ((a 15) c)))), (23, .long (Int32.toInt64 (ay - ((a 13) c)))), (21, .long (Int32.toInt64 (ay - ((a 15) c)))), (19, .long (Int32.toInt64 (-(by_ - ay)))), (18, .int ((a 15) c)), (17, .int ((a 13) c)), (16, .int (by_ - ay)), (15, .int ay), (0, .ref h), (1, .int (nI c)), (2, .int ax), (3, .int ay), (4, .int bx), (5, .int by_), (14, .int 1)] dX9_isInside_289 (by decide) rfl ?_
            refine i_iinc (v := 2) B 17 [(14, .int 2), (12, .long (Int32.toInt64 (-(by_ - ay)))), (10, .long (Int32.toInt64 (ay - ((a 13) c)))), (8, .long (Int32.toInt64 (-(by_ - ay)))), (6, .long (Int32.toInt64 (ay - ((a 15) c)))), (23, .long (Int32.toInt64 (ay - ((a 13) c)))), (21, .long (Int32.toInt64 (ay - ((a 15) c)))), (19, .long (Int32.toInt64 (-(by_ - ay)))), (18, .int ((a 15) c)), (17, .int ((a 13) c)), (16, .int (by_ - ay)), (15, .int ay), (0, .ref h), (1, .int (nI c)), (2, .int ax), (3, .int ay), (4, .int bx), (5, .int by_)] dX9_isInside_291 rfl (by decide) (by decide) rfl ?_
            refine i_goto B 85 dX9_isInside_294 (by decide) ?_
            refine i_locals [12, 13, 14, 15, 16, 17, 4, 3, 2, 1, 0] (L' := [(0, .ref h), (1, .int (nI c)), (2, .int ax), (3, .int ay), (4, .int bx), (5, .int by_), (6, .long (Int32.toInt64 (ay - ((a 15) c)))), (8, .long (Int32.toInt64 (-(by_ - ay)))), (10, .long (Int32.toInt64 (ay - ((a 13) c)))), (12, .long (Int32.toInt64 (-(by_ - ay)))), (14, .int 2)]) rfl ?_
            exact t2 (Int32.toInt64 (ay - ((a 15) c))) (Int32.toInt64 (-(by_ - ay))) (Int32.toInt64 (ay - ((a 13) c))) (Int32.toInt64 (-(by_ - ay))) hne (by rw [insF, hne, h0]; simp only [axT, axF, h0, h8d, h9, h12, h14, decide_true, decide_false, Bool.not_true, Bool.not_false, Bool.true_and, Bool.false_and, Bool.and_true, Bool.and_false, Bool.true_or, Bool.or_true, Bool.false_or, Bool.or_false, bI_t, bI_f, if_true, if_false, ite_true, ite_false, Bool.false_eq_true, Bool.true_eq_false, eq_self, reduceIte, true_or, or_true, false_or, or_false, and_true, true_and, and_false, false_and, not_true_eq_false, not_false_eq_true, decide_eq_true_eq, decide_eq_false_iff_not])
      · replace h9 := q_m32.mp h9
        refine i_iload B 2 dX9_isInside_191 rfl ?_
        refine i_i2l B dX9_isInside_193 ?_
        refine i_goto B 201 dX9_isInside_194 (by decide) ?_
        refine i_lstore B [(19, .long (Int32.toInt64 (by_ - ay))), (18, .int ((a 15) c)), (17, .int ((a 13) c)), (16, .int (by_ - ay)), (15, .int ay), (0, .ref h), (1, .int (nI c)), (2, .int ax), (3, .int ay), (4, .int bx), (5, .int by_), (6, .long fu), (8, .long fl), (10, .long tu), (12, .long tl), (14, .int 1)] dX9_isInside_201 (by decide) rfl ?_
        refine i_iload B 3 dX9_isInside_203 rfl ?_
        refine i_if_le B 217 dX9_isInside_205 (by decide) (fun h15 => absurd h9 (q_n32.mpr h15)) (fun _ => ?_)
        refine i_iload B 2 dX9_isInside_208 rfl ?_
        refine i_iload B 4 dX9_isInside_210 rfl ?_
        refine i_isub B dX9_isInside_212 ?_
        refine i_i2l B dX9_isInside_213 ?_
        refine i_goto B 223 dX9_isInside_214 (by decide) ?_
        refine i_lstore B [(21, .long (Int32.toInt64 (((a 13) c) - ay))), (19, .long (Int32.toInt64 (by_ - ay))), (18, .int ((a 15) c)), (17, .int ((a 13) c)), (16, .int (by_ - ay)), (15, .int ay), (0, .ref h), (1, .int (nI c)), (2, .int ax), (3, .int ay), (4, .int bx), (5, .int by_), (6, .long fu), (8, .long fl), (10, .long tu), (12, .long tl), (14, .int 1)] dX9_isInside_223 (by decide) rfl ?_
        refine i_iload B 4 dX9_isInside_225 rfl ?_
        refine i_if_le B 239 dX9_isInside_227 (by decide) (fun h16 => absurd h9 (q_n32.mpr h16)) (fun _ => ?_)
        refine i_iload B 2 dX9_isInside_230 rfl ?_
        refine i_iload B 5 dX9_isInside_232 rfl ?_
        refine i_isub B dX9_isInside_234 ?_
        refine i_i2l B dX9_isInside_235 ?_
        refine i_goto B 245 dX9_isInside_236 (by decide) ?_
        refine i_lstore B [(23, .long (Int32.toInt64 (((a 15) c) - ay))), (21, .long (Int32.toInt64 (((a 13) c) - ay))), (19, .long (Int32.toInt64 (by_ - ay))), (18, .int ((a 15) c)), (17, .int ((a 13) c)), (16, .int (by_ - ay)), (15, .int ay), (0, .ref h), (1, .int (nI c)), (2, .int ax), (3, .int ay), (4, .int bx), (5, .int by_), (6, .long fu), (8, .long fl), (10, .long tu), (12, .long tl), (14, .int 1)] dX9_isInside_245 (by decide) rfl ?_
        refine i_lload B 1 dX9_isInside_247 rfl ?_
        refine i_lload B 14 dX9_isInside_249 rfl ?_
        refine i_lmul B dX9_isInside_251 ?_
        refine i_lload B 13 dX9_isInside_252 rfl ?_
        refine i_lload B 2 dX9_isInside_254 rfl ?_
        refine i_lmul B dX9_isInside_256 ?_
        refine i_lc_le B 269 dX9_isInside_257 dX9_isInside_258 (by decide) (fun h17 => ?_) (fun h17 => ?_)
        · replace h17 := q_n64.mpr h17
          refine i_lload B 0 dX9_isInside_269 rfl ?_
          refine i_lload B 16 dX9_isInside_271 rfl ?_
          refine i_lmul B dX9_isInside_273 ?_
          refine i_lload B 15 dX9_isInside_274 rfl ?_
          refine i_lload B 2 dX9_isInside_276 rfl ?_
          refine i_lmul B dX9_isInside_278 ?_
          refine i_lc_ge B 291 dX9_isInside_279 dX9_isInside_280 (by decide) (fun h18 => ?_) (fun h18 => ?_)
          · replace h18 := q_n64.mpr h18
            refine i_iinc (v := 2) B 17 [(14, .int 2), (23, .long (Int32.toInt64 (((a 15) c) - ay))), (21, .long (Int32.toInt64 (((a 13) c) - ay))), (19, .long (Int32.toInt64 (by_ - ay))), (18, .int ((a 15) c)), (17, .int ((a 13) c)), (16, .int (by_ - ay)), (15, .int ay), (0, .ref h), (1, .int (nI c)), (2, .int ax), (3, .int ay), (4, .int bx), (5, .int by_), (6, .long fu), (8, .long fl), (10, .long tu), (12, .long tl)] dX9_isInside_291 rfl (by decide) (by decide) rfl ?_
            refine i_goto B 85 dX9_isInside_294 (by decide) ?_
            refine i_locals [8, 9, 10, 11, 12, 13, 14, 15, 16, 17, 0] (L' := [(0, .ref h), (1, .int (nI c)), (2, .int ax), (3, .int ay), (4, .int bx), (5, .int by_), (6, .long fu), (8, .long fl), (10, .long tu), (12, .long tl), (14, .int 2)]) rfl ?_
            exact t2 fu fl tu tl hne (by rw [insF, hne, h0]; simp only [axT, axF, h0, h8d, h9, h17, h18, decide_true, decide_false, Bool.not_true, Bool.not_false, Bool.true_and, Bool.false_and, Bool.and_true, Bool.and_false, Bool.true_or, Bool.or_true, Bool.false_or, Bool.or_false, bI_t, bI_f, if_true, if_false, ite_true, ite_false, Bool.false_eq_true, Bool.true_eq_false, eq_self, reduceIte, true_or, or_true, false_or, or_false, and_true, true_and, and_false, false_and, not_true_eq_false, not_false_eq_true, decide_eq_true_eq, decide_eq_false_iff_not])
          · replace h18 := q_m64.mp h18
            refine i_lload B 0 dX9_isInside_283 rfl ?_
            refine i_lstore B [(10, .long (Int32.toInt64 (((a 15) c) - ay))), (23, .long (Int32.toInt64 (((a 15) c) - ay))), (21, .long (Int32.toInt64 (((a 13) c) - ay))), (19, .long (Int32.toInt64 (by_ - ay))), (18, .int ((a 15) c)), (17, .int ((a 13) c)), (16, .int (by_ - ay)), (15, .int ay), (0, .ref h), (1, .int (nI c)), (2, .int ax), (3, .int ay), (4, .int bx), (5, .int by_), (6, .long fu), (8, .long fl), (12, .long tl), (14, .int 1)] dX9_isInside_285 (by decide) rfl ?_
            refine i_lload B 3 dX9_isInside_287 rfl ?_
            refine i_lstore B [(12, .long (Int32.toInt64 (by_ - ay))), (10, .long (Int32.toInt64 (((a 15) c) - ay))), (23, .long (Int32.toInt64 (((a 15) c) - ay))), (21, .long (Int32.toInt64 (((a 13) c) - ay))), (19, .long (Int32.toInt64 (by_ - ay))), (18, .int ((a 15) c)), (17, .int ((a 13) c)), (16, .int (by_ - ay)), (15, .int ay), (0, .ref h), (1, .int (nI c)), (2, .int ax), (3, .int ay), (4, .int bx), (5, .int by_), (6, .long fu), (8, .long fl), (14, .int 1)] dX9_isInside_289 (by decide) rfl ?_
            refine i_iinc (v := 2) B 17 [(14, .int 2), (12, .long (Int32.toInt64 (by_ - ay))), (10, .long (Int32.toInt64 (((a 15) c) - ay))), (23, .long (Int32.toInt64 (((a 15) c) - ay))), (21, .long (Int32.toInt64 (((a 13) c) - ay))), (19, .long (Int32.toInt64 (by_ - ay))), (18, .int ((a 15) c)), (17, .int ((a 13) c)), (16, .int (by_ - ay)), (15, .int ay), (0, .ref h), (1, .int (nI c)), (2, .int ax), (3, .int ay), (4, .int bx), (5, .int by_), (6, .long fu), (8, .long fl)] dX9_isInside_291 rfl (by decide) (by decide) rfl ?_
            refine i_goto B 85 dX9_isInside_294 (by decide) ?_
            refine i_locals [10, 11, 12, 13, 14, 15, 16, 17, 2, 1, 0] (L' := [(0, .ref h), (1, .int (nI c)), (2, .int ax), (3, .int ay), (4, .int bx), (5, .int by_), (6, .long fu), (8, .long fl), (10, .long (Int32.toInt64 (((a 15) c) - ay))), (12, .long (Int32.toInt64 (by_ - ay))), (14, .int 2)]) rfl ?_
            exact t2 fu fl (Int32.toInt64 (((a 15) c) - ay)) (Int32.toInt64 (by_ - ay)) hne (by rw [insF, hne, h0]; simp only [axT, axF, h0, h8d, h9, h17, h18, decide_true, decide_false, Bool.not_true, Bool.not_false, Bool.true_and, Bool.false_and, Bool.and_true, Bool.and_false, Bool.true_or, Bool.or_true, Bool.false_or, Bool.or_false, bI_t, bI_f, if_true, if_false, ite_true, ite_false, Bool.false_eq_true, Bool.true_eq_false, eq_self, reduceIte, true_or, or_true, false_or, or_false, and_true, true_and, and_false, false_and, not_true_eq_false, not_false_eq_true, decide_eq_true_eq, decide_eq_false_iff_not])
        · replace h17 := q_m64.mp h17
          refine i_lload B 1 dX9_isInside_261 rfl ?_
          refine i_lstore B [(6, .long (Int32.toInt64 (((a 13) c) - ay))), (23, .long (Int32.toInt64 (((a 15) c) - ay))), (21, .long (Int32.toInt64 (((a 13) c) - ay))), (19, .long (Int32.toInt64 (by_ - ay))), (18, .int ((a 15) c)), (17, .int ((a 13) c)), (16, .int (by_ - ay)), (15, .int ay), (0, .ref h), (1, .int (nI c)), (2, .int ax), (3, .int ay), (4, .int bx), (5, .int by_), (8, .long fl), (10, .long tu), (12, .long tl), (14, .int 1)] dX9_isInside_263 (by decide) rfl ?_
          refine i_lload B 3 dX9_isInside_265 rfl ?_
          refine i_lstore B [(8, .long (Int32.toInt64 (by_ - ay))), (6, .long (Int32.toInt64 (((a 13) c) - ay))), (23, .long (Int32.toInt64 (((a 15) c) - ay))), (21, .long (Int32.toInt64 (((a 13) c) - ay))), (19, .long (Int32.toInt64 (by_ - ay))), (18, .int ((a 15) c)), (17, .int ((a 13) c)), (16, .int (by_ - ay)), (15, .int ay), (0, .ref h), (1, .int (nI c)), (2, .int ax), (3, .int ay), (4, .int bx), (5, .int by_), (10, .long tu), (12, .long tl), (14, .int 1)] dX9_isInside_267 (by decide) rfl ?_
          refine i_lload B 2 dX9_isInside_269 rfl ?_
          refine i_lload B 16 dX9_isInside_271 rfl ?_
          refine i_lmul B dX9_isInside_273 ?_
          refine i_lload B 15 dX9_isInside_274 rfl ?_
          refine i_lload B 4 dX9_isInside_276 rfl ?_
          refine i_lmul B dX9_isInside_278 ?_
          refine i_lc_ge B 291 dX9_isInside_279 dX9_isInside_280 (by decide) (fun h19 => ?_) (fun h19 => ?_)
          · replace h19 := q_n64.mpr h19
            refine i_iinc (v := 2) B 17 [(14, .int 2), (8, .long (Int32.toInt64 (by_ - ay))), (6, .long (Int32.toInt64 (((a 13) c) - ay))), (23, .long (Int32.toInt64 (((a 15) c) - ay))), (21, .long (Int32.toInt64 (((a 13) c) - ay))), (19, .long (Int32.toInt64 (by_ - ay))), (18, .int ((a 15) c)), (17, .int ((a 13) c)), (16, .int (by_ - ay)), (15, .int ay), (0, .ref h), (1, .int (nI c)), (2, .int ax), (3, .int ay), (4, .int bx), (5, .int by_), (10, .long tu), (12, .long tl)] dX9_isInside_291 rfl (by decide) (by decide) rfl ?_
            refine i_goto B 85 dX9_isInside_294 (by decide) ?_
            refine i_locals [10, 11, 12, 13, 14, 15, 2, 1, 16, 17, 0] (L' := [(0, .ref h), (1, .int (nI c)), (2, .int ax), (3, .int ay), (4, .int bx), (5, .int by_), (6, .long (Int32.toInt64 (((a 13) c) - ay))), (8, .long (Int32.toInt64 (by_ - ay))), (10, .long tu), (12, .long tl), (14, .int 2)]) rfl ?_
            exact t2 (Int32.toInt64 (((a 13) c) - ay)) (Int32.toInt64 (by_ - ay)) tu tl hne (by rw [insF, hne, h0]; simp only [axT, axF, h0, h8d, h9, h17, h19, decide_true, decide_false, Bool.not_true, Bool.not_false, Bool.true_and, Bool.false_and, Bool.and_true, Bool.and_false, Bool.true_or, Bool.or_true, Bool.false_or, Bool.or_false, bI_t, bI_f, if_true, if_false, ite_true, ite_false, Bool.false_eq_true, Bool.true_eq_false, eq_self, reduceIte, true_or, or_true, false_or, or_false, and_true, true_and, and_false, false_and, not_true_eq_false, not_false_eq_true, decide_eq_true_eq, decide_eq_false_iff_not])
          · replace h19 := q_m64.mp h19
            refine i_lload B 2 dX9_isInside_283 rfl ?_
            refine i_lstore B [(10, .long (Int32.toInt64 (((a 15) c) - ay))), (8, .long (Int32.toInt64 (by_ - ay))), (6, .long (Int32.toInt64 (((a 13) c) - ay))), (23, .long (Int32.toInt64 (((a 15) c) - ay))), (21, .long (Int32.toInt64 (((a 13) c) - ay))), (19, .long (Int32.toInt64 (by_ - ay))), (18, .int ((a 15) c)), (17, .int ((a 13) c)), (16, .int (by_ - ay)), (15, .int ay), (0, .ref h), (1, .int (nI c)), (2, .int ax), (3, .int ay), (4, .int bx), (5, .int by_), (12, .long tl), (14, .int 1)] dX9_isInside_285 (by decide) rfl ?_
            refine i_lload B 5 dX9_isInside_287 rfl ?_
            refine i_lstore B [(12, .long (Int32.toInt64 (by_ - ay))), (10, .long (Int32.toInt64 (((a 15) c) - ay))), (8, .long (Int32.toInt64 (by_ - ay))), (6, .long (Int32.toInt64 (((a 13) c) - ay))), (23, .long (Int32.toInt64 (((a 15) c) - ay))), (21, .long (Int32.toInt64 (((a 13) c) - ay))), (19, .long (Int32.toInt64 (by_ - ay))), (18, .int ((a 15) c)), (17, .int ((a 13) c)), (16, .int (by_ - ay)), (15, .int ay), (0, .ref h), (1, .int (nI c)), (2, .int ax), (3, .int ay), (4, .int bx), (5, .int by_), (14, .int 1)] dX9_isInside_289 (by decide) rfl ?_
            refine i_iinc (v := 2) B 17 [(14, .int 2), (12, .long (Int32.toInt64 (by_ - ay))), (10, .long (Int32.toInt64 (((a 15) c) - ay))), (8, .long (Int32.toInt64 (by_ - ay))), (6, .long (Int32.toInt64 (((a 13) c) - ay))), (23, .long (Int32.toInt64 (((a 15) c) - ay))), (21, .long (Int32.toInt64 (((a 13) c) - ay))), (19, .long (Int32.toInt64 (by_ - ay))), (18, .int ((a 15) c)), (17, .int ((a 13) c)), (16, .int (by_ - ay)), (15, .int ay), (0, .ref h), (1, .int (nI c)), (2, .int ax), (3, .int ay), (4, .int bx), (5, .int by_)] dX9_isInside_291 rfl (by decide) (by decide) rfl ?_
            refine i_goto B 85 dX9_isInside_294 (by decide) ?_
            refine i_locals [12, 13, 14, 15, 16, 17, 4, 3, 2, 1, 0] (L' := [(0, .ref h), (1, .int (nI c)), (2, .int ax), (3, .int ay), (4, .int bx), (5, .int by_), (6, .long (Int32.toInt64 (((a 13) c) - ay))), (8, .long (Int32.toInt64 (by_ - ay))), (10, .long (Int32.toInt64 (((a 15) c) - ay))), (12, .long (Int32.toInt64 (by_ - ay))), (14, .int 2)]) rfl ?_
            exact t2 (Int32.toInt64 (((a 13) c) - ay)) (Int32.toInt64 (by_ - ay)) (Int32.toInt64 (((a 15) c) - ay)) (Int32.toInt64 (by_ - ay)) hne (by rw [insF, hne, h0]; simp only [axT, axF, h0, h8d, h9, h17, h19, decide_true, decide_false, Bool.not_true, Bool.not_false, Bool.true_and, Bool.false_and, Bool.and_true, Bool.and_false, Bool.true_or, Bool.or_true, Bool.false_or, Bool.or_false, bI_t, bI_f, if_true, if_false, ite_true, ite_false, Bool.false_eq_true, Bool.true_eq_false, eq_self, reduceIte, true_or, or_true, false_or, or_false, and_true, true_and, and_false, false_and, not_true_eq_false, not_false_eq_true, decide_eq_true_eq, decide_eq_false_iff_not])
    · have h8d := decide_eq_true h8
      refine i_iload B 3 dX9_isInside_170 rfl ?_
      refine i_iload B 1 dX9_isInside_172 rfl ?_
      refine i_icmp_le B 184 dX9_isInside_174 (by decide) (fun h20 => ?_) (fun h20 => ?_)
      · replace h20 := q_n32.mpr h20
        refine i_iconst (v := 0) B dX9_isInside_184 (by decide) ?_
        exact ret _ _ _ (by decide) dX9_isInside_185 (by rw [insF, hne, h0]; simp only [axT, h8d, h20, decide_true, decide_false, Bool.not_true, Bool.not_false, Bool.true_and, Bool.false_and, Bool.and_true, Bool.and_false, Bool.true_or, Bool.or_true, Bool.false_or, Bool.or_false, bI_t, bI_f, if_true, if_false, ite_true, ite_false, Bool.false_eq_true, Bool.true_eq_false, eq_self, reduceIte, true_or, or_true, false_or, or_false, and_true, true_and, and_false, false_and, not_true_eq_false, not_false_eq_true, decide_eq_true_eq, decide_eq_false_iff_not])
      · replace h20 := q_m32.mp h20
        refine i_iload B 3 dX9_isInside_177 rfl ?_
        refine i_iload B 0 dX9_isInside_179 rfl ?_
        refine i_icmp_lt B 291 dX9_isInside_181 (by decide) (fun h21 => ?_) (fun h21 => ?_)
        · refine i_iinc (v := 2) B 14 [(14, .int 2), (18, .int ((a 15) c)), (17, .int ((a 13) c)), (16, .int (by_ - ay)), (15, .int ay), (0, .ref h), (1, .int (nI c)), (2, .int ax), (3, .int ay), (4, .int bx), (5, .int by_), (6, .long fu), (8, .long fl), (10, .long tu), (12, .long tl)] dX9_isInside_291 rfl (by decide) (by decide) rfl ?_
          refine i_goto B 85 dX9_isInside_294 (by decide) ?_
          refine i_locals [5, 6, 7, 8, 9, 10, 11, 12, 13, 14, 0] (L' := [(0, .ref h), (1, .int (nI c)), (2, .int ax), (3, .int ay), (4, .int bx), (5, .int by_), (6, .long fu), (8, .long fl), (10, .long tu), (12, .long tl), (14, .int 2)]) rfl ?_
          exact t2 fu fl tu tl hne (by rw [insF, hne, h0]; simp only [axT, axF, h0, h8d, h20, h21, decide_true, decide_false, Bool.not_true, Bool.not_false, Bool.true_and, Bool.false_and, Bool.and_true, Bool.and_false, Bool.true_or, Bool.or_true, Bool.false_or, Bool.or_false, bI_t, bI_f, if_true, if_false, ite_true, ite_false, Bool.false_eq_true, Bool.true_eq_false, eq_self, reduceIte, true_or, or_true, false_or, or_false, and_true, true_and, and_false, false_and, not_true_eq_false, not_false_eq_true, decide_eq_true_eq, decide_eq_false_iff_not])
        · refine i_iconst (v := 0) B dX9_isInside_184 (by decide) ?_
          exact ret _ _ _ (by decide) dX9_isInside_185 (by rw [insF, hne, h0]; simp only [axT, h8d, h20, h21, decide_true, decide_false, Bool.not_true, Bool.not_false, Bool.true_and, Bool.false_and, Bool.and_true, Bool.and_false, Bool.true_or, Bool.or_true, Bool.false_or, Bool.or_false, bI_t, bI_f, if_true, if_false, ite_true, ite_false, Bool.false_eq_true, Bool.true_eq_false, eq_self, reduceIte, true_or, or_true, false_or, or_false, and_true, true_and, and_false, false_and, not_true_eq_false, not_false_eq_true, decide_eq_true_eq, decide_eq_false_iff_not])
  have t0 : ((decide (ax = bx) && decide (ay = by_)) = false) → J Z 0 0 (mW E h q g a) 85 [(0, .ref h), (1, .int (nI c)), (2, .int ax), (3, .int ay), (4, .int bx), (5, .int by_), (6, .long 0), (8, .long 1), (10, .long 1), (12, .long 1), (14, .int 0)] [] := by
    intro  hne
    refine i_iload B 10 dX9_isInside_85 rfl ?_
    refine i_iconst (v := 2) B dX9_isInside_87 (by decide) ?_
    refine i_icmp_ge B 297 dX9_isInside_88 (by decide) (fun h22 => absurd h22 (by decide)) (fun _ => ?_)
    refine i_iload B 10 dX9_isInside_91 rfl ?_
    refine i_if_ne B 100 dX9_isInside_93 (by decide) (fun h23 => absurd h23 (by decide)) (fun _ => ?_)
    refine i_iload_n B 2 dX9_isInside_96 rfl ?_
    refine i_goto B 101 dX9_isInside_97 (by decide) ?_
    refine i_istore B [(15, .int ax), (0, .ref h), (1, .int (nI c)), (2, .int ax), (3, .int ay), (4, .int bx), (5, .int by_), (6, .long 0), (8, .long 1), (10, .long 1), (12, .long 1), (14, .int 0)] dX9_isInside_101 (by decide) rfl ?_
    refine i_iload B 11 dX9_isInside_103 rfl ?_
    refine i_if_ne B 115 dX9_isInside_105 (by decide) (fun h24 => absurd h24 (by decide)) (fun _ => ?_)
    refine i_iload B 5 dX9_isInside_108 rfl ?_
    refine i_iload_n B 3 dX9_isInside_110 rfl ?_
    refine i_isub B dX9_isInside_111 ?_
    refine i_goto B 119 dX9_isInside_112 (by decide) ?_
    refine i_istore B [(16, .int (bx - ax)), (15, .int ax), (0, .ref h), (1, .int (nI c)), (2, .int ax), (3, .int ay), (4, .int bx), (5, .int by_), (6, .long 0), (8, .long 1), (10, .long 1), (12, .long 1), (14, .int 0)] dX9_isInside_119 (by decide) rfl ?_
    refine i_iload B 12 dX9_isInside_121 rfl ?_
    refine i_if_ne B 135 dX9_isInside_123 (by decide) (fun h25 => absurd h25 (by decide)) (fun _ => ?_)
    refine i_aload_n B 2 dX9_isInside_126 rfl ?_
    refine i_get (v := .ref (q 12)) B flX9_35 0 rfl rfl dX9_isInside_127 ?_
    refine i_iload_n B 3 dX9_isInside_130 rfl ?_
    refine i_ialdN B 7 c rfl rfl (by omega) (by decide) dX9_isInside_131 ?_
    refine i_goto B 141 dX9_isInside_132 (by decide) ?_
    refine i_istore B [(17, .int ((a 12) c)), (16, .int (bx - ax)), (15, .int ax), (0, .ref h), (1, .int (nI c)), (2, .int ax), (3, .int ay), (4, .int bx), (5, .int by_), (6, .long 0), (8, .long 1), (10, .long 1), (12, .long 1), (14, .int 0)] dX9_isInside_141 (by decide) rfl ?_
    refine i_iload B 13 dX9_isInside_143 rfl ?_
    refine i_if_ne B 157 dX9_isInside_145 (by decide) (fun h26 => absurd h26 (by decide)) (fun _ => ?_)
    refine i_aload_n B 3 dX9_isInside_148 rfl ?_
    refine i_get (v := .ref (q 14)) B flX9_41 0 rfl rfl dX9_isInside_149 ?_
    refine i_iload_n B 4 dX9_isInside_152 rfl ?_
    refine i_ialdN B 9 c rfl rfl (by omega) (by decide) dX9_isInside_153 ?_
    refine i_goto B 163 dX9_isInside_154 (by decide) ?_
    refine i_istore B [(18, .int ((a 14) c)), (17, .int ((a 12) c)), (16, .int (bx - ax)), (15, .int ax), (0, .ref h), (1, .int (nI c)), (2, .int ax), (3, .int ay), (4, .int bx), (5, .int by_), (6, .long 0), (8, .long 1), (10, .long 1), (12, .long 1), (14, .int 0)] dX9_isInside_163 (by decide) rfl ?_
    refine i_iload B 2 dX9_isInside_165 rfl ?_
    refine i_if_ne B 186 dX9_isInside_167 (by decide) (fun h27 => ?_) (fun h27 => ?_)
    · have h27d := decide_eq_false h27
      refine i_iload B 2 dX9_isInside_186 rfl ?_
      refine i_if_le B 197 dX9_isInside_188 (by decide) (fun h28 => ?_) (fun h28 => ?_)
      · replace h28 := q_n32.mpr h28
        refine i_iload B 2 dX9_isInside_197 rfl ?_
        refine i_ineg B dX9_isInside_199 ?_
        refine i_i2l B dX9_isInside_200 ?_
        refine i_lstore B [(19, .long (Int32.toInt64 (-(bx - ax)))), (18, .int ((a 14) c)), (17, .int ((a 12) c)), (16, .int (bx - ax)), (15, .int ax), (0, .ref h), (1, .int (nI c)), (2, .int ax), (3, .int ay), (4, .int bx), (5, .int by_), (6, .long 0), (8, .long 1), (10, .long 1), (12, .long 1), (14, .int 0)] dX9_isInside_201 (by decide) rfl ?_
        refine i_iload B 3 dX9_isInside_203 rfl ?_
        refine i_if_le B 217 dX9_isInside_205 (by decide) (fun _ => ?_) (fun h29 => absurd (q_m32.mp h29) h28)
        refine i_iload B 4 dX9_isInside_217 rfl ?_
        refine i_iload B 1 dX9_isInside_219 rfl ?_
        refine i_isub B dX9_isInside_221 ?_
        refine i_i2l B dX9_isInside_222 ?_
        refine i_lstore B [(21, .long (Int32.toInt64 (ax - ((a 14) c)))), (19, .long (Int32.toInt64 (-(bx - ax)))), (18, .int ((a 14) c)), (17, .int ((a 12) c)), (16, .int (bx - ax)), (15, .int ax), (0, .ref h), (1, .int (nI c)), (2, .int ax), (3, .int ay), (4, .int bx), (5, .int by_), (6, .long 0), (8, .long 1), (10, .long 1), (12, .long 1), (14, .int 0)] dX9_isInside_223 (by decide) rfl ?_
        refine i_iload B 4 dX9_isInside_225 rfl ?_
        refine i_if_le B 239 dX9_isInside_227 (by decide) (fun _ => ?_) (fun h30 => absurd (q_m32.mp h30) h28)
        refine i_iload B 5 dX9_isInside_239 rfl ?_
        refine i_iload B 3 dX9_isInside_241 rfl ?_
        refine i_isub B dX9_isInside_243 ?_
        refine i_i2l B dX9_isInside_244 ?_
        refine i_lstore B [(23, .long (Int32.toInt64 (ax - ((a 12) c)))), (21, .long (Int32.toInt64 (ax - ((a 14) c)))), (19, .long (Int32.toInt64 (-(bx - ax)))), (18, .int ((a 14) c)), (17, .int ((a 12) c)), (16, .int (bx - ax)), (15, .int ax), (0, .ref h), (1, .int (nI c)), (2, .int ax), (3, .int ay), (4, .int bx), (5, .int by_), (6, .long 0), (8, .long 1), (10, .long 1), (12, .long 1), (14, .int 0)] dX9_isInside_245 (by decide) rfl ?_
        refine i_lload B 1 dX9_isInside_247 rfl ?_
        refine i_lload B 14 dX9_isInside_249 rfl ?_
        refine i_lmul B dX9_isInside_251 ?_
        refine i_lload B 13 dX9_isInside_252 rfl ?_
        refine i_lload B 2 dX9_isInside_254 rfl ?_
        refine i_lmul B dX9_isInside_256 ?_
        refine i_lc_le B 269 dX9_isInside_257 dX9_isInside_258 (by decide) (fun h31 => ?_) (fun h31 => ?_)
        · replace h31 := q_n64.mpr h31
          refine i_lload B 0 dX9_isInside_269 rfl ?_
          refine i_lload B 16 dX9_isInside_271 rfl ?_
          refine i_lmul B dX9_isInside_273 ?_
          refine i_lload B 15 dX9_isInside_274 rfl ?_
          refine i_lload B 2 dX9_isInside_276 rfl ?_
          refine i_lmul B dX9_isInside_278 ?_
          refine i_lc_ge B 291 dX9_isInside_279 dX9_isInside_280 (by decide) (fun h32 => ?_) (fun h32 => ?_)
          · replace h32 := q_n64.mpr h32
            refine i_iinc (v := 1) B 17 [(14, .int 1), (23, .long (Int32.toInt64 (ax - ((a 12) c)))), (21, .long (Int32.toInt64 (ax - ((a 14) c)))), (19, .long (Int32.toInt64 (-(bx - ax)))), (18, .int ((a 14) c)), (17, .int ((a 12) c)), (16, .int (bx - ax)), (15, .int ax), (0, .ref h), (1, .int (nI c)), (2, .int ax), (3, .int ay), (4, .int bx), (5, .int by_), (6, .long 0), (8, .long 1), (10, .long 1), (12, .long 1)] dX9_isInside_291 rfl (by decide) (by decide) rfl ?_
            refine i_goto B 85 dX9_isInside_294 (by decide) ?_
            refine i_locals [8, 9, 10, 11, 12, 13, 14, 15, 16, 17, 0] (L' := [(0, .ref h), (1, .int (nI c)), (2, .int ax), (3, .int ay), (4, .int bx), (5, .int by_), (6, .long 0), (8, .long 1), (10, .long 1), (12, .long 1), (14, .int 1)]) rfl ?_
            exact t1 0 1 1 1 hne (by simp only [axT, axF, h27d, h28, h31, h32, decide_true, decide_false, Bool.not_true, Bool.not_false, Bool.true_and, Bool.false_and, Bool.and_true, Bool.and_false, Bool.true_or, Bool.or_true, Bool.false_or, Bool.or_false, bI_t, bI_f, if_true, if_false, ite_true, ite_false, Bool.false_eq_true, Bool.true_eq_false, eq_self, reduceIte, true_or, or_true, false_or, or_false, and_true, true_and, and_false, false_and, not_true_eq_false, not_false_eq_true, decide_eq_true_eq, decide_eq_false_iff_not])
          · replace h32 := q_m64.mp h32
            refine i_lload B 0 dX9_isInside_283 rfl ?_
            refine i_lstore B [(10, .long (Int32.toInt64 (ax - ((a 12) c)))), (23, .long (Int32.toInt64 (ax - ((a 12) c)))), (21, .long (Int32.toInt64 (ax - ((a 14) c)))), (19, .long (Int32.toInt64 (-(bx - ax)))), (18, .int ((a 14) c)), (17, .int ((a 12) c)), (16, .int (bx - ax)), (15, .int ax), (0, .ref h), (1, .int (nI c)), (2, .int ax), (3, .int ay), (4, .int bx), (5, .int by_), (6, .long 0), (8, .long 1), (12, .long 1), (14, .int 0)] dX9_isInside_285 (by decide) rfl ?_
            refine i_lload B 3 dX9_isInside_287 rfl ?_
            refine i_lstore B [(12, .long (Int32.toInt64 (-(bx - ax)))), (10, .long (Int32.toInt64 (ax - ((a 12) c)))), (23, .long (Int32.toInt64 (ax - ((a 12) c)))), (21, .long (Int32.toInt64 (ax - ((a 14) c)))), (19, .long (Int32.toInt64 (-(bx - ax)))), (18, .int ((a 14) c)), (17, .int ((a 12) c)), (16, .int (bx - ax)), (15, .int ax), (0, .ref h), (1, .int (nI c)), (2, .int ax), (3, .int ay), (4, .int bx), (5, .int by_), (6, .long 0), (8, .long 1), (14, .int 0)] dX9_isInside_289 (by decide) rfl ?_
            refine i_iinc (v := 1) B 17 [(14, .int 1), (12, .long (Int32.toInt64 (-(bx - ax)))), (10, .long (Int32.toInt64 (ax - ((a 12) c)))), (23, .long (Int32.toInt64 (ax - ((a 12) c)))), (21, .long (Int32.toInt64 (ax - ((a 14) c)))), (19, .long (Int32.toInt64 (-(bx - ax)))), (18, .int ((a 14) c)), (17, .int ((a 12) c)), (16, .int (bx - ax)), (15, .int ax), (0, .ref h), (1, .int (nI c)), (2, .int ax), (3, .int ay), (4, .int bx), (5, .int by_), (6, .long 0), (8, .long 1)] dX9_isInside_291 rfl (by decide) (by decide) rfl ?_
            refine i_goto B 85 dX9_isInside_294 (by decide) ?_
            refine i_locals [10, 11, 12, 13, 14, 15, 16, 17, 2, 1, 0] (L' := [(0, .ref h), (1, .int (nI c)), (2, .int ax), (3, .int ay), (4, .int bx), (5, .int by_), (6, .long 0), (8, .long 1), (10, .long (Int32.toInt64 (ax - ((a 12) c)))), (12, .long (Int32.toInt64 (-(bx - ax)))), (14, .int 1)]) rfl ?_
            exact t1 0 1 (Int32.toInt64 (ax - ((a 12) c))) (Int32.toInt64 (-(bx - ax))) hne (by simp only [axT, axF, h27d, h28, h31, h32, decide_true, decide_false, Bool.not_true, Bool.not_false, Bool.true_and, Bool.false_and, Bool.and_true, Bool.and_false, Bool.true_or, Bool.or_true, Bool.false_or, Bool.or_false, bI_t, bI_f, if_true, if_false, ite_true, ite_false, Bool.false_eq_true, Bool.true_eq_false, eq_self, reduceIte, true_or, or_true, false_or, or_false, and_true, true_and, and_false, false_and, not_true_eq_false, not_false_eq_true, decide_eq_true_eq, decide_eq_false_iff_not])
        · replace h31 := q_m64.mp h31
          refine i_lload B 1 dX9_isInside_261 rfl ?_
          refine i_lstore B [(6, .long (Int32.toInt64 (ax - ((a 14) c)))), (23, .long (Int32.toInt64 (ax - ((a 12) c)))), (21, .long (Int32.toInt64 (ax - ((a 14) c)))), (19, .long (Int32.toInt64 (-(bx - ax)))), (18, .int ((a 14) c)), (17, .int ((a 12) c)), (16, .int (bx - ax)), (15, .int ax), (0, .ref h), (1, .int (nI c)), (2, .int ax), (3, .int ay), (4, .int bx), (5, .int by_), (8, .long 1), (10, .long 1), (12, .long 1), (14, .int 0)] dX9_isInside_263 (by decide) rfl ?_
          refine i_lload B 3 dX9_isInside_265 rfl ?_
          refine i_lstore B [(8, .long (Int32.toInt64 (-(bx - ax)))), (6, .long (Int32.toInt64 (ax - ((a 14) c)))), (23, .long (Int32.toInt64 (ax - ((a 12) c)))), (21, .long (Int32.toInt64 (ax - ((a 14) c)))), (19, .long (Int32.toInt64 (-(bx - ax)))), (18, .int ((a 14) c)), (17, .int ((a 12) c)), (16, .int (bx - ax)), (15, .int ax), (0, .ref h), (1, .int (nI c)), (2, .int ax), (3, .int ay), (4, .int bx), (5, .int by_), (10, .long 1), (12, .long 1), (14, .int 0)] dX9_isInside_267 (by decide) rfl ?_
          refine i_lload B 2 dX9_isInside_269 rfl ?_
          refine i_lload B 16 dX9_isInside_271 rfl ?_
          refine i_lmul B dX9_isInside_273 ?_
          refine i_lload B 15 dX9_isInside_274 rfl ?_
          refine i_lload B 4 dX9_isInside_276 rfl ?_
          refine i_lmul B dX9_isInside_278 ?_
          refine i_lc_ge B 291 dX9_isInside_279 dX9_isInside_280 (by decide) (fun h33 => ?_) (fun h33 => ?_)
          · replace h33 := q_n64.mpr h33
            refine i_iinc (v := 1) B 17 [(14, .int 1), (8, .long (Int32.toInt64 (-(bx - ax)))), (6, .long (Int32.toInt64 (ax - ((a 14) c)))), (23, .long (Int32.toInt64 (ax - ((a 12) c)))), (21, .long (Int32.toInt64 (ax - ((a 14) c)))), (19, .long (Int32.toInt64 (-(bx - ax)))), (18, .int ((a 14) c)), (17, .int ((a 12) c)), (16, .int (bx - ax)), (15, .int ax), (0, .ref h), (1, .int (nI c)), (2, .int ax), (3, .int ay), (4, .int bx), (5, .int by_), (10, .long 1), (12, .long 1)] dX9_isInside_291 rfl (by decide) (by decide) rfl ?_
            refine i_goto B 85 dX9_isInside_294 (by decide) ?_
            refine i_locals [10, 11, 12, 13, 14, 15, 2, 1, 16, 17, 0] (L' := [(0, .ref h), (1, .int (nI c)), (2, .int ax), (3, .int ay), (4, .int bx), (5, .int by_), (6, .long (Int32.toInt64 (ax - ((a 14) c)))), (8, .long (Int32.toInt64 (-(bx - ax)))), (10, .long 1), (12, .long 1), (14, .int 1)]) rfl ?_
            exact t1 (Int32.toInt64 (ax - ((a 14) c))) (Int32.toInt64 (-(bx - ax))) 1 1 hne (by simp only [axT, axF, h27d, h28, h31, h33, decide_true, decide_false, Bool.not_true, Bool.not_false, Bool.true_and, Bool.false_and, Bool.and_true, Bool.and_false, Bool.true_or, Bool.or_true, Bool.false_or, Bool.or_false, bI_t, bI_f, if_true, if_false, ite_true, ite_false, Bool.false_eq_true, Bool.true_eq_false, eq_self, reduceIte, true_or, or_true, false_or, or_false, and_true, true_and, and_false, false_and, not_true_eq_false, not_false_eq_true, decide_eq_true_eq, decide_eq_false_iff_not])
          · replace h33 := q_m64.mp h33
            refine i_lload B 2 dX9_isInside_283 rfl ?_
            refine i_lstore B [(10, .long (Int32.toInt64 (ax - ((a 12) c)))), (8, .long (Int32.toInt64 (-(bx - ax)))), (6, .long (Int32.toInt64 (ax - ((a 14) c)))), (23, .long (Int32.toInt64 (ax - ((a 12) c)))), (21, .long (Int32.toInt64 (ax - ((a 14) c)))), (19, .long (Int32.toInt64 (-(bx - ax)))), (18, .int ((a 14) c)), (17, .int ((a 12) c)), (16, .int (bx - ax)), (15, .int ax), (0, .ref h), (1, .int (nI c)), (2, .int ax), (3, .int ay), (4, .int bx), (5, .int by_), (12, .long 1), (14, .int 0)] dX9_isInside_285 (by decide) rfl ?_
            refine i_lload B 5 dX9_isInside_287 rfl ?_
            refine i_lstore B [(12, .long (Int32.toInt64 (-(bx - ax)))), (10, .long (Int32.toInt64 (ax - ((a 12) c)))), (8, .long (Int32.toInt64 (-(bx - ax)))), (6, .long (Int32.toInt64 (ax - ((a 14) c)))), (23, .long (Int32.toInt64 (ax - ((a 12) c)))), (21, .long (Int32.toInt64 (ax - ((a 14) c)))), (19, .long (Int32.toInt64 (-(bx - ax)))), (18, .int ((a 14) c)), (17, .int ((a 12) c)), (16, .int (bx - ax)), (15, .int ax), (0, .ref h), (1, .int (nI c)), (2, .int ax), (3, .int ay), (4, .int bx), (5, .int by_), (14, .int 0)] dX9_isInside_289 (by decide) rfl ?_
            refine i_iinc (v := 1) B 17 [(14, .int 1), (12, .long (Int32.toInt64 (-(bx - ax)))), (10, .long (Int32.toInt64 (ax - ((a 12) c)))), (8, .long (Int32.toInt64 (-(bx - ax)))), (6, .long (Int32.toInt64 (ax - ((a 14) c)))), (23, .long (Int32.toInt64 (ax - ((a 12) c)))), (21, .long (Int32.toInt64 (ax - ((a 14) c)))), (19, .long (Int32.toInt64 (-(bx - ax)))), (18, .int ((a 14) c)), (17, .int ((a 12) c)), (16, .int (bx - ax)), (15, .int ax), (0, .ref h), (1, .int (nI c)), (2, .int ax), (3, .int ay), (4, .int bx), (5, .int by_)] dX9_isInside_291 rfl (by decide) (by decide) rfl ?_
            refine i_goto B 85 dX9_isInside_294 (by decide) ?_
            refine i_locals [12, 13, 14, 15, 16, 17, 4, 3, 2, 1, 0] (L' := [(0, .ref h), (1, .int (nI c)), (2, .int ax), (3, .int ay), (4, .int bx), (5, .int by_), (6, .long (Int32.toInt64 (ax - ((a 14) c)))), (8, .long (Int32.toInt64 (-(bx - ax)))), (10, .long (Int32.toInt64 (ax - ((a 12) c)))), (12, .long (Int32.toInt64 (-(bx - ax)))), (14, .int 1)]) rfl ?_
            exact t1 (Int32.toInt64 (ax - ((a 14) c))) (Int32.toInt64 (-(bx - ax))) (Int32.toInt64 (ax - ((a 12) c))) (Int32.toInt64 (-(bx - ax))) hne (by simp only [axT, axF, h27d, h28, h31, h33, decide_true, decide_false, Bool.not_true, Bool.not_false, Bool.true_and, Bool.false_and, Bool.and_true, Bool.and_false, Bool.true_or, Bool.or_true, Bool.false_or, Bool.or_false, bI_t, bI_f, if_true, if_false, ite_true, ite_false, Bool.false_eq_true, Bool.true_eq_false, eq_self, reduceIte, true_or, or_true, false_or, or_false, and_true, true_and, and_false, false_and, not_true_eq_false, not_false_eq_true, decide_eq_true_eq, decide_eq_false_iff_not])
      · replace h28 := q_m32.mp h28
        refine i_iload B 2 dX9_isInside_191 rfl ?_
        refine i_i2l B dX9_isInside_193 ?_
        refine i_goto B 201 dX9_isInside_194 (by decide) ?_
        refine i_lstore B [(19, .long (Int32.toInt64 (bx - ax))), (18, .int ((a 14) c)), (17, .int ((a 12) c)), (16, .int (bx - ax)), (15, .int ax), (0, .ref h), (1, .int (nI c)), (2, .int ax), (3, .int ay), (4, .int bx), (5, .int by_), (6, .long 0), (8, .long 1), (10, .long 1), (12, .long 1), (14, .int 0)] dX9_isInside_201 (by decide) rfl ?_
        refine i_iload B 3 dX9_isInside_203 rfl ?_
        refine i_if_le B 217 dX9_isInside_205 (by decide) (fun h34 => absurd h28 (q_n32.mpr h34)) (fun _ => ?_)
        refine i_iload B 2 dX9_isInside_208 rfl ?_
        refine i_iload B 4 dX9_isInside_210 rfl ?_
        refine i_isub B dX9_isInside_212 ?_
        refine i_i2l B dX9_isInside_213 ?_
        refine i_goto B 223 dX9_isInside_214 (by decide) ?_
        refine i_lstore B [(21, .long (Int32.toInt64 (((a 12) c) - ax))), (19, .long (Int32.toInt64 (bx - ax))), (18, .int ((a 14) c)), (17, .int ((a 12) c)), (16, .int (bx - ax)), (15, .int ax), (0, .ref h), (1, .int (nI c)), (2, .int ax), (3, .int ay), (4, .int bx), (5, .int by_), (6, .long 0), (8, .long 1), (10, .long 1), (12, .long 1), (14, .int 0)] dX9_isInside_223 (by decide) rfl ?_
        refine i_iload B 4 dX9_isInside_225 rfl ?_
        refine i_if_le B 239 dX9_isInside_227 (by decide) (fun h35 => absurd h28 (q_n32.mpr h35)) (fun _ => ?_)
        refine i_iload B 2 dX9_isInside_230 rfl ?_
        refine i_iload B 5 dX9_isInside_232 rfl ?_
        refine i_isub B dX9_isInside_234 ?_
        refine i_i2l B dX9_isInside_235 ?_
        refine i_goto B 245 dX9_isInside_236 (by decide) ?_
        refine i_lstore B [(23, .long (Int32.toInt64 (((a 14) c) - ax))), (21, .long (Int32.toInt64 (((a 12) c) - ax))), (19, .long (Int32.toInt64 (bx - ax))), (18, .int ((a 14) c)), (17, .int ((a 12) c)), (16, .int (bx - ax)), (15, .int ax), (0, .ref h), (1, .int (nI c)), (2, .int ax), (3, .int ay), (4, .int bx), (5, .int by_), (6, .long 0), (8, .long 1), (10, .long 1), (12, .long 1), (14, .int 0)] dX9_isInside_245 (by decide) rfl ?_
        refine i_lload B 1 dX9_isInside_247 rfl ?_
        refine i_lload B 14 dX9_isInside_249 rfl ?_
        refine i_lmul B dX9_isInside_251 ?_
        refine i_lload B 13 dX9_isInside_252 rfl ?_
        refine i_lload B 2 dX9_isInside_254 rfl ?_
        refine i_lmul B dX9_isInside_256 ?_
        refine i_lc_le B 269 dX9_isInside_257 dX9_isInside_258 (by decide) (fun h36 => ?_) (fun h36 => ?_)
        · replace h36 := q_n64.mpr h36
          refine i_lload B 0 dX9_isInside_269 rfl ?_
          refine i_lload B 16 dX9_isInside_271 rfl ?_
          refine i_lmul B dX9_isInside_273 ?_
          refine i_lload B 15 dX9_isInside_274 rfl ?_
          refine i_lload B 2 dX9_isInside_276 rfl ?_
          refine i_lmul B dX9_isInside_278 ?_
          refine i_lc_ge B 291 dX9_isInside_279 dX9_isInside_280 (by decide) (fun h37 => ?_) (fun h37 => ?_)
          · replace h37 := q_n64.mpr h37
            refine i_iinc (v := 1) B 17 [(14, .int 1), (23, .long (Int32.toInt64 (((a 14) c) - ax))), (21, .long (Int32.toInt64 (((a 12) c) - ax))), (19, .long (Int32.toInt64 (bx - ax))), (18, .int ((a 14) c)), (17, .int ((a 12) c)), (16, .int (bx - ax)), (15, .int ax), (0, .ref h), (1, .int (nI c)), (2, .int ax), (3, .int ay), (4, .int bx), (5, .int by_), (6, .long 0), (8, .long 1), (10, .long 1), (12, .long 1)] dX9_isInside_291 rfl (by decide) (by decide) rfl ?_
            refine i_goto B 85 dX9_isInside_294 (by decide) ?_
            refine i_locals [8, 9, 10, 11, 12, 13, 14, 15, 16, 17, 0] (L' := [(0, .ref h), (1, .int (nI c)), (2, .int ax), (3, .int ay), (4, .int bx), (5, .int by_), (6, .long 0), (8, .long 1), (10, .long 1), (12, .long 1), (14, .int 1)]) rfl ?_
            exact t1 0 1 1 1 hne (by simp only [axT, axF, h27d, h28, h36, h37, decide_true, decide_false, Bool.not_true, Bool.not_false, Bool.true_and, Bool.false_and, Bool.and_true, Bool.and_false, Bool.true_or, Bool.or_true, Bool.false_or, Bool.or_false, bI_t, bI_f, if_true, if_false, ite_true, ite_false, Bool.false_eq_true, Bool.true_eq_false, eq_self, reduceIte, true_or, or_true, false_or, or_false, and_true, true_and, and_false, false_and, not_true_eq_false, not_false_eq_true, decide_eq_true_eq, decide_eq_false_iff_not])
          · replace h37 := q_m64.mp h37
            refine i_lload B 0 dX9_isInside_283 rfl ?_
            refine i_lstore B [(10, .long (Int32.toInt64 (((a 14) c) - ax))), (23, .long (Int32.toInt64 (((a 14) c) - ax))), (21, .long (Int32.toInt64 (((a 12) c) - ax))), (19, .long (Int32.toInt64 (bx - ax))), (18, .int ((a 14) c)), (17, .int ((a 12) c)), (16, .int (bx - ax)), (15, .int ax), (0, .ref h), (1, .int (nI c)), (2, .int ax), (3, .int ay), (4, .int bx), (5, .int by_), (6, .long 0), (8, .long 1), (12, .long 1), (14, .int 0)] dX9_isInside_285 (by decide) rfl ?_
            refine i_lload B 3 dX9_isInside_287 rfl ?_
            refine i_lstore B [(12, .long (Int32.toInt64 (bx - ax))), (10, .long (Int32.toInt64 (((a 14) c) - ax))), (23, .long (Int32.toInt64 (((a 14) c) - ax))), (21, .long (Int32.toInt64 (((a 12) c) - ax))), (19, .long (Int32.toInt64 (bx - ax))), (18, .int ((a 14) c)), (17, .int ((a 12) c)), (16, .int (bx - ax)), (15, .int ax), (0, .ref h), (1, .int (nI c)), (2, .int ax), (3, .int ay), (4, .int bx), (5, .int by_), (6, .long 0), (8, .long 1), (14, .int 0)] dX9_isInside_289 (by decide) rfl ?_
            refine i_iinc (v := 1) B 17 [(14, .int 1), (12, .long (Int32.toInt64 (bx - ax))), (10, .long (Int32.toInt64 (((a 14) c) - ax))), (23, .long (Int32.toInt64 (((a 14) c) - ax))), (21, .long (Int32.toInt64 (((a 12) c) - ax))), (19, .long (Int32.toInt64 (bx - ax))), (18, .int ((a 14) c)), (17, .int ((a 12) c)), (16, .int (bx - ax)), (15, .int ax), (0, .ref h), (1, .int (nI c)), (2, .int ax), (3, .int ay), (4, .int bx), (5, .int by_), (6, .long 0), (8, .long 1)] dX9_isInside_291 rfl (by decide) (by decide) rfl ?_
            refine i_goto B 85 dX9_isInside_294 (by decide) ?_
            refine i_locals [10, 11, 12, 13, 14, 15, 16, 17, 2, 1, 0] (L' := [(0, .ref h), (1, .int (nI c)), (2, .int ax), (3, .int ay), (4, .int bx), (5, .int by_), (6, .long 0), (8, .long 1), (10, .long (Int32.toInt64 (((a 14) c) - ax))), (12, .long (Int32.toInt64 (bx - ax))), (14, .int 1)]) rfl ?_
            exact t1 0 1 (Int32.toInt64 (((a 14) c) - ax)) (Int32.toInt64 (bx - ax)) hne (by simp only [axT, axF, h27d, h28, h36, h37, decide_true, decide_false, Bool.not_true, Bool.not_false, Bool.true_and, Bool.false_and, Bool.and_true, Bool.and_false, Bool.true_or, Bool.or_true, Bool.false_or, Bool.or_false, bI_t, bI_f, if_true, if_false, ite_true, ite_false, Bool.false_eq_true, Bool.true_eq_false, eq_self, reduceIte, true_or, or_true, false_or, or_false, and_true, true_and, and_false, false_and, not_true_eq_false, not_false_eq_true, decide_eq_true_eq, decide_eq_false_iff_not])
        · replace h36 := q_m64.mp h36
          refine i_lload B 1 dX9_isInside_261 rfl ?_
          refine i_lstore B [(6, .long (Int32.toInt64 (((a 12) c) - ax))), (23, .long (Int32.toInt64 (((a 14) c) - ax))), (21, .long (Int32.toInt64 (((a 12) c) - ax))), (19, .long (Int32.toInt64 (bx - ax))), (18, .int ((a 14) c)), (17, .int ((a 12) c)), (16, .int (bx - ax)), (15, .int ax), (0, .ref h), (1, .int (nI c)), (2, .int ax), (3, .int ay), (4, .int bx), (5, .int by_), (8, .long 1), (10, .long 1), (12, .long 1), (14, .int 0)] dX9_isInside_263 (by decide) rfl ?_
          refine i_lload B 3 dX9_isInside_265 rfl ?_
          refine i_lstore B [(8, .long (Int32.toInt64 (bx - ax))), (6, .long (Int32.toInt64 (((a 12) c) - ax))), (23, .long (Int32.toInt64 (((a 14) c) - ax))), (21, .long (Int32.toInt64 (((a 12) c) - ax))), (19, .long (Int32.toInt64 (bx - ax))), (18, .int ((a 14) c)), (17, .int ((a 12) c)), (16, .int (bx - ax)), (15, .int ax), (0, .ref h), (1, .int (nI c)), (2, .int ax), (3, .int ay), (4, .int bx), (5, .int by_), (10, .long 1), (12, .long 1), (14, .int 0)] dX9_isInside_267 (by decide) rfl ?_
          refine i_lload B 2 dX9_isInside_269 rfl ?_
          refine i_lload B 16 dX9_isInside_271 rfl ?_
          refine i_lmul B dX9_isInside_273 ?_
          refine i_lload B 15 dX9_isInside_274 rfl ?_
          refine i_lload B 4 dX9_isInside_276 rfl ?_
          refine i_lmul B dX9_isInside_278 ?_
          refine i_lc_ge B 291 dX9_isInside_279 dX9_isInside_280 (by decide) (fun h38 => ?_) (fun h38 => ?_)
          · replace h38 := q_n64.mpr h38
            refine i_iinc (v := 1) B 17 [(14, .int 1), (8, .long (Int32.toInt64 (bx - ax))), (6, .long (Int32.toInt64 (((a 12) c) - ax))), (23, .long (Int32.toInt64 (((a 14) c) - ax))), (21, .long (Int32.toInt64 (((a 12) c) - ax))), (19, .long (Int32.toInt64 (bx - ax))), (18, .int ((a 14) c)), (17, .int ((a 12) c)), (16, .int (bx - ax)), (15, .int ax), (0, .ref h), (1, .int (nI c)), (2, .int ax), (3, .int ay), (4, .int bx), (5, .int by_), (10, .long 1), (12, .long 1)] dX9_isInside_291 rfl (by decide) (by decide) rfl ?_
            refine i_goto B 85 dX9_isInside_294 (by decide) ?_
            refine i_locals [10, 11, 12, 13, 14, 15, 2, 1, 16, 17, 0] (L' := [(0, .ref h), (1, .int (nI c)), (2, .int ax), (3, .int ay), (4, .int bx), (5, .int by_), (6, .long (Int32.toInt64 (((a 12) c) - ax))), (8, .long (Int32.toInt64 (bx - ax))), (10, .long 1), (12, .long 1), (14, .int 1)]) rfl ?_
            exact t1 (Int32.toInt64 (((a 12) c) - ax)) (Int32.toInt64 (bx - ax)) 1 1 hne (by simp only [axT, axF, h27d, h28, h36, h38, decide_true, decide_false, Bool.not_true, Bool.not_false, Bool.true_and, Bool.false_and, Bool.and_true, Bool.and_false, Bool.true_or, Bool.or_true, Bool.false_or, Bool.or_false, bI_t, bI_f, if_true, if_false, ite_true, ite_false, Bool.false_eq_true, Bool.true_eq_false, eq_self, reduceIte, true_or, or_true, false_or, or_false, and_true, true_and, and_false, false_and, not_true_eq_false, not_false_eq_true, decide_eq_true_eq, decide_eq_false_iff_not])
          · replace h38 := q_m64.mp h38
            refine i_lload B 2 dX9_isInside_283 rfl ?_
            refine i_lstore B [(10, .long (Int32.toInt64 (((a 14) c) - ax))), (8, .long (Int32.toInt64 (bx - ax))), (6, .long (Int32.toInt64 (((a 12) c) - ax))), (23, .long (Int32.toInt64 (((a 14) c) - ax))), (21, .long (Int32.toInt64 (((a 12) c) - ax))), (19, .long (Int32.toInt64 (bx - ax))), (18, .int ((a 14) c)), (17, .int ((a 12) c)), (16, .int (bx - ax)), (15, .int ax), (0, .ref h), (1, .int (nI c)), (2, .int ax), (3, .int ay), (4, .int bx), (5, .int by_), (12, .long 1), (14, .int 0)] dX9_isInside_285 (by decide) rfl ?_
            refine i_lload B 5 dX9_isInside_287 rfl ?_
            refine i_lstore B [(12, .long (Int32.toInt64 (bx - ax))), (10, .long (Int32.toInt64 (((a 14) c) - ax))), (8, .long (Int32.toInt64 (bx - ax))), (6, .long (Int32.toInt64 (((a 12) c) - ax))), (23, .long (Int32.toInt64 (((a 14) c) - ax))), (21, .long (Int32.toInt64 (((a 12) c) - ax))), (19, .long (Int32.toInt64 (bx - ax))), (18, .int ((a 14) c)), (17, .int ((a 12) c)), (16, .int (bx - ax)), (15, .int ax), (0, .ref h), (1, .int (nI c)), (2, .int ax), (3, .int ay), (4, .int bx), (5, .int by_), (14, .int 0)] dX9_isInside_289 (by decide) rfl ?_
            refine i_iinc (v := 1) B 17 [(14, .int 1), (12, .long (Int32.toInt64 (bx - ax))), (10, .long (Int32.toInt64 (((a 14) c) - ax))), (8, .long (Int32.toInt64 (bx - ax))), (6, .long (Int32.toInt64 (((a 12) c) - ax))), (23, .long (Int32.toInt64 (((a 14) c) - ax))), (21, .long (Int32.toInt64 (((a 12) c) - ax))), (19, .long (Int32.toInt64 (bx - ax))), (18, .int ((a 14) c)), (17, .int ((a 12) c)), (16, .int (bx - ax)), (15, .int ax), (0, .ref h), (1, .int (nI c)), (2, .int ax), (3, .int ay), (4, .int bx), (5, .int by_)] dX9_isInside_291 rfl (by decide) (by decide) rfl ?_
            refine i_goto B 85 dX9_isInside_294 (by decide) ?_
            refine i_locals [12, 13, 14, 15, 16, 17, 4, 3, 2, 1, 0] (L' := [(0, .ref h), (1, .int (nI c)), (2, .int ax), (3, .int ay), (4, .int bx), (5, .int by_), (6, .long (Int32.toInt64 (((a 12) c) - ax))), (8, .long (Int32.toInt64 (bx - ax))), (10, .long (Int32.toInt64 (((a 14) c) - ax))), (12, .long (Int32.toInt64 (bx - ax))), (14, .int 1)]) rfl ?_
            exact t1 (Int32.toInt64 (((a 12) c) - ax)) (Int32.toInt64 (bx - ax)) (Int32.toInt64 (((a 14) c) - ax)) (Int32.toInt64 (bx - ax)) hne (by simp only [axT, axF, h27d, h28, h36, h38, decide_true, decide_false, Bool.not_true, Bool.not_false, Bool.true_and, Bool.false_and, Bool.and_true, Bool.and_false, Bool.true_or, Bool.or_true, Bool.false_or, Bool.or_false, bI_t, bI_f, if_true, if_false, ite_true, ite_false, Bool.false_eq_true, Bool.true_eq_false, eq_self, reduceIte, true_or, or_true, false_or, or_false, and_true, true_and, and_false, false_and, not_true_eq_false, not_false_eq_true, decide_eq_true_eq, decide_eq_false_iff_not])
    · have h27d := decide_eq_true h27
      refine i_iload B 3 dX9_isInside_170 rfl ?_
      refine i_iload B 1 dX9_isInside_172 rfl ?_
      refine i_icmp_le B 184 dX9_isInside_174 (by decide) (fun h39 => ?_) (fun h39 => ?_)
      · replace h39 := q_n32.mpr h39
        refine i_iconst (v := 0) B dX9_isInside_184 (by decide) ?_
        exact ret _ _ _ (by decide) dX9_isInside_185 (by rw [insF, hne]; simp only [axT, h27d, h39, decide_true, decide_false, Bool.not_true, Bool.not_false, Bool.true_and, Bool.false_and, Bool.and_true, Bool.and_false, Bool.true_or, Bool.or_true, Bool.false_or, Bool.or_false, bI_t, bI_f, if_true, if_false, ite_true, ite_false, Bool.false_eq_true, Bool.true_eq_false, eq_self, reduceIte, true_or, or_true, false_or, or_false, and_true, true_and, and_false, false_and, not_true_eq_false, not_false_eq_true, decide_eq_true_eq, decide_eq_false_iff_not])
      · replace h39 := q_m32.mp h39
        refine i_iload B 3 dX9_isInside_177 rfl ?_
        refine i_iload B 0 dX9_isInside_179 rfl ?_
        refine i_icmp_lt B 291 dX9_isInside_181 (by decide) (fun h40 => ?_) (fun h40 => ?_)
        · refine i_iinc (v := 1) B 14 [(14, .int 1), (18, .int ((a 14) c)), (17, .int ((a 12) c)), (16, .int (bx - ax)), (15, .int ax), (0, .ref h), (1, .int (nI c)), (2, .int ax), (3, .int ay), (4, .int bx), (5, .int by_), (6, .long 0), (8, .long 1), (10, .long 1), (12, .long 1)] dX9_isInside_291 rfl (by decide) (by decide) rfl ?_
          refine i_goto B 85 dX9_isInside_294 (by decide) ?_
          refine i_locals [5, 6, 7, 8, 9, 10, 11, 12, 13, 14, 0] (L' := [(0, .ref h), (1, .int (nI c)), (2, .int ax), (3, .int ay), (4, .int bx), (5, .int by_), (6, .long 0), (8, .long 1), (10, .long 1), (12, .long 1), (14, .int 1)]) rfl ?_
          exact t1 0 1 1 1 hne (by simp only [axT, axF, h27d, h39, h40, decide_true, decide_false, Bool.not_true, Bool.not_false, Bool.true_and, Bool.false_and, Bool.and_true, Bool.and_false, Bool.true_or, Bool.or_true, Bool.false_or, Bool.or_false, bI_t, bI_f, if_true, if_false, ite_true, ite_false, Bool.false_eq_true, Bool.true_eq_false, eq_self, reduceIte, true_or, or_true, false_or, or_false, and_true, true_and, and_false, false_and, not_true_eq_false, not_false_eq_true, decide_eq_true_eq, decide_eq_false_iff_not])
        · refine i_iconst (v := 0) B dX9_isInside_184 (by decide) ?_
          exact ret _ _ _ (by decide) dX9_isInside_185 (by rw [insF, hne]; simp only [axT, h27d, h39, h40, decide_true, decide_false, Bool.not_true, Bool.not_false, Bool.true_and, Bool.false_and, Bool.and_true, Bool.and_false, Bool.true_or, Bool.or_true, Bool.false_or, Bool.or_false, bI_t, bI_f, if_true, if_false, ite_true, ite_false, Bool.false_eq_true, Bool.true_eq_false, eq_self, reduceIte, true_or, or_true, false_or, or_false, and_true, true_and, and_false, false_and, not_true_eq_false, not_false_eq_true, decide_eq_true_eq, decide_eq_false_iff_not])
  refine i_iload_n B 2 dX9_isInside_0 rfl ?_
  refine i_iload B 4 dX9_isInside_1 rfl ?_
  refine i_icmp_ne B 70 dX9_isInside_3 (by decide) (fun h41 => ?_) (fun h41 => ?_)
  · have h41d := decide_eq_false h41
    refine i_lconst (v := 0) B dX9_isInside_70 (by decide) ?_
    refine i_lstore B [(6, .long 0), (0, .ref h), (1, .int (nI c)), (2, .int ax), (3, .int ay), (4, .int bx), (5, .int by_)] dX9_isInside_71 (by decide) rfl ?_
    refine i_lconst (v := 1) B dX9_isInside_73 (by decide) ?_
    refine i_lstore B [(8, .long 1), (6, .long 0), (0, .ref h), (1, .int (nI c)), (2, .int ax), (3, .int ay), (4, .int bx), (5, .int by_)] dX9_isInside_74 (by decide) rfl ?_
    refine i_lconst (v := 1) B dX9_isInside_76 (by decide) ?_
    refine i_lstore B [(10, .long 1), (8, .long 1), (6, .long 0), (0, .ref h), (1, .int (nI c)), (2, .int ax), (3, .int ay), (4, .int bx), (5, .int by_)] dX9_isInside_77 (by decide) rfl ?_
    refine i_lconst (v := 1) B dX9_isInside_79 (by decide) ?_
    refine i_lstore B [(12, .long 1), (10, .long 1), (8, .long 1), (6, .long 0), (0, .ref h), (1, .int (nI c)), (2, .int ax), (3, .int ay), (4, .int bx), (5, .int by_)] dX9_isInside_80 (by decide) rfl ?_
    refine i_iconst (v := 0) B dX9_isInside_82 (by decide) ?_
    refine i_istore B [(14, .int 0), (12, .long 1), (10, .long 1), (8, .long 1), (6, .long 0), (0, .ref h), (1, .int (nI c)), (2, .int ax), (3, .int ay), (4, .int bx), (5, .int by_)] dX9_isInside_83 (by decide) rfl ?_
    refine i_locals [5, 6, 7, 8, 9, 10, 4, 3, 2, 1, 0] (L' := [(0, .ref h), (1, .int (nI c)), (2, .int ax), (3, .int ay), (4, .int bx), (5, .int by_), (6, .long 0), (8, .long 1), (10, .long 1), (12, .long 1), (14, .int 0)]) rfl ?_
    exact t0  (by simp only [h41d, decide_true, decide_false, Bool.not_true, Bool.not_false, Bool.true_and, Bool.false_and, Bool.and_true, Bool.and_false, Bool.true_or, Bool.or_true, Bool.false_or, Bool.or_false, bI_t, bI_f])
  · have h41d := decide_eq_true h41
    refine i_iload_n B 3 dX9_isInside_6 rfl ?_
    refine i_iload B 5 dX9_isInside_7 rfl ?_
    refine i_icmp_ne B 70 dX9_isInside_9 (by decide) (fun h42 => ?_) (fun h42 => ?_)
    · have h42d := decide_eq_false h42
      refine i_lconst (v := 0) B dX9_isInside_70 (by decide) ?_
      refine i_lstore B [(6, .long 0), (0, .ref h), (1, .int (nI c)), (2, .int ax), (3, .int ay), (4, .int bx), (5, .int by_)] dX9_isInside_71 (by decide) rfl ?_
      refine i_lconst (v := 1) B dX9_isInside_73 (by decide) ?_
      refine i_lstore B [(8, .long 1), (6, .long 0), (0, .ref h), (1, .int (nI c)), (2, .int ax), (3, .int ay), (4, .int bx), (5, .int by_)] dX9_isInside_74 (by decide) rfl ?_
      refine i_lconst (v := 1) B dX9_isInside_76 (by decide) ?_
      refine i_lstore B [(10, .long 1), (8, .long 1), (6, .long 0), (0, .ref h), (1, .int (nI c)), (2, .int ax), (3, .int ay), (4, .int bx), (5, .int by_)] dX9_isInside_77 (by decide) rfl ?_
      refine i_lconst (v := 1) B dX9_isInside_79 (by decide) ?_
      refine i_lstore B [(12, .long 1), (10, .long 1), (8, .long 1), (6, .long 0), (0, .ref h), (1, .int (nI c)), (2, .int ax), (3, .int ay), (4, .int bx), (5, .int by_)] dX9_isInside_80 (by decide) rfl ?_
      refine i_iconst (v := 0) B dX9_isInside_82 (by decide) ?_
      refine i_istore B [(14, .int 0), (12, .long 1), (10, .long 1), (8, .long 1), (6, .long 0), (0, .ref h), (1, .int (nI c)), (2, .int ax), (3, .int ay), (4, .int bx), (5, .int by_)] dX9_isInside_83 (by decide) rfl ?_
      refine i_locals [5, 6, 7, 8, 9, 10, 4, 3, 2, 1, 0] (L' := [(0, .ref h), (1, .int (nI c)), (2, .int ax), (3, .int ay), (4, .int bx), (5, .int by_), (6, .long 0), (8, .long 1), (10, .long 1), (12, .long 1), (14, .int 0)]) rfl ?_
      exact t0  (by simp only [h41d, h42d, decide_true, decide_false, Bool.not_true, Bool.not_false, Bool.true_and, Bool.false_and, Bool.and_true, Bool.and_false, Bool.true_or, Bool.or_true, Bool.false_or, Bool.or_false, bI_t, bI_f])
    · have h42d := decide_eq_true h42
      refine i_iload_n B 2 dX9_isInside_12 rfl ?_
      refine i_i2l B dX9_isInside_13 ?_
      refine i_aload_n B 0 dX9_isInside_14 rfl ?_
      refine i_get (v := .ref (q 12)) B flX9_35 0 rfl rfl dX9_isInside_15 ?_
      refine i_iload_n B 1 dX9_isInside_18 rfl ?_
      refine i_ialdN B 7 c rfl rfl (by omega) (by decide) dX9_isInside_19 ?_
      refine i_iconst (v := 1) B dX9_isInside_20 (by decide) ?_
      refine i_iadd B dX9_isInside_21 ?_
      refine i_i2l B dX9_isInside_22 ?_
      refine i_aload_n B 0 dX9_isInside_23 rfl ?_
      refine i_get (v := .ref (q 14)) B flX9_41 0 rfl rfl dX9_isInside_24 ?_
      refine i_iload_n B 1 dX9_isInside_27 rfl ?_
      refine i_ialdN B 9 c rfl rfl (by omega) (by decide) dX9_isInside_28 ?_
      refine i_iconst (v := 1) B dX9_isInside_29 (by decide) ?_
      refine i_isub B dX9_isInside_30 ?_
      refine i_i2l B dX9_isInside_31 ?_
      refine c_roS (rest := []) (As := [.long (Int32.toInt64 ax), .long (Int32.toInt64 (((a 12) c) + 1)), .long (Int32.toInt64 (((a 14) c) - 1))]) B (k_X9_in l E (Int32.toInt64 ax) (Int32.toInt64 (((a 12) c) + 1)) (Int32.toInt64 (((a 14) c) - 1))) cal_yX9_in is_yX9_in mlX9_104 (by decide) (by decide) rfl (Nat.le_of_ble_eq_true rfl) Has.nil _ rfl dX9_isInside_32 (fun r hr => ?_)
      subst hr
      refine i_val (v' := .int (bI (wit ax (((a 12) c) + 1) (((a 14) c) - 1)))) (congrArg (fun z => Value.int (bI z)) (pin_i ax (((a 12) c) + 1) (((a 14) c) - 1))) ?_
      refine i_if_eq B 68 dX9_isInside_35 (by decide) (fun h43 => ?_) (fun h43 => ?_)
      · replace h43 := bI_0.mp h43
        refine i_iconst (v := 0) B dX9_isInside_68 (by decide) ?_
        exact ret _ _ _ (by decide) dX9_isInside_69 (by rw [insF]; simp only [h41d, h42d, h43, decide_true, decide_false, Bool.not_true, Bool.not_false, Bool.true_and, Bool.false_and, Bool.and_true, Bool.and_false, Bool.true_or, Bool.or_true, Bool.false_or, Bool.or_false, bI_t, bI_f, if_true, if_false, ite_true, ite_false, Bool.false_eq_true, Bool.true_eq_false, eq_self, reduceIte, true_or, or_true, false_or, or_false, and_true, true_and, and_false, false_and, not_true_eq_false, not_false_eq_true, decide_eq_true_eq, decide_eq_false_iff_not])
      · replace h43 := bI_n.mp h43
        refine i_iload_n B 3 dX9_isInside_38 rfl ?_
        refine i_i2l B dX9_isInside_39 ?_
        refine i_aload_n B 0 dX9_isInside_40 rfl ?_
        refine i_get (v := .ref (q 13)) B flX9_38 0 rfl rfl dX9_isInside_41 ?_
        refine i_iload_n B 1 dX9_isInside_44 rfl ?_
        refine i_ialdN B 8 c rfl rfl (by omega) (by decide) dX9_isInside_45 ?_
        refine i_iconst (v := 1) B dX9_isInside_46 (by decide) ?_
        refine i_iadd B dX9_isInside_47 ?_
        refine i_i2l B dX9_isInside_48 ?_
        refine i_aload_n B 0 dX9_isInside_49 rfl ?_
        refine i_get (v := .ref (q 15)) B flX9_44 0 rfl rfl dX9_isInside_50 ?_
        refine i_iload_n B 1 dX9_isInside_53 rfl ?_
        refine i_ialdN B 10 c rfl rfl (by omega) (by decide) dX9_isInside_54 ?_
        refine i_iconst (v := 1) B dX9_isInside_55 (by decide) ?_
        refine i_isub B dX9_isInside_56 ?_
        refine i_i2l B dX9_isInside_57 ?_
        refine c_roS (rest := []) (As := [.long (Int32.toInt64 ay), .long (Int32.toInt64 (((a 13) c) + 1)), .long (Int32.toInt64 (((a 15) c) - 1))]) B (k_X9_in l E (Int32.toInt64 ay) (Int32.toInt64 (((a 13) c) + 1)) (Int32.toInt64 (((a 15) c) - 1))) cal_yX9_in is_yX9_in mlX9_104 (by decide) (by decide) rfl (Nat.le_of_ble_eq_true rfl) Has.nil _ rfl dX9_isInside_58 (fun r hr => ?_)
        subst hr
        refine i_val (v' := .int (bI (wit ay (((a 13) c) + 1) (((a 15) c) - 1)))) (congrArg (fun z => Value.int (bI z)) (pin_i ay (((a 13) c) + 1) (((a 15) c) - 1))) ?_
        refine i_if_eq B 68 dX9_isInside_61 (by decide) (fun h44 => ?_) (fun h44 => ?_)
        · replace h44 := bI_0.mp h44
          refine i_iconst (v := 0) B dX9_isInside_68 (by decide) ?_
          exact ret _ _ _ (by decide) dX9_isInside_69 (by rw [insF]; simp only [h41d, h42d, h43, h44, decide_true, decide_false, Bool.not_true, Bool.not_false, Bool.true_and, Bool.false_and, Bool.and_true, Bool.and_false, Bool.true_or, Bool.or_true, Bool.false_or, Bool.or_false, bI_t, bI_f, if_true, if_false, ite_true, ite_false, Bool.false_eq_true, Bool.true_eq_false, eq_self, reduceIte, true_or, or_true, false_or, or_false, and_true, true_and, and_false, false_and, not_true_eq_false, not_false_eq_true, decide_eq_true_eq, decide_eq_false_iff_not])
        · replace h44 := bI_n.mp h44
          refine i_iconst (v := 1) B dX9_isInside_64 (by decide) ?_
          refine i_goto B 69 dX9_isInside_65 (by decide) ?_
          exact ret _ _ _ (by decide) dX9_isInside_69 (by rw [insF]; simp only [h41d, h42d, h43, h44, decide_true, decide_false, Bool.not_true, Bool.not_false, Bool.true_and, Bool.false_and, Bool.and_true, Bool.and_false, Bool.true_or, Bool.or_true, Bool.false_or, Bool.or_false, bI_t, bI_f, if_true, if_false, ite_true, ite_false, Bool.false_eq_true, Bool.true_eq_false, eq_self, reduceIte, true_or, or_true, false_or, or_false, and_true, true_and, and_false, false_and, not_true_eq_false, not_false_eq_true, decide_eq_true_eq, decide_eq_false_iff_not])

set_option maxHeartbeats 4000000 in
set_option maxRecDepth 100000 in
theorem k_X9_legOf (l : Launch) (E : ED) (h : Nat) (q : Nat → Nat) (g : Nat → Int32) (a : Nat → Nat → Int32) (nc : Nat) (hc : g 11 = nI nc) (hnc : nc ≤ 4) (ax ay bx by_ : Int32) (ha : pt ax ay = true) (hb : pt bx by_ = true) : RO l E yX9_legOf cX9_legOf 10 .int 2 69 [.ref h, .int ax, .int ay, .int bx, .int by_] (mW E h q g a) (fun r => r = legF g a nc ax ay bx by_) := by
  refine RO.mk (by decide) (Nat.le_of_ble_eq_true rfl) [(0, .ref h), (1, .int ax), (2, .int ay), (3, .int bx), (4, .int by_)] rfl (fun Z B ret => ?_)
  obtain ⟨sq, hse1, hse⟩ := sqF_le ha hb
  rw [sqF] at hse
  have lr : ∀ (n_lr : Nat) (r : Nat), (1000 - r < n_lr) → (r ≤ 1000) → (rtf (100 * (((bx - ax) * (bx - ax)) + ((by_ - ay) * (by_ - ay)))) 1000 0 = rtf (100 * (((bx - ax) * (bx - ax)) + ((by_ - ay) * (by_ - ay)))) (1000 - r) r) → (shF a ax ay bx by_ nc = false) → J Z 0 0 (mW E h q g a) 65 [(8, .int (nI r)), (7, .int (100 * (((bx - ax) * (bx - ax)) + ((by_ - ay) * (by_ - ay))))), (6, .int (by_ - ay)), (5, .int (bx - ax)), (0, .ref h)] [] := by
    intro n_lr
    induction n_lr with
    | zero => intro r hf_lr hr hrt hsh; omega
    | succ n_lr ih_lr =>
      intro r hf_lr hr hrt hsh
      refine i_iload B 0 dX9_legOf_65 rfl ?_
      refine i_iload B 0 dX9_legOf_67 rfl ?_
      refine i_imul B dX9_legOf_69 ?_
      refine i_iload B 1 dX9_legOf_70 rfl ?_
      refine i_icmp_ge B 81 dX9_legOf_72 (by decide) (fun h1 => ?_) (fun h1 => ?_)
      · replace h1 := q_n32.mpr h1
        refine i_aload_n B 4 dX9_legOf_81 rfl ?_
        refine i_get (v := .int (g 16)) B flX9_173 0 rfl rfl dX9_legOf_82 ?_
        refine i_iload B 3 dX9_legOf_85 rfl ?_
        refine i_imul B dX9_legOf_87 ?_
        refine i_aload_n B 4 dX9_legOf_88 rfl ?_
        refine i_get (v := .int (g 17)) B flX9_176 0 rfl rfl dX9_legOf_89 ?_
        refine i_iload B 2 dX9_legOf_92 rfl ?_
        refine i_imul B dX9_legOf_94 ?_
        refine i_iadd B dX9_legOf_95 ?_
        refine i_istore B [(9, .int (((g 16) * (bx - ax)) + ((g 17) * (by_ - ay)))), (8, .int (nI r)), (7, .int (100 * (((bx - ax) * (bx - ax)) + ((by_ - ay) * (by_ - ay))))), (6, .int (by_ - ay)), (5, .int (bx - ax)), (0, .ref h)] dX9_legOf_96 (by decide) rfl ?_
        refine i_iload B 1 dX9_legOf_98 rfl ?_
        refine i_iload B 0 dX9_legOf_100 rfl ?_
        refine i_if_ge B 114 dX9_legOf_102 (by decide) (fun h2 => ?_) (fun h2 => ?_)
        · replace h2 := q_n32.mpr h2
          refine i_iconst (v := 0) B dX9_legOf_114 (by decide) ?_
          refine i_iadd B dX9_legOf_115 ?_
          exact ret _ _ _ rfl dX9_legOf_116 (by (have e : rtf (100 * (((bx - ax) * (bx - ax)) + ((by_ - ay) * (by_ - ay)))) (1000 - r) r = r := (by (cases hq : 1000 - r with | zero => rfl | succ m => rw [rtf, decide_eq_false h1, if_neg (by decide)])); rw [legF, hsh, if_neg (by decide), sqF, hrt, e, alF]; simp only [h2, if_true, if_false]))
        · replace h2 := q_m32.mp h2
          refine i_iload B 0 dX9_legOf_105 rfl ?_
          refine i_ineg B dX9_legOf_107 ?_
          refine i_bipush (v := 10) B dX9_legOf_108 (by decide) ?_
          refine i_idiv B dX9_legOf_110 (by decide) ?_
          refine i_goto B 115 dX9_legOf_111 (by decide) ?_
          refine i_iadd B dX9_legOf_115 ?_
          exact ret _ _ _ rfl dX9_legOf_116 (by (have e : rtf (100 * (((bx - ax) * (bx - ax)) + ((by_ - ay) * (by_ - ay)))) (1000 - r) r = r := (by (cases hq : 1000 - r with | zero => rfl | succ m => rw [rtf, decide_eq_false h1, if_neg (by decide)])); rw [legF, hsh, if_neg (by decide), sqF, hrt, e, alF]; simp only [h2, if_true, if_false]))
      · replace h1 := q_m32.mp h1
        refine i_iinc (v := (nI (r + 1))) B 0 [(8, .int (nI (r + 1))), (7, .int (100 * (((bx - ax) * (bx - ax)) + ((by_ - ay) * (by_ - ay))))), (6, .int (by_ - ay)), (5, .int (bx - ax)), (0, .ref h)] dX9_legOf_75 rfl ((nI_1 _)) (by decide) rfl ?_
        refine i_goto B 65 dX9_legOf_78 (by decide) ?_
        exact ih_lr (r + 1) (by (have e := h1; rw [hse] at e; have := rt_top hse1 hr e; omega)) (by (rw [hse] at h1; have := rt_top hse1 hr h1; omega)) (hrt.trans (by (have e := h1; rw [hse] at e; have := rt_top hse1 hr e; rw [show 1000 - r = (1000 - (r + 1)) + 1 by omega, rtf, decide_eq_true h1, if_pos rfl]))) hsh
  have lp : ∀ (n_lp : Nat) (i : Nat), (nc - i < n_lp) → (i ≤ nc) → (shF a ax ay bx by_ i = false) → J Z 0 0 (mW E h q g a) 3 [(5, .int (nI i)), (0, .ref h), (1, .int ax), (2, .int ay), (3, .int bx), (4, .int by_)] [] := by
    intro n_lp
    induction n_lp with
    | zero => intro i hf_lp hi hs; omega
    | succ n_lp ih_lp =>
      intro i hf_lp hi hs
      refine i_iload B 0 dX9_legOf_3 rfl ?_
      refine i_aload_n B 1 dX9_legOf_5 rfl ?_
      refine i_get (v := .int (g 11)) B flX9_166 0 rfl rfl dX9_legOf_6 ?_
      refine i_icmp_ge B 35 dX9_legOf_9 (by decide) (fun h3 => ?_) (fun h3 => ?_)
      · replace h3 := q_n32.mpr h3
        rw [hc, nI_ltI (by omega) (by omega)] at h3
        refine i_iload_n B 4 dX9_legOf_35 rfl ?_
        refine i_iload_n B 2 dX9_legOf_36 rfl ?_
        refine i_isub B dX9_legOf_37 ?_
        refine i_istore B [(5, .int (bx - ax)), (0, .ref h), (1, .int ax), (2, .int ay), (3, .int bx), (4, .int by_)] dX9_legOf_38 (by decide) rfl ?_
        refine i_iload B 5 dX9_legOf_40 rfl ?_
        refine i_iload_n B 3 dX9_legOf_42 rfl ?_
        refine i_isub B dX9_legOf_43 ?_
        refine i_istore B [(6, .int (by_ - ay)), (5, .int (bx - ax)), (0, .ref h), (1, .int ax), (2, .int ay), (3, .int bx), (4, .int by_)] dX9_legOf_44 (by decide) rfl ?_
        refine i_bipush (v := 100) B dX9_legOf_46 (by decide) ?_
        refine i_iload B 1 dX9_legOf_48 rfl ?_
        refine i_iload B 1 dX9_legOf_50 rfl ?_
        refine i_imul B dX9_legOf_52 ?_
        refine i_iload B 0 dX9_legOf_53 rfl ?_
        refine i_iload B 0 dX9_legOf_55 rfl ?_
        refine i_imul B dX9_legOf_57 ?_
        refine i_iadd B dX9_legOf_58 ?_
        refine i_imul B dX9_legOf_59 ?_
        refine i_istore B [(7, .int (100 * (((bx - ax) * (bx - ax)) + ((by_ - ay) * (by_ - ay))))), (6, .int (by_ - ay)), (5, .int (bx - ax)), (0, .ref h), (1, .int ax), (2, .int ay), (3, .int bx), (4, .int by_)] dX9_legOf_60 (by decide) rfl ?_
        refine i_iconst (v := 0) B dX9_legOf_62 (by decide) ?_
        refine i_istore B [(8, .int 0), (7, .int (100 * (((bx - ax) * (bx - ax)) + ((by_ - ay) * (by_ - ay))))), (6, .int (by_ - ay)), (5, .int (bx - ax)), (0, .ref h), (1, .int ax), (2, .int ay), (3, .int bx), (4, .int by_)] dX9_legOf_63 (by decide) rfl ?_
        refine i_locals [0, 1, 2, 3, 4] (L' := [(8, .int 0), (7, .int (100 * (((bx - ax) * (bx - ax)) + ((by_ - ay) * (by_ - ay))))), (6, .int (by_ - ay)), (5, .int (bx - ax)), (0, .ref h)]) rfl ?_
        refine i_Leq (congrArg (fun z_9 => ([(8, .int z_9), (7, .int (100 * (((bx - ax) * (bx - ax)) + ((by_ - ay) * (by_ - ay))))), (6, .int (by_ - ay)), (5, .int (bx - ax)), (0, .ref h)] : List (Nat × Value))) (show (0 : Int32) = (nI 0) from rfl)) ?_
        exact lr (1001) 0 (by omega) (Nat.zero_le _) rfl (by rw [show nc = i by omega]; exact hs)
      · replace h3 := q_m32.mp h3
        rw [hc, nI_ltI (by omega) (by omega)] at h3
        refine i_aload_n B 1 dX9_legOf_12 rfl ?_
        refine i_iload B 0 dX9_legOf_13 rfl ?_
        refine i_iload_n B 2 dX9_legOf_15 rfl ?_
        refine i_iload_n B 3 dX9_legOf_16 rfl ?_
        refine i_iload_n B 4 dX9_legOf_17 rfl ?_
        refine i_iload B 5 dX9_legOf_18 rfl ?_
        refine c_roV (rest := []) (As := [.int (nI i), .int ax, .int ay, .int bx, .int by_]) B (k_X9_isInside l E h q g a i (by omega) ax ay bx by_) cal_yX9_isInside iv_yX9_isInside mlX9_169 rfl 0 rfl (by decide) (by decide) rfl (Nat.le_of_ble_eq_true rfl) Has.rf _ rfl dX9_legOf_20 (fun r hr => ?_)
        subst hr
        refine i_val (v' := .int (bI (insF a i ax ay bx by_))) rfl ?_
        refine i_if_eq B 29 dX9_legOf_23 (by decide) (fun h4 => ?_) (fun h4 => ?_)
        · replace h4 := bI_0.mp h4
          refine i_iinc (v := (nI (i + 1))) B 0 [(5, .int (nI (i + 1))), (0, .ref h), (1, .int ax), (2, .int ay), (3, .int bx), (4, .int by_)] dX9_legOf_29 rfl ((nI_1 _)) (by decide) rfl ?_
          refine i_goto B 3 dX9_legOf_32 (by decide) ?_
          exact ih_lp (i + 1) (by omega) (by omega) (by rw [shF, hs, h4]; rfl)
        · replace h4 := bI_n.mp h4
          refine i_ldc B ckX9_151 dX9_legOf_26 ?_
          exact ret _ _ _ rfl dX9_legOf_28 (by rw [legF, shF_le (i := i + 1) (by rw [shF, h4, Bool.or_true]) (by omega), if_pos rfl])
  refine i_iconst (v := 0) B dX9_legOf_0 (by decide) ?_
  refine i_istore B [(5, .int 0), (0, .ref h), (1, .int ax), (2, .int ay), (3, .int bx), (4, .int by_)] dX9_legOf_1 (by decide) rfl ?_
  refine i_Leq (congrArg (fun z_9 => ([(5, .int z_9), (0, .ref h), (1, .int ax), (2, .int ay), (3, .int bx), (4, .int by_)] : List (Nat × Value))) (show (0 : Int32) = (nI 0) from rfl)) ?_
  exact lp (nc + 1) 0 (by omega) (Nat.zero_le _) rfl

set_option maxHeartbeats 4000000 in
set_option maxRecDepth 100000 in
theorem k_X9_leg (l : Launch) (E : ED) (h : Nat) (q : Nat → Nat) (g : Nat → Int32) (a : Nat → Nat → Int32) (nc : Nat) (hc : g 11 = nI nc) (hnc : nc ≤ 4) (ax ay bx by_ : Int32) : WR l E yX9_leg cX9_leg 6 .int 3 98 0 0 [.ref h, .int ax, .int ay, .int bx, .int by_] (mW E h q g a) (fun r (_ : Unit) => r = legA g a nc ax ay bx by_) (fun _ : Unit => mW E h q g a) := by
  refine WR.mk (by decide) (Nat.le_of_ble_eq_true rfl) [(0, .ref h), (1, .int ax), (2, .int ay), (3, .int bx), (4, .int by_)] rfl (fun Z B ret => ?_)
  refine i_aload_n B 0 dX9_leg_0 rfl ?_
  refine i_iconst (v := 0) B dX9_leg_1 (by decide) ?_
  refine i_put B flX9_99 0 (mW E h q g a) rfl rfl rfl rfl (Nat.le_of_ble_eq_true rfl) rfl dX9_leg_2 ?_
  refine i_iload_n B 1 dX9_leg_5 rfl ?_
  refine i_iload_n B 2 dX9_leg_6 rfl ?_
  refine c_roS (rest := []) (As := [.int ax, .int ay]) B (k_X9_noPoint l E ax ay) cal_yX9_noPoint is_yX9_noPoint mlX9_134 (by decide) (by decide) rfl (Nat.le_of_ble_eq_true rfl) Has.nil _ rfl dX9_leg_7 (fun r hr => ?_)
  subst hr
  refine i_val (v' := .int (bI (!pt ax ay))) rfl ?_
  refine i_if_ne B 22 dX9_leg_10 (by decide) (fun h1 => ?_) (fun h1 => ?_)
  · replace h1 := bI_n.mp h1
    replace h1 : pt ax ay = false := by simpa using h1
    refine i_bipush (v := (-2)) B dX9_leg_22 (by decide) ?_
    exact ret _ _ _ () rfl dX9_leg_24 (by simp only [legA, h1, decide_true, decide_false, Bool.not_true, Bool.not_false, Bool.true_and, Bool.false_and, Bool.and_true, Bool.and_false, Bool.true_or, Bool.or_true, Bool.false_or, Bool.or_false, Bool.and_self, Bool.or_self, bI_t, bI_f, if_true, if_false, ite_true, ite_false, Bool.false_eq_true, Bool.true_eq_false, eq_self, reduceIte, true_or, or_true, false_or, or_false, and_true, true_and, and_false, false_and, not_true_eq_false, not_false_eq_true, decide_eq_true_eq, decide_eq_false_iff_not])
  · replace h1 := bI_0.mp h1
    replace h1 : pt ax ay = true := by simpa using h1
    refine i_iload_n B 3 dX9_leg_13 rfl ?_
    refine i_iload B 4 dX9_leg_14 rfl ?_
    refine c_roS (rest := []) (As := [.int bx, .int by_]) B (k_X9_noPoint l E bx by_) cal_yX9_noPoint is_yX9_noPoint mlX9_134 (by decide) (by decide) rfl (Nat.le_of_ble_eq_true rfl) Has.nil _ rfl dX9_leg_16 (fun r hr => ?_)
    subst hr
    refine i_val (v' := .int (bI (!pt bx by_))) rfl ?_
    refine i_if_eq B 25 dX9_leg_19 (by decide) (fun h2 => ?_) (fun h2 => ?_)
    · replace h2 := bI_0.mp h2
      replace h2 : pt bx by_ = true := by simpa using h2
      refine i_aload_n B 0 dX9_leg_25 rfl ?_
      refine i_iload_n B 1 dX9_leg_26 rfl ?_
      refine i_iload_n B 2 dX9_leg_27 rfl ?_
      refine i_iload_n B 3 dX9_leg_28 rfl ?_
      refine i_iload B 4 dX9_leg_29 rfl ?_
      refine c_roV (rest := []) (As := [.int ax, .int ay, .int bx, .int by_]) B (k_X9_legOf l E h q g a nc hc hnc ax ay bx by_ h1 h2) cal_yX9_legOf iv_yX9_legOf mlX9_190 rfl 0 rfl (by decide) (by decide) rfl (Nat.le_of_ble_eq_true rfl) Has.rf _ rfl dX9_leg_31 (fun r hr => ?_)
      subst hr
      refine i_val (v' := .int (legF g a nc ax ay bx by_)) rfl ?_
      refine i_istore B [(5, .int (legF g a nc ax ay bx by_)), (0, .ref h), (1, .int ax), (2, .int ay), (3, .int bx), (4, .int by_)] dX9_leg_34 (by decide) rfl ?_
      refine i_iload B 0 dX9_leg_36 rfl ?_
      refine i_ldc B ckX9_151 dX9_leg_38 ?_
      refine i_icmp_ne B 48 dX9_leg_40 (by decide) (fun h3 => ?_) (fun h3 => ?_)
      · have h3d := decide_eq_false h3
        refine i_iload B 0 dX9_leg_48 rfl ?_
        exact ret _ _ _ () rfl dX9_leg_50 (by simp only [legA, h1, h2, h3d, decide_true, decide_false, Bool.not_true, Bool.not_false, Bool.true_and, Bool.false_and, Bool.and_true, Bool.and_false, Bool.true_or, Bool.or_true, Bool.false_or, Bool.or_false, Bool.and_self, Bool.or_self, bI_t, bI_f, if_true, if_false, ite_true, ite_false, Bool.false_eq_true, Bool.true_eq_false, eq_self, reduceIte, true_or, or_true, false_or, or_false, and_true, true_and, and_false, false_and, not_true_eq_false, not_false_eq_true, decide_eq_true_eq, decide_eq_false_iff_not])
      · have h3d := decide_eq_true h3
        refine i_bipush (v := (-9)) B dX9_leg_43 (by decide) ?_
        refine i_goto B 50 dX9_leg_45 (by decide) ?_
        exact ret _ _ _ () rfl dX9_leg_50 (by simp only [legA, h1, h2, h3d, decide_true, decide_false, Bool.not_true, Bool.not_false, Bool.true_and, Bool.false_and, Bool.and_true, Bool.and_false, Bool.true_or, Bool.or_true, Bool.false_or, Bool.or_false, Bool.and_self, Bool.or_self, bI_t, bI_f, if_true, if_false, ite_true, ite_false, Bool.false_eq_true, Bool.true_eq_false, eq_self, reduceIte, true_or, or_true, false_or, or_false, and_true, true_and, and_false, false_and, not_true_eq_false, not_false_eq_true, decide_eq_true_eq, decide_eq_false_iff_not])
    · replace h2 := bI_n.mp h2
      replace h2 : pt bx by_ = false := by simpa using h2
      refine i_bipush (v := (-2)) B dX9_leg_22 (by decide) ?_
      exact ret _ _ _ () rfl dX9_leg_24 (by simp only [legA, h1, h2, decide_true, decide_false, Bool.not_true, Bool.not_false, Bool.true_and, Bool.false_and, Bool.and_true, Bool.and_false, Bool.true_or, Bool.or_true, Bool.false_or, Bool.or_false, Bool.and_self, Bool.or_self, bI_t, bI_f, if_true, if_false, ite_true, ite_false, Bool.false_eq_true, Bool.true_eq_false, eq_self, reduceIte, true_or, or_true, false_or, or_false, and_true, true_and, and_false, false_and, not_true_eq_false, not_false_eq_true, decide_eq_true_eq, decide_eq_false_iff_not])
