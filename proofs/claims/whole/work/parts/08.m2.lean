/-- the reference: its object at h, its arrays at q -/
def mW (E : ED) (h : Nat) (q : Nat → Nat) (g : Nat → Int32) (a : Nat → Nat → Int32) : va_W := [(h, .inr (9, [.int 0, .int (g 1), .ref (q 2), .ref (q 3), .ref (q 4), .ref (q 5), .int (g 6), .int (g 7), .int (g 8), .ref (q 9), .ref (q 10), .int (g 11), .ref (q 12), .ref (q 13), .ref (q 14), .ref (q 15), .int (g 16), .int (g 17), .int (g 18), .int (g 19), .int (g 20), .ref (q 21), .ref (q 22), .ref (q 23), .int (g 24), .ref (q 25), .ref (q 26), .ref (q 27), .ref (q 28), .ref (q 29), .ref (q 30), .ref (q 31), .ref (q 32), .ref (q 33), .ref (q 34), .ref (q 35), .ref (q 36), .ref (q 37)])), (q 2, .inl (E.2.1, 12, .inl (a 2))), (q 3, .inl (E.2.1, 12, .inl (a 3))), (q 4, .inl (E.2.1, 12, .inl (a 4))), (q 5, .inl (E.2.1, 12, .inl (a 5))), (q 9, .inl (E.2.1, 11, .inl (a 9))), (q 10, .inl (E.2.1, 11, .inl (a 10))), (q 12, .inl (E.2.1, 4, .inl (a 12))), (q 13, .inl (E.2.1, 4, .inl (a 13))), (q 14, .inl (E.2.1, 4, .inl (a 14))), (q 15, .inl (E.2.1, 4, .inl (a 15))), (q 21, .inl (E.2.1, 20, .inl (a 21))), (q 22, .inl (E.2.1, 20, .inl (a 22))), (q 23, .inl (E.2.1, 20, .inl (a 23))), (q 25, .inl (E.2.1, 40, .inl (a 25))), (q 26, .inl (E.2.1, 40, .inl (a 26))), (q 27, .inl (E.2.1, 40, .inl (a 27))), (q 28, .inl (E.2.1, 40, .inl (a 28))), (q 29, .inl (E.2.2, 40, .inl (a 29))), (q 30, .inl (E.2.1, 121, .inl (a 30))), (q 31, .inl (E.2.1, 11264, .inl (a 31))), (q 32, .inl (E.2.1, 1024, .inl (a 32))), (q 33, .inl (E.2.1, 1024, .inl (a 33))), (q 34, .inl (E.2.1, 40, .inl (a 34))), (q 35, .inl (E.2.1, 40, .inl (a 35))), (q 36, .inl (E.2.1, 1681, .inl (a 36))), (q 37, .inl (E.2.1, 1681, .inl (a 37)))]

def sdx (a : Nat → Nat → Int32) (p : Nat) : Int32 := a 4 p - a 2 p
def sdy (a : Nat → Nat → Int32) (p : Nat) : Int32 := a 5 p - a 3 p
def smx (a : Nat → Nat → Int32) (p : Nat) : Int32 := a 2 p + a 4 p
def smy (a : Nat → Nat → Int32) (p : Nat) : Int32 := a 3 p + a 5 p
def swx (a : Nat → Nat → Int32) (x : Int32) (p : Nat) : Int32 := smx a p - 2 * x
def swy (a : Nat → Nat → Int32) (y : Int32) (p : Nat) : Int32 := smy a p - 2 * y
def sway (a : Nat → Nat → Int32) (x y : Int32) (p : Nat) : Int64 := (swx a x p).toInt64 * (swx a x p).toInt64 + (swy a y p).toInt64 * (swy a y p).toInt64
def slong (a : Nat → Nat → Int32) (p : Nat) : Int64 := (sdx a p).toInt64 * (sdx a p).toInt64 + (sdy a p).toInt64 * (sdy a p).toInt64
def sacr (a : Nat → Nat → Int32) (x y : Int32) (p : Nat) : Int64 := (crs (sdx a p) (sdy a p) (swx a x p) (swy a y p)).toInt64
def sn1 (g : Nat → Int32) (a : Nat → Nat → Int32) (x y : Int32) (p : Nat) : Bool := decide (0 < crs (sdx a p) (sdy a p) (x - a 2 p) (y - a 3 p)) && (!decide (4 * (g 6).toInt64 * (g 6).toInt64 < sway a x y p) && !decide (100 * sacr a x y p * sacr a x y p < (g 7).toInt64 * slong a p * sway a x y p))
def sno (a : Nat → Nat → Int32) (x y : Int32) (p o : Nat) : Bool := mt (2 * x) (2 * y) (smx a p) (smy a p) (2 * a 2 o) (2 * a 3 o) (2 * a 4 o) (2 * a 5 o)
def clr (a : Nat → Nat → Int32) (x y : Int32) (p : Nat) : Nat → Bool
  | 0 => true
  | k + 1 => clr a x y p k && (decide (k = p) || !sno a x y p k)
/-- the reference's SEEN -/
def sn (g : Nat → Int32) (a : Nat → Nat → Int32) (np : Nat) (x y : Int32) (p : Nat) : Bool := sn1 g a x y p && clr a x y p np

set_option maxHeartbeats 4000000 in
set_option maxRecDepth 100000 in
theorem k_X9_isSeen (l : Launch) (E : ED) (h : Nat) (q : Nat → Nat) (g : Nat → Int32) (a : Nat → Nat → Int32) (np p : Nat) (hn : g 1 = nI np) (hnp : np ≤ 12) (hp : p < 12) (x y : Int32) : RO l E yX9_isSeen cX9_isSeen 18 .boolean 3 83 [.ref h, .int x, .int y, .int (nI p)] (mW E h q g a) (fun r => r = bI (sn g a np x y p)) := by
  refine RO.mk (by decide) (Nat.le_of_ble_eq_true rfl) [(0, .ref h), (1, .int x), (2, .int y), (3, .int (nI p))] rfl (fun Z B ret => ?_)
  have lp : ∀ (n_lp : Nat) (i : Nat), (np - i < n_lp) → (i ≤ np) → (sn1 g a x y p = true) → J Z 0 0 (mW E h q g a) 205 [(16, .int (bI (clr a x y p i))), (17, .int (nI i)), (0, .ref h), (1, .int x), (2, .int y), (3, .int (nI p)), (6, .int (((a 2) p) + ((a 4) p))), (7, .int (((a 3) p) + ((a 5) p)))] [] := by
    intro n_lp
    induction n_lp with
    | zero => intro i hf_lp hi hs; omega
    | succ n_lp ih_lp =>
      intro i hf_lp hi hs
      refine i_iload B 1 dX9_isSeen_205 rfl ?_
      refine i_aload_n B 2 dX9_isSeen_207 rfl ?_
      refine i_get (v := .int (g 1)) B flX9_108 0 rfl rfl dX9_isSeen_208 ?_
      refine i_icmp_ge B 290 dX9_isSeen_211 (by decide) (fun h1 => ?_) (fun h1 => ?_)
      · replace h1 := q_n32.mpr h1
        rw [hn, nI_ltI (by omega) (by omega)] at h1
        refine i_iload B 0 dX9_isSeen_290 rfl ?_
        exact ret _ _ _ (bI_z _) dX9_isSeen_292 (by rw [sn, hs, show np = i by omega, Bool.true_and])
      · replace h1 := q_m32.mp h1
        rw [hn, nI_ltI (by omega) (by omega)] at h1
        refine i_iload B 0 dX9_isSeen_214 rfl ?_
        refine i_if_eq B 281 dX9_isSeen_216 (by decide) (fun h2 => ?_) (fun h2 => ?_)
        · replace h2 := bI_0.mp h2
          refine i_iconst (v := 0) B dX9_isSeen_281 (by decide) ?_
          refine i_istore B [(16, .int 0), (17, .int (nI i)), (0, .ref h), (1, .int x), (2, .int y), (3, .int (nI p)), (6, .int (((a 2) p) + ((a 4) p))), (7, .int (((a 3) p) + ((a 5) p)))] dX9_isSeen_282 (by decide) rfl ?_
          refine i_iinc (v := (nI (i + 1))) B 1 [(17, .int (nI (i + 1))), (16, .int 0), (0, .ref h), (1, .int x), (2, .int y), (3, .int (nI p)), (6, .int (((a 2) p) + ((a 4) p))), (7, .int (((a 3) p) + ((a 5) p)))] dX9_isSeen_284 rfl ((nI_1 _)) (by decide) rfl ?_
          refine i_goto B 205 dX9_isSeen_287 (by decide) ?_
          refine i_locals [1, 0, 2, 3, 4, 5, 6, 7] (L' := [(16, .int 0), (17, .int (nI (i + 1))), (0, .ref h), (1, .int x), (2, .int y), (3, .int (nI p)), (6, .int (((a 2) p) + ((a 4) p))), (7, .int (((a 3) p) + ((a 5) p)))]) rfl ?_
          refine i_Leq (congrArg (fun z_9 => ([(16, .int z_9), (17, .int (nI (i + 1))), (0, .ref h), (1, .int x), (2, .int y), (3, .int (nI p)), (6, .int (((a 2) p) + ((a 4) p))), (7, .int (((a 3) p) + ((a 5) p)))] : List (Nat × Value))) (show (0 : Int32) = (bI (clr a x y p (i + 1))) from by rw [clr, h2]; simp only [sno, smx, smy, decide_true, decide_true, decide_false, Bool.not_true, Bool.not_false, Bool.true_and, Bool.false_and, Bool.and_true, Bool.and_false, Bool.true_or, Bool.or_true, Bool.false_or, Bool.or_false, bI_t, bI_f, decide_eq_true_eq])) ?_
          exact ih_lp (i + 1) (by omega) (by omega) hs
        · replace h2 := bI_n.mp h2
          refine i_iload B 1 dX9_isSeen_219 rfl ?_
          refine i_iload_n B 5 dX9_isSeen_221 rfl ?_
          refine i_icmp_eq B 277 dX9_isSeen_222 (by decide) (fun h3 => ?_) (fun h3 => ?_)
          · rw [nI_eq (by omega) (by omega)] at h3
            have h3d := decide_eq_true h3
            refine i_iconst (v := 1) B dX9_isSeen_277 (by decide) ?_
            refine i_goto B 282 dX9_isSeen_278 (by decide) ?_
            refine i_istore B [(16, .int 1), (17, .int (nI i)), (0, .ref h), (1, .int x), (2, .int y), (3, .int (nI p)), (6, .int (((a 2) p) + ((a 4) p))), (7, .int (((a 3) p) + ((a 5) p)))] dX9_isSeen_282 (by decide) rfl ?_
            refine i_iinc (v := (nI (i + 1))) B 1 [(17, .int (nI (i + 1))), (16, .int 1), (0, .ref h), (1, .int x), (2, .int y), (3, .int (nI p)), (6, .int (((a 2) p) + ((a 4) p))), (7, .int (((a 3) p) + ((a 5) p)))] dX9_isSeen_284 rfl ((nI_1 _)) (by decide) rfl ?_
            refine i_goto B 205 dX9_isSeen_287 (by decide) ?_
            refine i_locals [1, 0, 2, 3, 4, 5, 6, 7] (L' := [(16, .int 1), (17, .int (nI (i + 1))), (0, .ref h), (1, .int x), (2, .int y), (3, .int (nI p)), (6, .int (((a 2) p) + ((a 4) p))), (7, .int (((a 3) p) + ((a 5) p)))]) rfl ?_
            refine i_Leq (congrArg (fun z_9 => ([(16, .int z_9), (17, .int (nI (i + 1))), (0, .ref h), (1, .int x), (2, .int y), (3, .int (nI p)), (6, .int (((a 2) p) + ((a 4) p))), (7, .int (((a 3) p) + ((a 5) p)))] : List (Nat × Value))) (show (1 : Int32) = (bI (clr a x y p (i + 1))) from by rw [clr, h2]; simp only [sno, smx, smy, h3d, decide_true, decide_false, Bool.not_true, Bool.not_false, Bool.true_and, Bool.false_and, Bool.and_true, Bool.and_false, Bool.true_or, Bool.or_true, Bool.false_or, Bool.or_false, bI_t, bI_f, decide_eq_true_eq])) ?_
            exact ih_lp (i + 1) (by omega) (by omega) hs
          · rw [nI_eq (by omega) (by omega)] at h3
            have h3d := decide_eq_false h3
            refine i_iconst (v := 2) B dX9_isSeen_225 (by decide) ?_
            refine i_iload_n B 3 dX9_isSeen_226 rfl ?_
            refine i_imul B dX9_isSeen_227 ?_
            refine i_iconst (v := 2) B dX9_isSeen_228 (by decide) ?_
            refine i_iload_n B 4 dX9_isSeen_229 rfl ?_
            refine i_imul B dX9_isSeen_230 ?_
            refine i_iload B 6 dX9_isSeen_231 rfl ?_
            refine i_iload B 7 dX9_isSeen_233 rfl ?_
            refine i_iconst (v := 2) B dX9_isSeen_235 (by decide) ?_
            refine i_aload_n B 2 dX9_isSeen_236 rfl ?_
            refine i_get (v := .ref (q 2)) B flX9_7 0 rfl rfl dX9_isSeen_237 ?_
            refine i_iload B 1 dX9_isSeen_240 rfl ?_
            refine i_ialdN B 1 i rfl rfl (by omega) (by decide) dX9_isSeen_242 ?_
            refine i_imul B dX9_isSeen_243 ?_
            refine i_iconst (v := 2) B dX9_isSeen_244 (by decide) ?_
            refine i_aload_n B 2 dX9_isSeen_245 rfl ?_
            refine i_get (v := .ref (q 3)) B flX9_13 0 rfl rfl dX9_isSeen_246 ?_
            refine i_iload B 1 dX9_isSeen_249 rfl ?_
            refine i_ialdN B 2 i rfl rfl (by omega) (by decide) dX9_isSeen_251 ?_
            refine i_imul B dX9_isSeen_252 ?_
            refine i_iconst (v := 2) B dX9_isSeen_253 (by decide) ?_
            refine i_aload_n B 2 dX9_isSeen_254 rfl ?_
            refine i_get (v := .ref (q 4)) B flX9_16 0 rfl rfl dX9_isSeen_255 ?_
            refine i_iload B 1 dX9_isSeen_258 rfl ?_
            refine i_ialdN B 3 i rfl rfl (by omega) (by decide) dX9_isSeen_260 ?_
            refine i_imul B dX9_isSeen_261 ?_
            refine i_iconst (v := 2) B dX9_isSeen_262 (by decide) ?_
            refine i_aload_n B 2 dX9_isSeen_263 rfl ?_
            refine i_get (v := .ref (q 5)) B flX9_19 0 rfl rfl dX9_isSeen_264 ?_
            refine i_iload B 1 dX9_isSeen_267 rfl ?_
            refine i_ialdN B 4 i rfl rfl (by omega) (by decide) dX9_isSeen_269 ?_
            refine i_imul B dX9_isSeen_270 ?_
            refine c_roS (rest := []) (As := [.int (2 * x), .int (2 * y), .int (((a 2) p) + ((a 4) p)), .int (((a 3) p) + ((a 5) p)), .int (2 * ((a 2) i)), .int (2 * ((a 3) i)), .int (2 * ((a 4) i)), .int (2 * ((a 5) i))]) B (k_X9_meet l E (2 * x) (2 * y) (((a 2) p) + ((a 4) p)) (((a 3) p) + ((a 5) p)) (2 * ((a 2) i)) (2 * ((a 3) i)) (2 * ((a 4) i)) (2 * ((a 5) i))) cal_yX9_meet is_yX9_meet mlX9_130 (by decide) (by decide) rfl (Nat.le_of_ble_eq_true rfl) Has.nil _ rfl dX9_isSeen_271 (fun r hr => ?_)
            subst hr
            refine i_val (v' := .int (bI (mt (2 * x) (2 * y) (((a 2) p) + ((a 4) p)) (((a 3) p) + ((a 5) p)) (2 * ((a 2) i)) (2 * ((a 3) i)) (2 * ((a 4) i)) (2 * ((a 5) i))))) rfl ?_
            refine i_if_ne B 281 dX9_isSeen_274 (by decide) (fun h4 => ?_) (fun h4 => ?_)
            · replace h4 := bI_n.mp h4
              refine i_iconst (v := 0) B dX9_isSeen_281 (by decide) ?_
              refine i_istore B [(16, .int 0), (17, .int (nI i)), (0, .ref h), (1, .int x), (2, .int y), (3, .int (nI p)), (6, .int (((a 2) p) + ((a 4) p))), (7, .int (((a 3) p) + ((a 5) p)))] dX9_isSeen_282 (by decide) rfl ?_
              refine i_iinc (v := (nI (i + 1))) B 1 [(17, .int (nI (i + 1))), (16, .int 0), (0, .ref h), (1, .int x), (2, .int y), (3, .int (nI p)), (6, .int (((a 2) p) + ((a 4) p))), (7, .int (((a 3) p) + ((a 5) p)))] dX9_isSeen_284 rfl ((nI_1 _)) (by decide) rfl ?_
              refine i_goto B 205 dX9_isSeen_287 (by decide) ?_
              refine i_locals [1, 0, 2, 3, 4, 5, 6, 7] (L' := [(16, .int 0), (17, .int (nI (i + 1))), (0, .ref h), (1, .int x), (2, .int y), (3, .int (nI p)), (6, .int (((a 2) p) + ((a 4) p))), (7, .int (((a 3) p) + ((a 5) p)))]) rfl ?_
              refine i_Leq (congrArg (fun z_9 => ([(16, .int z_9), (17, .int (nI (i + 1))), (0, .ref h), (1, .int x), (2, .int y), (3, .int (nI p)), (6, .int (((a 2) p) + ((a 4) p))), (7, .int (((a 3) p) + ((a 5) p)))] : List (Nat × Value))) (show (0 : Int32) = (bI (clr a x y p (i + 1))) from by rw [clr, h2]; simp only [sno, smx, smy, h3d, h4, decide_true, decide_false, Bool.not_true, Bool.not_false, Bool.true_and, Bool.false_and, Bool.and_true, Bool.and_false, Bool.true_or, Bool.or_true, Bool.false_or, Bool.or_false, bI_t, bI_f, decide_eq_true_eq])) ?_
              exact ih_lp (i + 1) (by omega) (by omega) hs
            · replace h4 := bI_0.mp h4
              refine i_iconst (v := 1) B dX9_isSeen_277 (by decide) ?_
              refine i_goto B 282 dX9_isSeen_278 (by decide) ?_
              refine i_istore B [(16, .int 1), (17, .int (nI i)), (0, .ref h), (1, .int x), (2, .int y), (3, .int (nI p)), (6, .int (((a 2) p) + ((a 4) p))), (7, .int (((a 3) p) + ((a 5) p)))] dX9_isSeen_282 (by decide) rfl ?_
              refine i_iinc (v := (nI (i + 1))) B 1 [(17, .int (nI (i + 1))), (16, .int 1), (0, .ref h), (1, .int x), (2, .int y), (3, .int (nI p)), (6, .int (((a 2) p) + ((a 4) p))), (7, .int (((a 3) p) + ((a 5) p)))] dX9_isSeen_284 rfl ((nI_1 _)) (by decide) rfl ?_
              refine i_goto B 205 dX9_isSeen_287 (by decide) ?_
              refine i_locals [1, 0, 2, 3, 4, 5, 6, 7] (L' := [(16, .int 1), (17, .int (nI (i + 1))), (0, .ref h), (1, .int x), (2, .int y), (3, .int (nI p)), (6, .int (((a 2) p) + ((a 4) p))), (7, .int (((a 3) p) + ((a 5) p)))]) rfl ?_
              refine i_Leq (congrArg (fun z_9 => ([(16, .int z_9), (17, .int (nI (i + 1))), (0, .ref h), (1, .int x), (2, .int y), (3, .int (nI p)), (6, .int (((a 2) p) + ((a 4) p))), (7, .int (((a 3) p) + ((a 5) p)))] : List (Nat × Value))) (show (1 : Int32) = (bI (clr a x y p (i + 1))) from by rw [clr, h2]; simp only [sno, smx, smy, h3d, h4, decide_true, decide_false, Bool.not_true, Bool.not_false, Bool.true_and, Bool.false_and, Bool.and_true, Bool.and_false, Bool.true_or, Bool.or_true, Bool.false_or, Bool.or_false, bI_t, bI_f, decide_eq_true_eq])) ?_
              exact ih_lp (i + 1) (by omega) (by omega) hs
  refine i_aload_n B 0 dX9_isSeen_0 rfl ?_
  refine i_get (v := .ref (q 4)) B flX9_16 0 rfl rfl dX9_isSeen_1 ?_
  refine i_iload_n B 3 dX9_isSeen_4 rfl ?_
  refine i_ialdN B 3 p rfl rfl (by omega) (by decide) dX9_isSeen_5 ?_
  refine i_aload_n B 0 dX9_isSeen_6 rfl ?_
  refine i_get (v := .ref (q 2)) B flX9_7 0 rfl rfl dX9_isSeen_7 ?_
  refine i_iload_n B 3 dX9_isSeen_10 rfl ?_
  refine i_ialdN B 1 p rfl rfl (by omega) (by decide) dX9_isSeen_11 ?_
  refine i_isub B dX9_isSeen_12 ?_
  refine i_istore B [(4, .int (((a 4) p) - ((a 2) p))), (0, .ref h), (1, .int x), (2, .int y), (3, .int (nI p))] dX9_isSeen_13 (by decide) rfl ?_
  refine i_aload_n B 1 dX9_isSeen_15 rfl ?_
  refine i_get (v := .ref (q 5)) B flX9_19 0 rfl rfl dX9_isSeen_16 ?_
  refine i_iload_n B 4 dX9_isSeen_19 rfl ?_
  refine i_ialdN B 4 p rfl rfl (by omega) (by decide) dX9_isSeen_20 ?_
  refine i_aload_n B 1 dX9_isSeen_21 rfl ?_
  refine i_get (v := .ref (q 3)) B flX9_13 0 rfl rfl dX9_isSeen_22 ?_
  refine i_iload_n B 4 dX9_isSeen_25 rfl ?_
  refine i_ialdN B 2 p rfl rfl (by omega) (by decide) dX9_isSeen_26 ?_
  refine i_isub B dX9_isSeen_27 ?_
  refine i_istore B [(5, .int (((a 5) p) - ((a 3) p))), (4, .int (((a 4) p) - ((a 2) p))), (0, .ref h), (1, .int x), (2, .int y), (3, .int (nI p))] dX9_isSeen_28 (by decide) rfl ?_
  refine i_iload B 1 dX9_isSeen_30 rfl ?_
  refine i_iload B 0 dX9_isSeen_32 rfl ?_
  refine i_iload_n B 3 dX9_isSeen_34 rfl ?_
  refine i_aload_n B 2 dX9_isSeen_35 rfl ?_
  refine i_get (v := .ref (q 2)) B flX9_7 0 rfl rfl dX9_isSeen_36 ?_
  refine i_iload_n B 5 dX9_isSeen_39 rfl ?_
  refine i_ialdN B 1 p rfl rfl (by omega) (by decide) dX9_isSeen_40 ?_
  refine i_isub B dX9_isSeen_41 ?_
  refine i_iload_n B 4 dX9_isSeen_42 rfl ?_
  refine i_aload_n B 2 dX9_isSeen_43 rfl ?_
  refine i_get (v := .ref (q 3)) B flX9_13 0 rfl rfl dX9_isSeen_44 ?_
  refine i_iload_n B 5 dX9_isSeen_47 rfl ?_
  refine i_ialdN B 2 p rfl rfl (by omega) (by decide) dX9_isSeen_48 ?_
  refine i_isub B dX9_isSeen_49 ?_
  refine c_roS (rest := []) (As := [.int (((a 4) p) - ((a 2) p)), .int (((a 5) p) - ((a 3) p)), .int (x - ((a 2) p)), .int (y - ((a 3) p))]) B (k_X9_cross l E (((a 4) p) - ((a 2) p)) (((a 5) p) - ((a 3) p)) (x - ((a 2) p)) (y - ((a 3) p))) cal_yX9_cross is_yX9_cross mlX9_114 (by decide) (by decide) rfl (Nat.le_of_ble_eq_true rfl) Has.nil _ rfl dX9_isSeen_50 (fun r hr => ?_)
  subst hr
  refine i_val (v' := .int (crs (((a 4) p) - ((a 2) p)) (((a 5) p) - ((a 3) p)) (x - ((a 2) p)) (y - ((a 3) p)))) rfl ?_
  refine i_if_gt B 58 dX9_isSeen_53 (by decide) (fun h5 => ?_) (fun h5 => ?_)
  · refine i_aload_n B 2 dX9_isSeen_58 rfl ?_
    refine i_get (v := .ref (q 2)) B flX9_7 0 rfl rfl dX9_isSeen_59 ?_
    refine i_iload_n B 5 dX9_isSeen_62 rfl ?_
    refine i_ialdN B 1 p rfl rfl (by omega) (by decide) dX9_isSeen_63 ?_
    refine i_aload_n B 2 dX9_isSeen_64 rfl ?_
    refine i_get (v := .ref (q 4)) B flX9_16 0 rfl rfl dX9_isSeen_65 ?_
    refine i_iload_n B 5 dX9_isSeen_68 rfl ?_
    refine i_ialdN B 3 p rfl rfl (by omega) (by decide) dX9_isSeen_69 ?_
    refine i_iadd B dX9_isSeen_70 ?_
    refine i_istore B [(6, .int (((a 2) p) + ((a 4) p))), (5, .int (((a 5) p) - ((a 3) p))), (4, .int (((a 4) p) - ((a 2) p))), (0, .ref h), (1, .int x), (2, .int y), (3, .int (nI p))] dX9_isSeen_71 (by decide) rfl ?_
    refine i_aload_n B 3 dX9_isSeen_73 rfl ?_
    refine i_get (v := .ref (q 3)) B flX9_13 0 rfl rfl dX9_isSeen_74 ?_
    refine i_iload_n B 6 dX9_isSeen_77 rfl ?_
    refine i_ialdN B 2 p rfl rfl (by omega) (by decide) dX9_isSeen_78 ?_
    refine i_aload_n B 3 dX9_isSeen_79 rfl ?_
    refine i_get (v := .ref (q 5)) B flX9_19 0 rfl rfl dX9_isSeen_80 ?_
    refine i_iload_n B 6 dX9_isSeen_83 rfl ?_
    refine i_ialdN B 4 p rfl rfl (by omega) (by decide) dX9_isSeen_84 ?_
    refine i_iadd B dX9_isSeen_85 ?_
    refine i_istore B [(7, .int (((a 3) p) + ((a 5) p))), (6, .int (((a 2) p) + ((a 4) p))), (5, .int (((a 5) p) - ((a 3) p))), (4, .int (((a 4) p) - ((a 2) p))), (0, .ref h), (1, .int x), (2, .int y), (3, .int (nI p))] dX9_isSeen_86 (by decide) rfl ?_
    refine i_iload B 1 dX9_isSeen_88 rfl ?_
    refine i_iconst (v := 2) B dX9_isSeen_90 (by decide) ?_
    refine i_iload_n B 5 dX9_isSeen_91 rfl ?_
    refine i_imul B dX9_isSeen_92 ?_
    refine i_isub B dX9_isSeen_93 ?_
    refine i_istore B [(8, .int ((((a 2) p) + ((a 4) p)) - (2 * x))), (7, .int (((a 3) p) + ((a 5) p))), (6, .int (((a 2) p) + ((a 4) p))), (5, .int (((a 5) p) - ((a 3) p))), (4, .int (((a 4) p) - ((a 2) p))), (0, .ref h), (1, .int x), (2, .int y), (3, .int (nI p))] dX9_isSeen_94 (by decide) rfl ?_
    refine i_iload B 1 dX9_isSeen_96 rfl ?_
    refine i_iconst (v := 2) B dX9_isSeen_98 (by decide) ?_
    refine i_iload_n B 7 dX9_isSeen_99 rfl ?_
    refine i_imul B dX9_isSeen_100 ?_
    refine i_isub B dX9_isSeen_101 ?_
    refine i_istore B [(9, .int ((((a 3) p) + ((a 5) p)) - (2 * y))), (8, .int ((((a 2) p) + ((a 4) p)) - (2 * x))), (7, .int (((a 3) p) + ((a 5) p))), (6, .int (((a 2) p) + ((a 4) p))), (5, .int (((a 5) p) - ((a 3) p))), (4, .int (((a 4) p) - ((a 2) p))), (0, .ref h), (1, .int x), (2, .int y), (3, .int (nI p))] dX9_isSeen_102 (by decide) rfl ?_
    refine i_iload B 1 dX9_isSeen_104 rfl ?_
    refine i_i2l B dX9_isSeen_106 ?_
    refine i_iload B 1 dX9_isSeen_107 rfl ?_
    refine i_i2l B dX9_isSeen_109 ?_
    refine i_lmul B dX9_isSeen_110 ?_
    refine i_iload B 0 dX9_isSeen_111 rfl ?_
    refine i_i2l B dX9_isSeen_113 ?_
    refine i_iload B 0 dX9_isSeen_114 rfl ?_
    refine i_i2l B dX9_isSeen_116 ?_
    refine i_lmul B dX9_isSeen_117 ?_
    refine i_ladd B dX9_isSeen_118 ?_
    refine i_lstore B [(10, .long (((Int32.toInt64 ((((a 2) p) + ((a 4) p)) - (2 * x))) * (Int32.toInt64 ((((a 2) p) + ((a 4) p)) - (2 * x)))) + ((Int32.toInt64 ((((a 3) p) + ((a 5) p)) - (2 * y))) * (Int32.toInt64 ((((a 3) p) + ((a 5) p)) - (2 * y)))))), (9, .int ((((a 3) p) + ((a 5) p)) - (2 * y))), (8, .int ((((a 2) p) + ((a 4) p)) - (2 * x))), (7, .int (((a 3) p) + ((a 5) p))), (6, .int (((a 2) p) + ((a 4) p))), (5, .int (((a 5) p) - ((a 3) p))), (4, .int (((a 4) p) - ((a 2) p))), (0, .ref h), (1, .int x), (2, .int y), (3, .int (nI p))] dX9_isSeen_119 (by decide) rfl ?_
    refine i_iload B 6 dX9_isSeen_121 rfl ?_
    refine i_iload B 5 dX9_isSeen_123 rfl ?_
    refine i_iload B 2 dX9_isSeen_125 rfl ?_
    refine i_iload B 1 dX9_isSeen_127 rfl ?_
    refine c_roS (rest := []) (As := [.int (((a 4) p) - ((a 2) p)), .int (((a 5) p) - ((a 3) p)), .int ((((a 2) p) + ((a 4) p)) - (2 * x)), .int ((((a 3) p) + ((a 5) p)) - (2 * y))]) B (k_X9_cross l E (((a 4) p) - ((a 2) p)) (((a 5) p) - ((a 3) p)) ((((a 2) p) + ((a 4) p)) - (2 * x)) ((((a 3) p) + ((a 5) p)) - (2 * y))) cal_yX9_cross is_yX9_cross mlX9_114 (by decide) (by decide) rfl (Nat.le_of_ble_eq_true rfl) Has.nil _ rfl dX9_isSeen_129 (fun r hr => ?_)
    subst hr
    refine i_val (v' := .int (crs (((a 4) p) - ((a 2) p)) (((a 5) p) - ((a 3) p)) ((((a 2) p) + ((a 4) p)) - (2 * x)) ((((a 3) p) + ((a 5) p)) - (2 * y)))) rfl ?_
    refine i_i2l B dX9_isSeen_132 ?_
    refine i_lstore B [(12, .long (Int32.toInt64 (crs (((a 4) p) - ((a 2) p)) (((a 5) p) - ((a 3) p)) ((((a 2) p) + ((a 4) p)) - (2 * x)) ((((a 3) p) + ((a 5) p)) - (2 * y))))), (10, .long (((Int32.toInt64 ((((a 2) p) + ((a 4) p)) - (2 * x))) * (Int32.toInt64 ((((a 2) p) + ((a 4) p)) - (2 * x)))) + ((Int32.toInt64 ((((a 3) p) + ((a 5) p)) - (2 * y))) * (Int32.toInt64 ((((a 3) p) + ((a 5) p)) - (2 * y)))))), (9, .int ((((a 3) p) + ((a 5) p)) - (2 * y))), (8, .int ((((a 2) p) + ((a 4) p)) - (2 * x))), (7, .int (((a 3) p) + ((a 5) p))), (6, .int (((a 2) p) + ((a 4) p))), (5, .int (((a 5) p) - ((a 3) p))), (4, .int (((a 4) p) - ((a 2) p))), (0, .ref h), (1, .int x), (2, .int y), (3, .int (nI p))] dX9_isSeen_133 (by decide) rfl ?_
    refine i_iload B 7 dX9_isSeen_135 rfl ?_
    refine i_i2l B dX9_isSeen_137 ?_
    refine i_iload B 7 dX9_isSeen_138 rfl ?_
    refine i_i2l B dX9_isSeen_140 ?_
    refine i_lmul B dX9_isSeen_141 ?_
    refine i_iload B 6 dX9_isSeen_142 rfl ?_
    refine i_i2l B dX9_isSeen_144 ?_
    refine i_iload B 6 dX9_isSeen_145 rfl ?_
    refine i_i2l B dX9_isSeen_147 ?_
    refine i_lmul B dX9_isSeen_148 ?_
    refine i_ladd B dX9_isSeen_149 ?_
    refine i_lstore B [(14, .long (((Int32.toInt64 (((a 4) p) - ((a 2) p))) * (Int32.toInt64 (((a 4) p) - ((a 2) p)))) + ((Int32.toInt64 (((a 5) p) - ((a 3) p))) * (Int32.toInt64 (((a 5) p) - ((a 3) p)))))), (12, .long (Int32.toInt64 (crs (((a 4) p) - ((a 2) p)) (((a 5) p) - ((a 3) p)) ((((a 2) p) + ((a 4) p)) - (2 * x)) ((((a 3) p) + ((a 5) p)) - (2 * y))))), (10, .long (((Int32.toInt64 ((((a 2) p) + ((a 4) p)) - (2 * x))) * (Int32.toInt64 ((((a 2) p) + ((a 4) p)) - (2 * x)))) + ((Int32.toInt64 ((((a 3) p) + ((a 5) p)) - (2 * y))) * (Int32.toInt64 ((((a 3) p) + ((a 5) p)) - (2 * y)))))), (9, .int ((((a 3) p) + ((a 5) p)) - (2 * y))), (8, .int ((((a 2) p) + ((a 4) p)) - (2 * x))), (7, .int (((a 3) p) + ((a 5) p))), (6, .int (((a 2) p) + ((a 4) p))), (5, .int (((a 5) p) - ((a 3) p))), (4, .int (((a 4) p) - ((a 2) p))), (0, .ref h), (1, .int x), (2, .int y), (3, .int (nI p))] dX9_isSeen_150 (by decide) rfl ?_
    refine i_lload B 2 dX9_isSeen_152 rfl ?_
    refine i_ldc2 B ckX9_126 dX9_isSeen_154 ?_
    refine i_aload_n B 9 dX9_isSeen_157 rfl ?_
    refine i_get (v := .int (g 6)) B flX9_22 0 rfl rfl dX9_isSeen_158 ?_
    refine i_i2l B dX9_isSeen_161 ?_
    refine i_lmul B dX9_isSeen_162 ?_
    refine i_aload_n B 9 dX9_isSeen_163 rfl ?_
    refine i_get (v := .int (g 6)) B flX9_22 0 rfl rfl dX9_isSeen_164 ?_
    refine i_i2l B dX9_isSeen_167 ?_
    refine i_lmul B dX9_isSeen_168 ?_
    refine i_lc_gt B 197 dX9_isSeen_169 dX9_isSeen_170 (by decide) (fun h6 => ?_) (fun h6 => ?_)
    · refine i_iconst (v := 0) B dX9_isSeen_197 (by decide) ?_
      exact ret _ _ _ (by decide) dX9_isSeen_198 (by rw [sn, sn1]; simp only [sdx, sdy, smx, smy, swx, swy, sway, slong, sacr, h5, h6, decide_true, decide_false, Bool.not_true, Bool.not_false, Bool.true_and, Bool.false_and, Bool.and_true, Bool.and_false, Bool.true_or, Bool.or_true, Bool.false_or, Bool.or_false, bI_t, bI_f])
    · refine i_ldc2 B ckX9_128 dX9_isSeen_173 ?_
      refine i_lload B 1 dX9_isSeen_176 rfl ?_
      refine i_lmul B dX9_isSeen_178 ?_
      refine i_lload B 1 dX9_isSeen_179 rfl ?_
      refine i_lmul B dX9_isSeen_181 ?_
      refine i_aload_n B 9 dX9_isSeen_182 rfl ?_
      refine i_get (v := .int (g 7)) B flX9_26 0 rfl rfl dX9_isSeen_183 ?_
      refine i_i2l B dX9_isSeen_186 ?_
      refine i_lload B 0 dX9_isSeen_187 rfl ?_
      refine i_lmul B dX9_isSeen_189 ?_
      refine i_lload B 2 dX9_isSeen_190 rfl ?_
      refine i_lmul B dX9_isSeen_192 ?_
      refine i_lc_ge B 199 dX9_isSeen_193 dX9_isSeen_194 (by decide) (fun h7 => ?_) (fun h7 => ?_)
      · replace h7 := q_n64.mpr h7
        refine i_iconst (v := 1) B dX9_isSeen_199 (by decide) ?_
        refine i_istore B [(16, .int 1), (14, .long (((Int32.toInt64 (((a 4) p) - ((a 2) p))) * (Int32.toInt64 (((a 4) p) - ((a 2) p)))) + ((Int32.toInt64 (((a 5) p) - ((a 3) p))) * (Int32.toInt64 (((a 5) p) - ((a 3) p)))))), (12, .long (Int32.toInt64 (crs (((a 4) p) - ((a 2) p)) (((a 5) p) - ((a 3) p)) ((((a 2) p) + ((a 4) p)) - (2 * x)) ((((a 3) p) + ((a 5) p)) - (2 * y))))), (10, .long (((Int32.toInt64 ((((a 2) p) + ((a 4) p)) - (2 * x))) * (Int32.toInt64 ((((a 2) p) + ((a 4) p)) - (2 * x)))) + ((Int32.toInt64 ((((a 3) p) + ((a 5) p)) - (2 * y))) * (Int32.toInt64 ((((a 3) p) + ((a 5) p)) - (2 * y)))))), (9, .int ((((a 3) p) + ((a 5) p)) - (2 * y))), (8, .int ((((a 2) p) + ((a 4) p)) - (2 * x))), (7, .int (((a 3) p) + ((a 5) p))), (6, .int (((a 2) p) + ((a 4) p))), (5, .int (((a 5) p) - ((a 3) p))), (4, .int (((a 4) p) - ((a 2) p))), (0, .ref h), (1, .int x), (2, .int y), (3, .int (nI p))] dX9_isSeen_200 (by decide) rfl ?_
        refine i_iconst (v := 0) B dX9_isSeen_202 (by decide) ?_
        refine i_istore B [(17, .int 0), (16, .int 1), (14, .long (((Int32.toInt64 (((a 4) p) - ((a 2) p))) * (Int32.toInt64 (((a 4) p) - ((a 2) p)))) + ((Int32.toInt64 (((a 5) p) - ((a 3) p))) * (Int32.toInt64 (((a 5) p) - ((a 3) p)))))), (12, .long (Int32.toInt64 (crs (((a 4) p) - ((a 2) p)) (((a 5) p) - ((a 3) p)) ((((a 2) p) + ((a 4) p)) - (2 * x)) ((((a 3) p) + ((a 5) p)) - (2 * y))))), (10, .long (((Int32.toInt64 ((((a 2) p) + ((a 4) p)) - (2 * x))) * (Int32.toInt64 ((((a 2) p) + ((a 4) p)) - (2 * x)))) + ((Int32.toInt64 ((((a 3) p) + ((a 5) p)) - (2 * y))) * (Int32.toInt64 ((((a 3) p) + ((a 5) p)) - (2 * y)))))), (9, .int ((((a 3) p) + ((a 5) p)) - (2 * y))), (8, .int ((((a 2) p) + ((a 4) p)) - (2 * x))), (7, .int (((a 3) p) + ((a 5) p))), (6, .int (((a 2) p) + ((a 4) p))), (5, .int (((a 5) p) - ((a 3) p))), (4, .int (((a 4) p) - ((a 2) p))), (0, .ref h), (1, .int x), (2, .int y), (3, .int (nI p))] dX9_isSeen_203 (by decide) rfl ?_
        refine i_locals [1, 0, 11, 12, 13, 14, 8, 7] (L' := [(16, .int 1), (17, .int 0), (0, .ref h), (1, .int x), (2, .int y), (3, .int (nI p)), (6, .int (((a 2) p) + ((a 4) p))), (7, .int (((a 3) p) + ((a 5) p)))]) rfl ?_
        refine i_Leq (congrArg (fun z_9 => ([(16, .int z_9), (17, .int 0), (0, .ref h), (1, .int x), (2, .int y), (3, .int (nI p)), (6, .int (((a 2) p) + ((a 4) p))), (7, .int (((a 3) p) + ((a 5) p)))] : List (Nat × Value))) (show (1 : Int32) = (bI (clr a x y p 0)) from rfl)) ?_
        refine i_Leq (congrArg (fun z_9 => ([(16, .int (bI (clr a x y p 0))), (17, .int z_9), (0, .ref h), (1, .int x), (2, .int y), (3, .int (nI p)), (6, .int (((a 2) p) + ((a 4) p))), (7, .int (((a 3) p) + ((a 5) p)))] : List (Nat × Value))) (show (0 : Int32) = (nI 0) from rfl)) ?_
        exact lp (np + 1) 0 (by omega) (Nat.zero_le _) (by rw [sn1]; simp only [sdx, sdy, smx, smy, swx, swy, sway, slong, sacr, h5, h6, h7, decide_true, decide_false, Bool.not_true, Bool.not_false, Bool.true_and, Bool.false_and, Bool.and_true, Bool.and_false, Bool.true_or, Bool.or_true, Bool.false_or, Bool.or_false, bI_t, bI_f])
      · replace h7 := q_m64.mp h7
        refine i_iconst (v := 0) B dX9_isSeen_197 (by decide) ?_
        exact ret _ _ _ (by decide) dX9_isSeen_198 (by rw [sn, sn1]; simp only [sdx, sdy, smx, smy, swx, swy, sway, slong, sacr, h5, h6, h7, decide_true, decide_false, Bool.not_true, Bool.not_false, Bool.true_and, Bool.false_and, Bool.and_true, Bool.and_false, Bool.true_or, Bool.or_true, Bool.false_or, Bool.or_false, bI_t, bI_f])
  · refine i_iconst (v := 0) B dX9_isSeen_56 (by decide) ?_
    exact ret _ _ _ (by decide) dX9_isSeen_57 (by rw [sn, sn1]; simp only [sdx, sdy, smx, smy, swx, swy, sway, slong, sacr, h5, decide_true, decide_false, Bool.not_true, Bool.not_false, Bool.true_and, Bool.false_and, Bool.and_true, Bool.and_false, Bool.true_or, Bool.or_true, Bool.false_or, Bool.or_false, bI_t, bI_f])

set_option maxHeartbeats 4000000 in
set_option maxRecDepth 100000 in
theorem k_X9_noPanel (l : Launch) (E : ED) (h : Nat) (q : Nat → Nat) (g : Nat → Int32) (a : Nat → Nat → Int32) (x : Int32) : RO l E yX9_noPanel cX9_noPanel 2 .boolean 1 25 [.ref h, .int x] (mW E h q g a) (fun r => r = bI (!wit x 0 (g 1 - 1))) := by
  refine RO.mk (by decide) (Nat.le_of_ble_eq_true rfl) [(0, .ref h), (1, .int x)] rfl (fun Z B ret => ?_)
  refine i_iload_n B 1 dX9_noPanel_0 rfl ?_
  refine i_i2l B dX9_noPanel_1 ?_
  refine i_lconst (v := 0) B dX9_noPanel_2 (by decide) ?_
  refine i_aload_n B 0 dX9_noPanel_3 rfl ?_
  refine i_get (v := .int (g 1)) B flX9_108 0 rfl rfl dX9_noPanel_4 ?_
  refine i_iconst (v := 1) B dX9_noPanel_7 (by decide) ?_
  refine i_isub B dX9_noPanel_8 ?_
  refine i_i2l B dX9_noPanel_9 ?_
  refine c_roS (rest := []) (As := [.long (Int32.toInt64 x), .long 0, .long (Int32.toInt64 ((g 1) - 1))]) B (k_X9_in l E (Int32.toInt64 x) 0 (Int32.toInt64 ((g 1) - 1))) cal_yX9_in is_yX9_in mlX9_104 (by decide) (by decide) rfl (Nat.le_of_ble_eq_true rfl) Has.nil _ rfl dX9_noPanel_10 (fun r hr => ?_)
  subst hr
  refine i_val (v' := .int (bI (wit x 0 ((g 1) - 1)))) (congrArg (fun z => Value.int (bI z)) (pin_i x 0 ((g 1) - 1))) ?_
  refine i_if_ne B 20 dX9_noPanel_13 (by decide) (fun h1 => ?_) (fun h1 => ?_)
  · replace h1 := bI_n.mp h1
    refine i_iconst (v := 0) B dX9_noPanel_20 (by decide) ?_
    exact ret _ _ _ (by decide) dX9_noPanel_21 (by simp only [h1, decide_true, decide_false, Bool.not_true, Bool.not_false, Bool.true_and, Bool.false_and, Bool.and_true, Bool.and_false, Bool.true_or, Bool.or_true, Bool.false_or, Bool.or_false, Bool.and_self, Bool.or_self, bI_t, bI_f, if_true, if_false, ite_true, ite_false, Bool.false_eq_true, Bool.true_eq_false, eq_self, reduceIte, true_or, or_true, false_or, or_false, and_true, true_and, and_false, false_and, not_true_eq_false, not_false_eq_true, decide_eq_true_eq, decide_eq_false_iff_not])
  · replace h1 := bI_0.mp h1
    refine i_iconst (v := 1) B dX9_noPanel_16 (by decide) ?_
    refine i_goto B 21 dX9_noPanel_17 (by decide) ?_
    exact ret _ _ _ (by decide) dX9_noPanel_21 (by simp only [h1, decide_true, decide_false, Bool.not_true, Bool.not_false, Bool.true_and, Bool.false_and, Bool.and_true, Bool.and_false, Bool.true_or, Bool.or_true, Bool.false_or, Bool.or_false, Bool.and_self, Bool.or_self, bI_t, bI_f, if_true, if_false, ite_true, ite_false, Bool.false_eq_true, Bool.true_eq_false, eq_self, reduceIte, true_or, or_true, false_or, or_false, and_true, true_and, and_false, false_and, not_true_eq_false, not_false_eq_true, decide_eq_true_eq, decide_eq_false_iff_not])

def nset (v x : Int32) : Bool := decide (x < 0) || !decide (x >>> (v &&& 31) = 0)

set_option maxHeartbeats 4000000 in
set_option maxRecDepth 100000 in
theorem k_X9_noSet (l : Launch) (E : ED) (h : Nat) (q : Nat → Nat) (g : Nat → Int32) (a : Nat → Nat → Int32) (x : Int32) : RO l E yX9_noSet cX9_noSet 2 .boolean 0 0 [.ref h, .int x] (mW E h q g a) (fun r => r = bI (nset (g 8) x)) := by
  refine RO.mk (by decide) (Nat.le_of_ble_eq_true rfl) [(0, .ref h), (1, .int x)] rfl (fun Z B ret => ?_)
  refine i_iload_n B 1 dX9_noSet_0 rfl ?_
  refine i_if_lt B 13 dX9_noSet_1 (by decide) (fun h1 => ?_) (fun h1 => ?_)
  · refine i_iconst (v := 1) B dX9_noSet_13 (by decide) ?_
    refine i_goto B 18 dX9_noSet_14 (by decide) ?_
    exact ret _ _ _ (by decide) dX9_noSet_18 (by simp only [nset, h1, decide_true, decide_false, Bool.not_true, Bool.not_false, Bool.true_and, Bool.false_and, Bool.and_true, Bool.and_false, Bool.true_or, Bool.or_true, Bool.false_or, Bool.or_false, Bool.and_self, Bool.or_self, bI_t, bI_f, if_true, if_false, ite_true, ite_false, Bool.false_eq_true, Bool.true_eq_false, eq_self, reduceIte, true_or, or_true, false_or, or_false, and_true, true_and, and_false, false_and, not_true_eq_false, not_false_eq_true, decide_eq_true_eq, decide_eq_false_iff_not])
  · refine i_iload_n B 1 dX9_noSet_4 rfl ?_
    refine i_aload_n B 0 dX9_noSet_5 rfl ?_
    refine i_get (v := .int (g 8)) B flX9_111 0 rfl rfl dX9_noSet_6 ?_
    refine i_ishr B dX9_noSet_9 ?_
    refine i_if_eq B 17 dX9_noSet_10 (by decide) (fun h2 => ?_) (fun h2 => ?_)
    · have h2d := decide_eq_true h2
      refine i_iconst (v := 0) B dX9_noSet_17 (by decide) ?_
      exact ret _ _ _ (by decide) dX9_noSet_18 (by simp only [nset, h1, h2d, decide_true, decide_false, Bool.not_true, Bool.not_false, Bool.true_and, Bool.false_and, Bool.and_true, Bool.and_false, Bool.true_or, Bool.or_true, Bool.false_or, Bool.or_false, Bool.and_self, Bool.or_self, bI_t, bI_f, if_true, if_false, ite_true, ite_false, Bool.false_eq_true, Bool.true_eq_false, eq_self, reduceIte, true_or, or_true, false_or, or_false, and_true, true_and, and_false, false_and, not_true_eq_false, not_false_eq_true, decide_eq_true_eq, decide_eq_false_iff_not])
    · have h2d := decide_eq_false h2
      refine i_iconst (v := 1) B dX9_noSet_13 (by decide) ?_
      refine i_goto B 18 dX9_noSet_14 (by decide) ?_
      exact ret _ _ _ (by decide) dX9_noSet_18 (by simp only [nset, h1, h2d, decide_true, decide_false, Bool.not_true, Bool.not_false, Bool.true_and, Bool.false_and, Bool.and_true, Bool.and_false, Bool.true_or, Bool.or_true, Bool.false_or, Bool.or_false, Bool.and_self, Bool.or_self, bI_t, bI_f, if_true, if_false, ite_true, ite_false, Bool.false_eq_true, Bool.true_eq_false, eq_self, reduceIte, true_or, or_true, false_or, or_false, and_true, true_and, and_false, false_and, not_true_eq_false, not_false_eq_true, decide_eq_true_eq, decide_eq_false_iff_not])

/-- the PANELS below k that are SEEN from VIEW v, as bits -/
def seb (g : Nat → Int32) (a : Nat → Nat → Int32) (np v : Nat) : Nat → Int32
  | 0 => 0
  | k + 1 => seb g a np v k ||| (if sn g a np (a 9 v) (a 10 v) k = true then 1 <<< (nI k &&& 31) else 0)

set_option maxHeartbeats 4000000 in
set_option maxRecDepth 100000 in
theorem k_X9_seesOf (l : Launch) (E : ED) (h : Nat) (q : Nat → Nat) (g : Nat → Int32) (a : Nat → Nat → Int32) (np v : Nat) (hn : g 1 = nI np) (hnp : np ≤ 12) (hv : v < 11) : RO l E yX9_seesOf cX9_seesOf 4 .int 4 120 [.ref h, .int (nI v)] (mW E h q g a) (fun r => r = seb g a np v np) := by
  refine RO.mk (by decide) (Nat.le_of_ble_eq_true rfl) [(0, .ref h), (1, .int (nI v))] rfl (fun Z B ret => ?_)
  have lp : ∀ (n_lp : Nat) (i : Nat), (np - i < n_lp) → (i ≤ np) → J Z 0 0 (mW E h q g a) 4 [(3, .int (nI i)), (2, .int (seb g a np v i)), (0, .ref h), (1, .int (nI v))] [] := by
    intro n_lp
    induction n_lp with
    | zero => intro i hf_lp hi; omega
    | succ n_lp ih_lp =>
      intro i hf_lp hi
      refine i_iload_n B 0 dX9_seesOf_4 rfl ?_
      refine i_aload_n B 2 dX9_seesOf_5 rfl ?_
      refine i_get (v := .int (g 1)) B flX9_108 0 rfl rfl dX9_seesOf_6 ?_
      refine i_icmp_ge B 48 dX9_seesOf_9 (by decide) (fun h1 => ?_) (fun h1 => ?_)
      · replace h1 := q_n32.mpr h1
        rw [hn, nI_ltI (by omega) (by omega)] at h1
        refine i_iload_n B 1 dX9_seesOf_48 rfl ?_
        exact ret _ _ _ rfl dX9_seesOf_49 (by rw [show np = i by omega])
      · replace h1 := q_m32.mp h1
        rw [hn, nI_ltI (by omega) (by omega)] at h1
        refine i_iload_n B 1 dX9_seesOf_12 rfl ?_
        refine i_aload_n B 2 dX9_seesOf_13 rfl ?_
        refine i_aload_n B 2 dX9_seesOf_14 rfl ?_
        refine i_get (v := .ref (q 9)) B flX9_29 0 rfl rfl dX9_seesOf_15 ?_
        refine i_iload_n B 3 dX9_seesOf_18 rfl ?_
        refine i_ialdN B 5 v rfl rfl (by omega) (by decide) dX9_seesOf_19 ?_
        refine i_aload_n B 2 dX9_seesOf_20 rfl ?_
        refine i_get (v := .ref (q 10)) B flX9_32 0 rfl rfl dX9_seesOf_21 ?_
        refine i_iload_n B 3 dX9_seesOf_24 rfl ?_
        refine i_ialdN B 6 v rfl rfl (by omega) (by decide) dX9_seesOf_25 ?_
        refine i_iload_n B 0 dX9_seesOf_26 rfl ?_
        refine c_roV (rest := [.int (seb g a np v i)]) (As := [.int ((a 9) v), .int ((a 10) v), .int (nI i)]) B (k_X9_isSeen l E h q g a np i hn hnp (by omega) ((a 9) v) ((a 10) v)) cal_yX9_isSeen iv_yX9_isSeen mlX9_144 rfl 0 rfl (by decide) (by decide) rfl (Nat.le_of_ble_eq_true rfl) Has.rf _ rfl dX9_seesOf_27 (fun r hr => ?_)
        subst hr
        refine i_val (v' := .int (bI (sn g a np ((a 9) v) ((a 10) v) i))) rfl ?_
        refine i_if_eq B 39 dX9_seesOf_30 (by decide) (fun h2 => ?_) (fun h2 => ?_)
        · replace h2 := bI_0.mp h2
          refine i_iconst (v := 0) B dX9_seesOf_39 (by decide) ?_
          refine i_ior B dX9_seesOf_40 ?_
          refine i_istore_n B [(2, .int ((seb g a np v i) ||| 0)), (3, .int (nI i)), (0, .ref h), (1, .int (nI v))] dX9_seesOf_41 (by decide) rfl ?_
          refine i_iinc (v := (nI (i + 1))) B 1 [(3, .int (nI (i + 1))), (2, .int ((seb g a np v i) ||| 0)), (0, .ref h), (1, .int (nI v))] dX9_seesOf_42 rfl ((nI_1 _)) (by decide) rfl ?_
          refine i_goto B 4 dX9_seesOf_45 (by decide) ?_
          refine i_Leq (congrArg (fun z_9 => ([(3, .int (nI (i + 1))), (2, .int z_9), (0, .ref h), (1, .int (nI v))] : List (Nat × Value))) (show (((seb g a np v i) ||| 0) : Int32) = (seb g a np v (i + 1)) from by rw [seb]; simp only [h1, h2, if_true, if_false, Bool.false_eq_true])) ?_
          exact ih_lp (i + 1) (by omega) (by omega)
        · replace h2 := bI_n.mp h2
          refine i_iconst (v := 1) B dX9_seesOf_33 (by decide) ?_
          refine i_iload_n B 0 dX9_seesOf_34 rfl ?_
          refine i_ishl B dX9_seesOf_35 ?_
          refine i_goto B 40 dX9_seesOf_36 (by decide) ?_
          refine i_ior B dX9_seesOf_40 ?_
          refine i_istore_n B [(2, .int ((seb g a np v i) ||| (1 <<< ((nI i) &&& 31)))), (3, .int (nI i)), (0, .ref h), (1, .int (nI v))] dX9_seesOf_41 (by decide) rfl ?_
          refine i_iinc (v := (nI (i + 1))) B 1 [(3, .int (nI (i + 1))), (2, .int ((seb g a np v i) ||| (1 <<< ((nI i) &&& 31)))), (0, .ref h), (1, .int (nI v))] dX9_seesOf_42 rfl ((nI_1 _)) (by decide) rfl ?_
          refine i_goto B 4 dX9_seesOf_45 (by decide) ?_
          refine i_Leq (congrArg (fun z_9 => ([(3, .int (nI (i + 1))), (2, .int z_9), (0, .ref h), (1, .int (nI v))] : List (Nat × Value))) (show (((seb g a np v i) ||| (1 <<< ((nI i) &&& 31))) : Int32) = (seb g a np v (i + 1)) from by rw [seb]; simp only [h1, h2, if_true, if_false, Bool.false_eq_true])) ?_
          exact ih_lp (i + 1) (by omega) (by omega)
  refine i_iconst (v := 0) B dX9_seesOf_0 (by decide) ?_
  refine i_istore_n B [(2, .int 0), (0, .ref h), (1, .int (nI v))] dX9_seesOf_1 (by decide) rfl ?_
  refine i_iconst (v := 0) B dX9_seesOf_2 (by decide) ?_
  refine i_istore_n B [(3, .int 0), (2, .int 0), (0, .ref h), (1, .int (nI v))] dX9_seesOf_3 (by decide) rfl ?_
  refine i_Leq (congrArg (fun z_9 => ([(3, .int z_9), (2, .int 0), (0, .ref h), (1, .int (nI v))] : List (Nat × Value))) (show (0 : Int32) = (nI 0) from rfl)) ?_
  refine i_Leq (congrArg (fun z_9 => ([(3, .int (nI 0)), (2, .int z_9), (0, .ref h), (1, .int (nI v))] : List (Nat × Value))) (show (0 : Int32) = (seb g a np v 0) from rfl)) ?_
  exact lp (np + 1) 0 (by omega) (Nat.zero_le _)
