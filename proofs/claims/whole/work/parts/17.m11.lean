theorem plc_cg {a b : Nat → Nat → Int32} (h5 : b 25 = a 25) (h6 : b 26 = a 26) (h8 : b 28 = a 28) (h9 : b 29 = a 29) (r0 : Nat → Int32) (p y : Int32) (m : Nat) : plc b r0 p y m = plc a r0 p y m := by
  induction m with
  | zero => rfl
  | succ m ih => rw [plc, plc, ih, onF, onF, h5, h6, h8, h9]
theorem insr_jk {at_ : Int32} : ∀ (k : Nat) (r r' : Nat → Int32), (∀ j, j < k → r j = r' j) → ∀ j, j < k + 1 → insr at_ k r j = insr at_ k r' j := by
  intro k
  induction k with
  | zero =>
    intro r r' h j hj
    rw [insr, insr, show j = 0 by omega, pk_us, pk_us]
  | succ k ih =>
    intro r r' h j hj
    rw [insr, insr, h k (by omega)]
    by_cases e : at_ < r' k
    · rw [if_pos e, if_pos e]
      by_cases e2 : j = k + 1
      · subst e2
        have aux : ∀ (k : Nat) (r : Nat → Int32) (j : Nat), k < j → insr at_ k r j = r j := by
          intro k
          induction k with
          | zero => intro r j hj; rw [insr, pk_un (by omega)]
          | succ k ih2 =>
            intro r j hj
            rw [insr]
            split
            · rw [ih2 _ _ (by omega), pk_un (by omega)]
            · rw [pk_un (by omega)]
        rw [aux _ _ _ (by omega), aux _ _ _ (by omega), pk_us, pk_us]
      · exact ih _ _ (fun i hi => by rw [pk_un (by omega), pk_un (by omega)]; exact h i (by omega)) j (by omega)
    · rw [if_neg e, if_neg e]
      by_cases e2 : j = k + 1
      · subst e2; rw [pk_us, pk_us]
      · rw [pk_un e2, pk_un e2]; exact h j (by omega)
theorem plc_jk (a : Nat → Nat → Int32) (r r' : Nat → Int32) (p y : Int32) (m : Nat) : (plc a r p y m).1 = (plc a r' p y m).1 ∧ ∀ k, k < (plc a r p y m).1 → (plc a r p y m).2 k = (plc a r' p y m).2 k := by
  induction m with
  | zero => exact ⟨rfl, fun k h => absurd h (Nat.not_lt_zero k)⟩
  | succ m ih =>
    rw [plc, plc]
    by_cases e : onF a m p y = true
    · rw [if_pos e, if_pos e]
      refine ⟨by show _ + 1 = _ + 1; rw [ih.1], fun k hk => ?_⟩
      show insr _ _ _ k = insr _ _ _ k
      rw [← ih.1]
      exact insr_jk _ _ _ ih.2 k hk
    · rw [if_neg e, if_neg e]; exact ih
theorem MT_cg {x x' y y' : Nat → Int32} {tol : Int32} : ∀ i j, (∀ k, k < i → x k = x' k) → (∀ k, k < j → y k = y' k) → MT x y tol i j = MT x' y' tol i j := by
  intro i
  induction i with
  | zero =>
    intro j
    induction j with
    | zero => intro hx hy; rw [MT, MT]
    | succ j ih => intro hx hy; rw [MT, MT, ih hx (fun k hk => hy k (by omega))]
  | succ i ihi =>
    intro j
    induction j with
    | zero => intro hx hy; rw [MT, MT, ihi 0 (fun k hk => hx k (by omega)) hy]
    | succ j ihj =>
      intro hx hy
      rw [MT, MT, ihi (j + 1) (fun k hk => hx k (by omega)) hy, ihj hx (fun k hk => hy k (by omega)), ihi j (fun k hk => hx k (by omega)) (fun k hk => hy k (by omega)), hx i (by omega), hy j (by omega)]
/-- the sorted places of a year -/
def srt (a : Nat → Nat → Int32) (p y : Int32) (nm : Nat) : Nat × (Nat → Int32) := plc a (fun _ => 0) p y nm
def mres (a : Nat → Nat → Int32) (nm : Nat) (p y1 y2 tol : Int32) : Int32 × Int32 := MT (srt a p y1 nm).2 (srt a p y2 nm).2 tol (srt a p y1 nm).1 (srt a p y2 nm).1
def matF (g : Nat → Int32) (a : Nat → Nat → Int32) (nm : Nat) (p y1 y2 tol z : Int32) : Int32 := if (!wit p 0 (g 1 - 1)) = true then -1 else if (!(wit y1 0 9 && (wit y2 0 9 && wit tol 0 1000))) = true then -2 else if decide (y1 = y2) = true then -3 else if decide (z = 0) = true then (mres a nm p y1 y2 tol).1 else (mres a nm p y1 y2 tol).2
theorem mres_of (a b : Nat → Nat → Int32) (nm : Nat) (p y1 y2 tol : Int32) (r s : Nat → Int32) (h5 : b 25 = a 25) (h6 : b 26 = a 26) (h8 : b 28 = a 28) (h9 : b 29 = a 29) : mres a nm p y1 y2 tol = MT (plc a r p y1 nm).2 (plc b s p y2 nm).2 tol (plc a r p y1 nm).1 (plc b s p y2 nm).1 := by
  rw [plc_cg h5 h6 h8 h9]
  have e1 := plc_jk a (fun _ => 0) r p y1 nm
  have e2 := plc_jk a (fun _ => 0) s p y2 nm
  rw [mres, srt, srt, ← e1.1, ← e2.1]
  exact MT_cg _ _ e1.2 e2.2
theorem tk_n1 {P D : Nat → Int32} {at_ fr : Nat} {more ap : Int32} {k : Nat} (h : k ≠ at_) : (tkf P D at_ fr more ap).1 k = P k := (tk_ne h).1
theorem tk_n2 {P D : Nat → Int32} {at_ fr : Nat} {more ap : Int32} {k : Nat} (h : k ≠ at_) : (tkf P D at_ fr more ap).2 k = D k := (tk_ne h).2

theorem tol_lt {t : Int32} (h : wit t 0 1000 = true) : t < 1000000 := by
  unfold wit at h
  simp only [Bool.and_eq_true, Bool.not_eq_true', decide_eq_false_iff_not] at h
  have h2 := h.2
  rw [Int32.lt_iff_toInt_lt] at h2 ⊢
  have a0 : (1000 : Int32).toInt = 1000 := rfl
  have a1 : (1000000 : Int32).toInt = 1000000 := rfl
  omega

set_option maxHeartbeats 4000000 in
set_option maxRecDepth 100000 in
theorem k_X9_match (l : Launch) (E : ED) (h : Nat) (q : Nat → Nat) (g : Nat → Int32) (a : Nat → Nat → Int32) (np : Nat) (hn : g 1 = nI np) (hnp : np ≤ 12) (nm : Nat) (hm : g 24 = nI nm) (hnm : nm ≤ 40) (p y1 y2 tol z : Int32) : WR l E yX9_match cX9_match 12 .int 2 49 0 0 [.ref h, .int p, .int y1, .int y2, .int tol, .int z] (mW E h q g a) (fun r (_ : N4) => r = matF g a nm p y1 y2 tol z) (fun u : N4 => mW E h q g (va_up (va_up (va_up (va_up a 34 u.1) 35 u.2.1) 36 u.2.2.1) 37 u.2.2.2)) := by
  refine WR.mk (by decide) (Nat.le_of_ble_eq_true rfl) [(0, .ref h), (1, .int p), (2, .int y1), (3, .int y2), (4, .int tol), (5, .int z)] rfl (fun Z B ret => ?_)
  have la : ∀ (n_la : Nat) (na : Nat) (nb : Nat) (x : Nat → Int32) (y : Nat → Int32) (i : Nat) (P : Nat → Int32) (D : Nat → Int32), (na + 1 - i < n_la) → (i ≤ na + 1) → (na ≤ 40) → (nb ≤ 40) → (∀ i9 j9 : Nat, j9 ≤ nb → 41 * i9 + j9 < 41 * i + 0 → (P (41 * i9 + j9), D (41 * i9 + j9)) = MT x y tol i9 j9) → (matF g a nm p y1 y2 tol z = if decide (z = 0) = true then (MT x y tol na nb).1 else (MT x y tol na nb).2) → (tol < 1000000) → J Z 0 0 (mW E h q g (va_up (va_up (va_up (va_up a 34 x) 35 y) 36 P) 37 D)) 90 [(8, .int (nI i)), (7, .int (nI nb)), (6, .int (nI na)), (0, .ref h), (4, .int tol), (5, .int z)] [] := by
    intro n_la
    induction n_la with
    | zero => intro na nb x y i P D hf_la hi hna hnb hM hsp htl; omega
    | succ n_la ih_la =>
      intro na nb x y i P D hf_la hi hna hnb hM hsp htl
      refine i_iload B 0 dX9_match_90 rfl ?_
      refine i_iload B 2 dX9_match_92 rfl ?_
      refine i_icmp_gt B 252 dX9_match_94 (by decide) (fun h1 => ?_) (fun h1 => ?_)
      · rw [nI_ltI (by omega) (by omega)] at h1
        refine i_iload B 5 dX9_match_252 rfl ?_
        refine i_if_eq B 273 dX9_match_254 (by decide) (fun h2 => ?_) (fun h2 => ?_)
        · have h2d := decide_eq_true h2
          refine i_aload_n B 3 dX9_match_273 rfl ?_
          refine i_get (v := .ref (q 36)) B flX9_93 0 rfl rfl dX9_match_274 ?_
          refine i_bipush (v := 41) B dX9_match_277 (by decide) ?_
          refine i_iload B 2 dX9_match_279 rfl ?_
          refine i_imul B dX9_match_281 ?_
          refine i_iload B 1 dX9_match_282 rfl ?_
          refine i_iadd B dX9_match_284 ?_
          refine i_ialdN B 25 (41 * na + nb) rfl (by rw [show (41 : Int32) = nI 41 from rfl, pk_mul, nI_add]) (by omega) (by decide) dX9_match_285 ?_
          refine i_val (v' := .int (P (41 * na + nb))) rfl ?_
          exact ret _ _ _ (x, y, P, D) rfl dX9_match_286 (by (have e := hM na nb (Nat.le_refl _) (by omega); rw [hsp]; simp only [h2d, if_true, if_false, ite_true, ite_false, Bool.false_eq_true, Bool.true_eq_false, eq_self, reduceIte, true_or, or_true, false_or, or_false, and_true, true_and, and_false, false_and, not_true_eq_false, not_false_eq_true, decide_eq_true_eq, decide_eq_false_iff_not]; exact congrArg Prod.fst e))
        · have h2d := decide_eq_false h2
          refine i_aload_n B 3 dX9_match_257 rfl ?_
          refine i_get (v := .ref (q 37)) B flX9_96 0 rfl rfl dX9_match_258 ?_
          refine i_bipush (v := 41) B dX9_match_261 (by decide) ?_
          refine i_iload B 2 dX9_match_263 rfl ?_
          refine i_imul B dX9_match_265 ?_
          refine i_iload B 1 dX9_match_266 rfl ?_
          refine i_iadd B dX9_match_268 ?_
          refine i_ialdN B 26 (41 * na + nb) rfl (by rw [show (41 : Int32) = nI 41 from rfl, pk_mul, nI_add]) (by omega) (by decide) dX9_match_269 ?_
          refine i_val (v' := .int (D (41 * na + nb))) rfl ?_
          refine i_goto B 286 dX9_match_270 (by decide) ?_
          exact ret _ _ _ (x, y, P, D) rfl dX9_match_286 (by (have e := hM na nb (Nat.le_refl _) (by omega); rw [hsp]; simp only [h2d, if_true, if_false, ite_true, ite_false, Bool.false_eq_true, Bool.true_eq_false, eq_self, reduceIte, true_or, or_true, false_or, or_false, and_true, true_and, and_false, false_and, not_true_eq_false, not_false_eq_true, decide_eq_true_eq, decide_eq_false_iff_not]; exact congrArg Prod.snd e))
      · rw [nI_ltI (by omega) (by omega)] at h1
        refine i_iconst (v := 0) B dX9_match_97 (by decide) ?_
        refine i_istore B [(9, .int 0), (8, .int (nI i)), (7, .int (nI nb)), (6, .int (nI na)), (0, .ref h), (4, .int tol), (5, .int z)] dX9_match_98 (by decide) rfl ?_
        have lb : ∀ (n_lb : Nat) (j : Nat) (P2 : Nat → Int32) (D2 : Nat → Int32), (nb + 1 - j < n_lb) → (j ≤ nb + 1) → (∀ i9 j9 : Nat, j9 ≤ nb → 41 * i9 + j9 < 41 * i + j → (P2 (41 * i9 + j9), D2 (41 * i9 + j9)) = MT x y tol i9 j9) → J Z 0 0 (mW E h q g (va_up (va_up (va_up (va_up a 34 x) 35 y) 36 P2) 37 D2)) 100 [(9, .int (nI j)), (8, .int (nI i)), (7, .int (nI nb)), (6, .int (nI na)), (0, .ref h), (4, .int tol), (5, .int z)] [] := by
          intro n_lb
          induction n_lb with
          | zero => intro j P2 D2 hf_lb hj hM2; omega
          | succ n_lb ih_lb =>
            intro j P2 D2 hf_lb hj hM2
            refine i_iload B 0 dX9_match_100 rfl ?_
            refine i_iload B 2 dX9_match_102 rfl ?_
            refine i_icmp_gt B 246 dX9_match_104 (by decide) (fun h3 => ?_) (fun h3 => ?_)
            · rw [nI_ltI (by omega) (by omega)] at h3
              refine i_iinc (v := (nI (i + 1))) B 1 [(8, .int (nI (i + 1))), (9, .int (nI j)), (7, .int (nI nb)), (6, .int (nI na)), (0, .ref h), (4, .int tol), (5, .int z)] dX9_match_246 rfl ((nI_1 _)) (by decide) rfl ?_
              refine i_goto B 90 dX9_match_249 (by decide) ?_
              refine i_locals [0, 2, 3, 4, 5, 6] (L' := [(8, .int (nI (i + 1))), (7, .int (nI nb)), (6, .int (nI na)), (0, .ref h), (4, .int tol), (5, .int z)]) rfl ?_
              exact ih_la na nb x y (i + 1) P2 D2 (by omega) (by omega) hna hnb (fun i9 j9 h9 hl => hM2 i9 j9 h9 (by omega)) hsp htl
            · rw [nI_ltI (by omega) (by omega)] at h3
              refine i_bipush (v := 41) B dX9_match_107 (by decide) ?_
              refine i_iload B 1 dX9_match_109 rfl ?_
              refine i_imul B dX9_match_111 ?_
              refine i_iload B 0 dX9_match_112 rfl ?_
              refine i_iadd B dX9_match_114 ?_
              refine i_val (v' := .int (nI (41 * i + j))) (congrArg Value.int (by rw [show (41 : Int32) = nI 41 from rfl, pk_mul, nI_add])) ?_
              refine i_istore B [(10, .int (nI (41 * i + j))), (9, .int (nI j)), (8, .int (nI i)), (7, .int (nI nb)), (6, .int (nI na)), (0, .ref h), (4, .int tol), (5, .int z)] dX9_match_115 (by decide) rfl ?_
              refine i_aload_n B 5 dX9_match_117 rfl ?_
              refine i_get (v := .ref (q 36)) B flX9_93 0 rfl rfl dX9_match_118 ?_
              refine i_iload B 0 dX9_match_121 rfl ?_
              refine i_iconst (v := 0) B dX9_match_123 (by decide) ?_
              refine i_iastN B 25 (41 * i + j) (mW E h q g (va_up (va_up (va_up (va_up a 34 x) 35 y) 37 D2) 36 (upd P2 (41 * i + j) 0))) rfl rfl (by omega) (by decide) rfl dX9_match_124 ?_
              refine i_aload_n B 5 dX9_match_125 rfl ?_
              refine i_get (v := .ref (q 37)) B flX9_96 0 rfl rfl dX9_match_126 ?_
              refine i_iload B 0 dX9_match_129 rfl ?_
              refine i_iconst (v := 0) B dX9_match_131 (by decide) ?_
              refine i_iastN B 26 (41 * i + j) (mW E h q g (va_up (va_up (va_up (va_up a 34 x) 35 y) 36 (upd P2 (41 * i + j) 0)) 37 (upd D2 (41 * i + j) 0))) rfl rfl (by omega) (by decide) rfl dX9_match_132 ?_
              refine i_iload B 2 dX9_match_133 rfl ?_
              refine i_if_le B 151 dX9_match_135 (by decide) (fun h4 => ?_) (fun h4 => ?_)
              · replace h4 := q_n32.mpr h4
                have h4n := h4
                rw [show (0 : Int32) = nI 0 from rfl, nI_ltI (by omega) (by omega)] at h4n
                refine i_iload B 1 dX9_match_151 rfl ?_
                refine i_if_le B 168 dX9_match_153 (by decide) (fun h5 => ?_) (fun h5 => ?_)
                · replace h5 := q_n32.mpr h5
                  have h5n := h5
                  rw [show (0 : Int32) = nI 0 from rfl, nI_ltI (by omega) (by omega)] at h5n
                  refine i_iload B 2 dX9_match_168 rfl ?_
                  refine i_if_le B 200 dX9_match_170 (by decide) (fun _ => ?_) (fun h6 => absurd (q_m32.mp h6) h4)
                  refine i_ldc B ckX9_151 dX9_match_200 ?_
                  refine i_istore B [(11, .int 1000000), (10, .int (nI (41 * i + j))), (9, .int (nI j)), (8, .int (nI i)), (7, .int (nI nb)), (6, .int (nI na)), (0, .ref h), (4, .int tol), (5, .int z)] dX9_match_202 (by decide) rfl ?_
                  refine i_iload B 0 dX9_match_204 rfl ?_
                  refine i_if_ge B 215 dX9_match_206 (by decide) (fun _ => ?_) (fun h7 => absurd h7 (by decide))
                  refine i_iload B 0 dX9_match_215 rfl ?_
                  refine i_istore B [(11, .int 1000000), (10, .int (nI (41 * i + j))), (9, .int (nI j)), (8, .int (nI i)), (7, .int (nI nb)), (6, .int (nI na)), (0, .ref h), (4, .int tol), (5, .int z)] dX9_match_217 (by decide) rfl ?_
                  refine i_iload B 0 dX9_match_219 rfl ?_
                  refine i_iload B 7 dX9_match_221 rfl ?_
                  refine i_icmp_gt B 240 dX9_match_223 (by decide) (fun _ => ?_) (fun h8 => absurd htl h8)
                  refine i_iinc (v := (nI (j + 1))) B 2 [(9, .int (nI (j + 1))), (11, .int 1000000), (10, .int (nI (41 * i + j))), (8, .int (nI i)), (7, .int (nI nb)), (6, .int (nI na)), (0, .ref h), (4, .int tol), (5, .int z)] dX9_match_240 rfl ((nI_1 _)) (by decide) rfl ?_
                  refine i_goto B 100 dX9_match_243 (by decide) ?_
                  refine i_locals [0, 3, 4, 5, 6, 7, 8] (L' := [(9, .int (nI (j + 1))), (8, .int (nI i)), (7, .int (nI nb)), (6, .int (nI na)), (0, .ref h), (4, .int tol), (5, .int z)]) rfl ?_
                  exact ih_lb (j + 1) (upd P2 (41 * i + j) 0) (upd D2 (41 * i + j) 0) (by omega) (by omega) (fun i9 j9 h9 hl => by (by_cases e : 41 * i9 + j9 = 41 * i + j; (have e1 : i9 = i := (by omega); have e2 : j9 = j := (by omega); rw [e1, e2]; clear hl h9 e e1 e2; obtain rfl : i = 0 := (by omega); obtain rfl : j = 0 := (by omega); simp only [tk_n1, tk_n2, pk_un, pk_us, Int32.add_zero, ne_eq, not_false_eq_true]; rw [MT]); (rw [pk_un e, pk_un e]; exact hM2 i9 j9 h9 (by omega))))
                · replace h5 := q_m32.mp h5
                  have h5n := h5
                  rw [show (0 : Int32) = nI 0 from rfl, nI_ltI (by omega) (by omega)] at h5n
                  refine i_aload_n B 5 dX9_match_156 rfl ?_
                  refine i_iload B 0 dX9_match_157 rfl ?_
                  refine i_iload B 0 dX9_match_159 rfl ?_
                  refine i_iconst (v := 1) B dX9_match_161 (by decide) ?_
                  refine i_isub B dX9_match_162 ?_
                  refine i_val (v' := .int (nI (41 * i + j - 1))) (congrArg Value.int (pk_sub (a := 41 * i + j) (b := 1) (by omega))) ?_
                  refine i_iconst (v := 0) B dX9_match_163 (by decide) ?_
                  refine i_iconst (v := 0) B dX9_match_164 (by decide) ?_
                  refine c_wvV (rest := []) (As := [.int (nI (41 * i + j)), .int (nI (41 * i + j - 1)), .int 0, .int 0]) B (k_X9_take l E h q g (va_up (va_up (va_up (va_up a 34 x) 35 y) 36 (upd P2 (41 * i + j) 0)) 37 (upd D2 (41 * i + j) 0)) ((41 * i + j)) ((41 * i + j - 1)) (by omega) (by omega) 0 0) cal_yX9_take iv_yX9_take mlX9_225 rfl 0 rfl (by decide) (by decide) rfl (Nat.le_of_ble_eq_true rfl) ([]) ([]) rfl _ rfl dX9_match_165 (fun u hr => ?_)
                  subst hr
                  refine i_world (ws' := (mW E h q g (va_up (va_up (va_up (va_up a 34 x) 35 y) 36 (tkf (upd P2 (41 * i + j) 0) (upd D2 (41 * i + j) 0) ((41 * i + j)) ((41 * i + j - 1)) 0 0).1) 37 (tkf (upd P2 (41 * i + j) 0) (upd D2 (41 * i + j) 0) ((41 * i + j)) ((41 * i + j - 1)) 0 0).2))) rfl ?_
                  refine i_iload B 2 dX9_match_168 rfl ?_
                  refine i_if_le B 200 dX9_match_170 (by decide) (fun _ => ?_) (fun h9 => absurd (q_m32.mp h9) h4)
                  refine i_ldc B ckX9_151 dX9_match_200 ?_
                  refine i_istore B [(11, .int 1000000), (10, .int (nI (41 * i + j))), (9, .int (nI j)), (8, .int (nI i)), (7, .int (nI nb)), (6, .int (nI na)), (0, .ref h), (4, .int tol), (5, .int z)] dX9_match_202 (by decide) rfl ?_
                  refine i_iload B 0 dX9_match_204 rfl ?_
                  refine i_if_ge B 215 dX9_match_206 (by decide) (fun _ => ?_) (fun h10 => absurd h10 (by decide))
                  refine i_iload B 0 dX9_match_215 rfl ?_
                  refine i_istore B [(11, .int 1000000), (10, .int (nI (41 * i + j))), (9, .int (nI j)), (8, .int (nI i)), (7, .int (nI nb)), (6, .int (nI na)), (0, .ref h), (4, .int tol), (5, .int z)] dX9_match_217 (by decide) rfl ?_
                  refine i_iload B 0 dX9_match_219 rfl ?_
                  refine i_iload B 7 dX9_match_221 rfl ?_
                  refine i_icmp_gt B 240 dX9_match_223 (by decide) (fun _ => ?_) (fun h11 => absurd htl h11)
                  refine i_iinc (v := (nI (j + 1))) B 2 [(9, .int (nI (j + 1))), (11, .int 1000000), (10, .int (nI (41 * i + j))), (8, .int (nI i)), (7, .int (nI nb)), (6, .int (nI na)), (0, .ref h), (4, .int tol), (5, .int z)] dX9_match_240 rfl ((nI_1 _)) (by decide) rfl ?_
                  refine i_goto B 100 dX9_match_243 (by decide) ?_
                  refine i_locals [0, 3, 4, 5, 6, 7, 8] (L' := [(9, .int (nI (j + 1))), (8, .int (nI i)), (7, .int (nI nb)), (6, .int (nI na)), (0, .ref h), (4, .int tol), (5, .int z)]) rfl ?_
                  exact ih_lb (j + 1) (tkf (upd P2 (41 * i + j) 0) (upd D2 (41 * i + j) 0) ((41 * i + j)) ((41 * i + j - 1)) 0 0).1 (tkf (upd P2 (41 * i + j) 0) (upd D2 (41 * i + j) 0) ((41 * i + j)) ((41 * i + j - 1)) 0 0).2 (by omega) (by omega) (fun i9 j9 h9 hl => by (by_cases e : 41 * i9 + j9 = 41 * i + j; (have e1 : i9 = i := (by omega); have e2 : j9 = j := (by omega); rw [e1, e2]; clear hl h9 e e1 e2; obtain rfl : i = 0 := (by omega); obtain ⟨j0, rfl⟩ : ∃ j0, j = j0 + 1 := ⟨j - 1, by omega⟩; have eB := hM2 (0) j0 (by omega) (by omega); have iB : 41 * (0) + (j0 + 1) - 1 = 41 * (0) + j0 := (by omega); have nB : 41 * (0) + j0 ≠ 41 * (0) + (j0 + 1) := (by omega); have eB1 := congrArg Prod.fst eB; have eB2 := congrArg Prod.snd eB; dsimp only at eB1 eB2; rw [tk_at]; simp only [tk_n1, tk_n2, pk_un, pk_us, Int32.add_zero, ne_eq, not_false_eq_true, nB, iB, eB1, eB2]; rw [MT]); (rw [tk_n1 e, pk_un e, tk_n2 e, pk_un e]; exact hM2 i9 j9 h9 (by omega))))
              · replace h4 := q_m32.mp h4
                have h4n := h4
                rw [show (0 : Int32) = nI 0 from rfl, nI_ltI (by omega) (by omega)] at h4n
                refine i_aload_n B 5 dX9_match_138 rfl ?_
                refine i_iload B 0 dX9_match_139 rfl ?_
                refine i_iload B 0 dX9_match_141 rfl ?_
                refine i_bipush (v := 41) B dX9_match_143 (by decide) ?_
                refine i_isub B dX9_match_145 ?_
                refine i_val (v' := .int (nI (41 * i + j - 41))) (congrArg Value.int (pk_sub (a := 41 * i + j) (b := 41) (by omega))) ?_
                refine i_iconst (v := 0) B dX9_match_146 (by decide) ?_
                refine i_iconst (v := 0) B dX9_match_147 (by decide) ?_
                refine c_wvV (rest := []) (As := [.int (nI (41 * i + j)), .int (nI (41 * i + j - 41)), .int 0, .int 0]) B (k_X9_take l E h q g (va_up (va_up (va_up (va_up a 34 x) 35 y) 36 (upd P2 (41 * i + j) 0)) 37 (upd D2 (41 * i + j) 0)) ((41 * i + j)) ((41 * i + j - 41)) (by omega) (by omega) 0 0) cal_yX9_take iv_yX9_take mlX9_225 rfl 0 rfl (by decide) (by decide) rfl (Nat.le_of_ble_eq_true rfl) ([]) ([]) rfl _ rfl dX9_match_148 (fun u hr => ?_)
                subst hr
                refine i_world (ws' := (mW E h q g (va_up (va_up (va_up (va_up a 34 x) 35 y) 36 (tkf (upd P2 (41 * i + j) 0) (upd D2 (41 * i + j) 0) ((41 * i + j)) ((41 * i + j - 41)) 0 0).1) 37 (tkf (upd P2 (41 * i + j) 0) (upd D2 (41 * i + j) 0) ((41 * i + j)) ((41 * i + j - 41)) 0 0).2))) rfl ?_
                refine i_iload B 1 dX9_match_151 rfl ?_
                refine i_if_le B 168 dX9_match_153 (by decide) (fun h12 => ?_) (fun h12 => ?_)
                · replace h12 := q_n32.mpr h12
                  have h12n := h12
                  rw [show (0 : Int32) = nI 0 from rfl, nI_ltI (by omega) (by omega)] at h12n
                  refine i_iload B 2 dX9_match_168 rfl ?_
                  refine i_if_le B 200 dX9_match_170 (by decide) (fun h13 => absurd h4 (q_n32.mpr h13)) (fun _ => ?_)
                  refine i_iload B 1 dX9_match_173 rfl ?_
                  refine i_if_le B 200 dX9_match_175 (by decide) (fun _ => ?_) (fun h14 => absurd (q_m32.mp h14) h12)
                  refine i_ldc B ckX9_151 dX9_match_200 ?_
                  refine i_istore B [(11, .int 1000000), (10, .int (nI (41 * i + j))), (9, .int (nI j)), (8, .int (nI i)), (7, .int (nI nb)), (6, .int (nI na)), (0, .ref h), (4, .int tol), (5, .int z)] dX9_match_202 (by decide) rfl ?_
                  refine i_iload B 0 dX9_match_204 rfl ?_
                  refine i_if_ge B 215 dX9_match_206 (by decide) (fun _ => ?_) (fun h15 => absurd h15 (by decide))
                  refine i_iload B 0 dX9_match_215 rfl ?_
                  refine i_istore B [(11, .int 1000000), (10, .int (nI (41 * i + j))), (9, .int (nI j)), (8, .int (nI i)), (7, .int (nI nb)), (6, .int (nI na)), (0, .ref h), (4, .int tol), (5, .int z)] dX9_match_217 (by decide) rfl ?_
                  refine i_iload B 0 dX9_match_219 rfl ?_
                  refine i_iload B 7 dX9_match_221 rfl ?_
                  refine i_icmp_gt B 240 dX9_match_223 (by decide) (fun _ => ?_) (fun h16 => absurd htl h16)
                  refine i_iinc (v := (nI (j + 1))) B 2 [(9, .int (nI (j + 1))), (11, .int 1000000), (10, .int (nI (41 * i + j))), (8, .int (nI i)), (7, .int (nI nb)), (6, .int (nI na)), (0, .ref h), (4, .int tol), (5, .int z)] dX9_match_240 rfl ((nI_1 _)) (by decide) rfl ?_
                  refine i_goto B 100 dX9_match_243 (by decide) ?_
                  refine i_locals [0, 3, 4, 5, 6, 7, 8] (L' := [(9, .int (nI (j + 1))), (8, .int (nI i)), (7, .int (nI nb)), (6, .int (nI na)), (0, .ref h), (4, .int tol), (5, .int z)]) rfl ?_
                  exact ih_lb (j + 1) (tkf (upd P2 (41 * i + j) 0) (upd D2 (41 * i + j) 0) ((41 * i + j)) ((41 * i + j - 41)) 0 0).1 (tkf (upd P2 (41 * i + j) 0) (upd D2 (41 * i + j) 0) ((41 * i + j)) ((41 * i + j - 41)) 0 0).2 (by omega) (by omega) (fun i9 j9 h9 hl => by (by_cases e : 41 * i9 + j9 = 41 * i + j; (have e1 : i9 = i := (by omega); have e2 : j9 = j := (by omega); rw [e1, e2]; clear hl h9 e e1 e2; obtain ⟨i0, rfl⟩ : ∃ i0, i = i0 + 1 := ⟨i - 1, by omega⟩; obtain rfl : j = 0 := (by omega); have eA := hM2 i0 (0) (by omega) (by omega); have iA : 41 * (i0 + 1) + (0) - 41 = 41 * i0 + (0) := (by omega); have nA : 41 * i0 + (0) ≠ 41 * (i0 + 1) + (0) := (by omega); have eA1 := congrArg Prod.fst eA; have eA2 := congrArg Prod.snd eA; dsimp only at eA1 eA2; rw [tk_at]; simp only [tk_n1, tk_n2, pk_un, pk_us, Int32.add_zero, ne_eq, not_false_eq_true, nA, iA, eA1, eA2]; rw [MT]); (rw [tk_n1 e, pk_un e, tk_n2 e, pk_un e]; exact hM2 i9 j9 h9 (by omega))))
                · replace h12 := q_m32.mp h12
                  have h12n := h12
                  rw [show (0 : Int32) = nI 0 from rfl, nI_ltI (by omega) (by omega)] at h12n
                  refine i_aload_n B 5 dX9_match_156 rfl ?_
                  refine i_iload B 0 dX9_match_157 rfl ?_
                  refine i_iload B 0 dX9_match_159 rfl ?_
                  refine i_iconst (v := 1) B dX9_match_161 (by decide) ?_
                  refine i_isub B dX9_match_162 ?_
                  refine i_val (v' := .int (nI (41 * i + j - 1))) (congrArg Value.int (pk_sub (a := 41 * i + j) (b := 1) (by omega))) ?_
                  refine i_iconst (v := 0) B dX9_match_163 (by decide) ?_
                  refine i_iconst (v := 0) B dX9_match_164 (by decide) ?_
                  refine c_wvV (rest := []) (As := [.int (nI (41 * i + j)), .int (nI (41 * i + j - 1)), .int 0, .int 0]) B (k_X9_take l E h q g (va_up (va_up (va_up (va_up a 34 x) 35 y) 36 (tkf (upd P2 (41 * i + j) 0) (upd D2 (41 * i + j) 0) ((41 * i + j)) ((41 * i + j - 41)) 0 0).1) 37 (tkf (upd P2 (41 * i + j) 0) (upd D2 (41 * i + j) 0) ((41 * i + j)) ((41 * i + j - 41)) 0 0).2) ((41 * i + j)) ((41 * i + j - 1)) (by omega) (by omega) 0 0) cal_yX9_take iv_yX9_take mlX9_225 rfl 0 rfl (by decide) (by decide) rfl (Nat.le_of_ble_eq_true rfl) ([]) ([]) rfl _ rfl dX9_match_165 (fun u hr => ?_)
                  subst hr
                  refine i_world (ws' := (mW E h q g (va_up (va_up (va_up (va_up a 34 x) 35 y) 36 (tkf (tkf (upd P2 (41 * i + j) 0) (upd D2 (41 * i + j) 0) ((41 * i + j)) ((41 * i + j - 41)) 0 0).1 (tkf (upd P2 (41 * i + j) 0) (upd D2 (41 * i + j) 0) ((41 * i + j)) ((41 * i + j - 41)) 0 0).2 ((41 * i + j)) ((41 * i + j - 1)) 0 0).1) 37 (tkf (tkf (upd P2 (41 * i + j) 0) (upd D2 (41 * i + j) 0) ((41 * i + j)) ((41 * i + j - 41)) 0 0).1 (tkf (upd P2 (41 * i + j) 0) (upd D2 (41 * i + j) 0) ((41 * i + j)) ((41 * i + j - 41)) 0 0).2 ((41 * i + j)) ((41 * i + j - 1)) 0 0).2))) rfl ?_
                  refine i_iload B 2 dX9_match_168 rfl ?_
                  refine i_if_le B 200 dX9_match_170 (by decide) (fun h17 => absurd h4 (q_n32.mpr h17)) (fun _ => ?_)
                  refine i_iload B 1 dX9_match_173 rfl ?_
                  refine i_if_le B 200 dX9_match_175 (by decide) (fun h18 => absurd h12 (q_n32.mpr h18)) (fun _ => ?_)
                  refine i_aload_n B 5 dX9_match_178 rfl ?_
                  refine i_get (v := .ref (q 34)) B flX9_87 0 rfl rfl dX9_match_179 ?_
                  refine i_iload B 2 dX9_match_182 rfl ?_
                  refine i_iconst (v := 1) B dX9_match_184 (by decide) ?_
                  refine i_isub B dX9_match_185 ?_
                  refine i_ialdN B 23 (i - 1) rfl (pk_sub (a := i) (b := 1) (by omega)) (by omega) (by decide) dX9_match_186 ?_
                  refine i_val (v' := .int (x (i - 1))) rfl ?_
                  refine i_aload_n B 5 dX9_match_187 rfl ?_
                  refine i_get (v := .ref (q 35)) B flX9_90 0 rfl rfl dX9_match_188 ?_
                  refine i_iload B 1 dX9_match_191 rfl ?_
                  refine i_iconst (v := 1) B dX9_match_193 (by decide) ?_
                  refine i_isub B dX9_match_194 ?_
                  refine i_ialdN B 24 (j - 1) rfl (pk_sub (a := j) (b := 1) (by omega)) (by omega) (by decide) dX9_match_195 ?_
                  refine i_val (v' := .int (y (j - 1))) rfl ?_
                  refine i_isub B dX9_match_196 ?_
                  refine i_goto B 202 dX9_match_197 (by decide) ?_
                  refine i_istore B [(11, .int ((x (i - 1)) - (y (j - 1)))), (10, .int (nI (41 * i + j))), (9, .int (nI j)), (8, .int (nI i)), (7, .int (nI nb)), (6, .int (nI na)), (0, .ref h), (4, .int tol), (5, .int z)] dX9_match_202 (by decide) rfl ?_
                  refine i_iload B 0 dX9_match_204 rfl ?_
                  refine i_if_ge B 215 dX9_match_206 (by decide) (fun h19 => ?_) (fun h19 => ?_)
                  · replace h19 := q_n32.mpr h19
                    refine i_iload B 0 dX9_match_215 rfl ?_
                    refine i_istore B [(11, .int ((x (i - 1)) - (y (j - 1)))), (10, .int (nI (41 * i + j))), (9, .int (nI j)), (8, .int (nI i)), (7, .int (nI nb)), (6, .int (nI na)), (0, .ref h), (4, .int tol), (5, .int z)] dX9_match_217 (by decide) rfl ?_
                    refine i_iload B 0 dX9_match_219 rfl ?_
                    refine i_iload B 7 dX9_match_221 rfl ?_
                    refine i_icmp_gt B 240 dX9_match_223 (by decide) (fun h20 => ?_) (fun h20 => ?_)
                    · refine i_iinc (v := (nI (j + 1))) B 2 [(9, .int (nI (j + 1))), (11, .int ((x (i - 1)) - (y (j - 1)))), (10, .int (nI (41 * i + j))), (8, .int (nI i)), (7, .int (nI nb)), (6, .int (nI na)), (0, .ref h), (4, .int tol), (5, .int z)] dX9_match_240 rfl ((nI_1 _)) (by decide) rfl ?_
                      refine i_goto B 100 dX9_match_243 (by decide) ?_
                      refine i_locals [0, 3, 4, 5, 6, 7, 8] (L' := [(9, .int (nI (j + 1))), (8, .int (nI i)), (7, .int (nI nb)), (6, .int (nI na)), (0, .ref h), (4, .int tol), (5, .int z)]) rfl ?_
                      exact ih_lb (j + 1) (tkf (tkf (upd P2 (41 * i + j) 0) (upd D2 (41 * i + j) 0) ((41 * i + j)) ((41 * i + j - 41)) 0 0).1 (tkf (upd P2 (41 * i + j) 0) (upd D2 (41 * i + j) 0) ((41 * i + j)) ((41 * i + j - 41)) 0 0).2 ((41 * i + j)) ((41 * i + j - 1)) 0 0).1 (tkf (tkf (upd P2 (41 * i + j) 0) (upd D2 (41 * i + j) 0) ((41 * i + j)) ((41 * i + j - 41)) 0 0).1 (tkf (upd P2 (41 * i + j) 0) (upd D2 (41 * i + j) 0) ((41 * i + j)) ((41 * i + j - 41)) 0 0).2 ((41 * i + j)) ((41 * i + j - 1)) 0 0).2 (by omega) (by omega) (fun i9 j9 h9 hl => by (by_cases e : 41 * i9 + j9 = 41 * i + j; (have e1 : i9 = i := (by omega); have e2 : j9 = j := (by omega); rw [e1, e2]; clear hl h9 e e1 e2; obtain ⟨i0, rfl⟩ : ∃ i0, i = i0 + 1 := ⟨i - 1, by omega⟩; obtain ⟨j0, rfl⟩ : ∃ j0, j = j0 + 1 := ⟨j - 1, by omega⟩; have eA := hM2 i0 (j0 + 1) (by omega) (by omega); have iA : 41 * (i0 + 1) + (j0 + 1) - 41 = 41 * i0 + (j0 + 1) := (by omega); have nA : 41 * i0 + (j0 + 1) ≠ 41 * (i0 + 1) + (j0 + 1) := (by omega); have eA1 := congrArg Prod.fst eA; have eA2 := congrArg Prod.snd eA; dsimp only at eA1 eA2; have eB := hM2 (i0 + 1) j0 (by omega) (by omega); have iB : 41 * (i0 + 1) + (j0 + 1) - 1 = 41 * (i0 + 1) + j0 := (by omega); have nB : 41 * (i0 + 1) + j0 ≠ 41 * (i0 + 1) + (j0 + 1) := (by omega); have eB1 := congrArg Prod.fst eB; have eB2 := congrArg Prod.snd eB; dsimp only at eB1 eB2; have eC := hM2 i0 j0 (by omega) (by omega); have iC : 41 * (i0 + 1) + (j0 + 1) - 42 = 41 * i0 + j0 := (by omega); have nC : 41 * i0 + j0 ≠ 41 * (i0 + 1) + (j0 + 1) := (by omega); have eC1 := congrArg Prod.fst eC; have eC2 := congrArg Prod.snd eC; dsimp only at eC1 eC2; rw [tk_at, tk_at]; simp only [tk_n1, tk_n2, pk_un, pk_us, Int32.add_zero, ne_eq, not_false_eq_true, nA, nB, nC, iA, eA1, eA2, iB, eB1, eB2, iC, eC1, eC2]; rw [MT, apa]; simp only [Nat.add_sub_cancel] at *; simp only [h19, h20, if_true, if_false]); (rw [tk_n1 e, tk_n1 e, pk_un e, tk_n2 e, tk_n2 e, pk_un e]; exact hM2 i9 j9 h9 (by omega))))
                    · refine i_aload_n B 6 dX9_match_226 rfl ?_
                      refine i_iload B 1 dX9_match_227 rfl ?_
                      refine i_iload B 1 dX9_match_229 rfl ?_
                      refine i_bipush (v := 42) B dX9_match_231 (by decide) ?_
                      refine i_isub B dX9_match_233 ?_
                      refine i_val (v' := .int (nI (41 * i + j - 42))) (congrArg Value.int (pk_sub (a := 41 * i + j) (b := 42) (by omega))) ?_
                      refine i_iconst (v := 1) B dX9_match_234 (by decide) ?_
                      refine i_iload B 0 dX9_match_235 rfl ?_
                      refine c_wvV (rest := []) (As := [.int (nI (41 * i + j)), .int (nI (41 * i + j - 42)), .int 1, .int ((x (i - 1)) - (y (j - 1)))]) B (k_X9_take l E h q g (va_up (va_up (va_up (va_up a 34 x) 35 y) 36 (tkf (tkf (upd P2 (41 * i + j) 0) (upd D2 (41 * i + j) 0) ((41 * i + j)) ((41 * i + j - 41)) 0 0).1 (tkf (upd P2 (41 * i + j) 0) (upd D2 (41 * i + j) 0) ((41 * i + j)) ((41 * i + j - 41)) 0 0).2 ((41 * i + j)) ((41 * i + j - 1)) 0 0).1) 37 (tkf (tkf (upd P2 (41 * i + j) 0) (upd D2 (41 * i + j) 0) ((41 * i + j)) ((41 * i + j - 41)) 0 0).1 (tkf (upd P2 (41 * i + j) 0) (upd D2 (41 * i + j) 0) ((41 * i + j)) ((41 * i + j - 41)) 0 0).2 ((41 * i + j)) ((41 * i + j - 1)) 0 0).2) ((41 * i + j)) ((41 * i + j - 42)) (by omega) (by omega) 1 ((x (i - 1)) - (y (j - 1)))) cal_yX9_take iv_yX9_take mlX9_225 rfl 0 rfl (by decide) (by decide) rfl (Nat.le_of_ble_eq_true rfl) ([]) ([]) rfl _ rfl dX9_match_237 (fun u hr => ?_)
                      subst hr
                      refine i_world (ws' := (mW E h q g (va_up (va_up (va_up (va_up a 34 x) 35 y) 36 (tkf (tkf (tkf (upd P2 (41 * i + j) 0) (upd D2 (41 * i + j) 0) ((41 * i + j)) ((41 * i + j - 41)) 0 0).1 (tkf (upd P2 (41 * i + j) 0) (upd D2 (41 * i + j) 0) ((41 * i + j)) ((41 * i + j - 41)) 0 0).2 ((41 * i + j)) ((41 * i + j - 1)) 0 0).1 (tkf (tkf (upd P2 (41 * i + j) 0) (upd D2 (41 * i + j) 0) ((41 * i + j)) ((41 * i + j - 41)) 0 0).1 (tkf (upd P2 (41 * i + j) 0) (upd D2 (41 * i + j) 0) ((41 * i + j)) ((41 * i + j - 41)) 0 0).2 ((41 * i + j)) ((41 * i + j - 1)) 0 0).2 ((41 * i + j)) ((41 * i + j - 42)) 1 ((x (i - 1)) - (y (j - 1)))).1) 37 (tkf (tkf (tkf (upd P2 (41 * i + j) 0) (upd D2 (41 * i + j) 0) ((41 * i + j)) ((41 * i + j - 41)) 0 0).1 (tkf (upd P2 (41 * i + j) 0) (upd D2 (41 * i + j) 0) ((41 * i + j)) ((41 * i + j - 41)) 0 0).2 ((41 * i + j)) ((41 * i + j - 1)) 0 0).1 (tkf (tkf (upd P2 (41 * i + j) 0) (upd D2 (41 * i + j) 0) ((41 * i + j)) ((41 * i + j - 41)) 0 0).1 (tkf (upd P2 (41 * i + j) 0) (upd D2 (41 * i + j) 0) ((41 * i + j)) ((41 * i + j - 41)) 0 0).2 ((41 * i + j)) ((41 * i + j - 1)) 0 0).2 ((41 * i + j)) ((41 * i + j - 42)) 1 ((x (i - 1)) - (y (j - 1)))).2))) rfl ?_
                      refine i_iinc (v := (nI (j + 1))) B 2 [(9, .int (nI (j + 1))), (11, .int ((x (i - 1)) - (y (j - 1)))), (10, .int (nI (41 * i + j))), (8, .int (nI i)), (7, .int (nI nb)), (6, .int (nI na)), (0, .ref h), (4, .int tol), (5, .int z)] dX9_match_240 rfl ((nI_1 _)) (by decide) rfl ?_
                      refine i_goto B 100 dX9_match_243 (by decide) ?_
                      refine i_locals [0, 3, 4, 5, 6, 7, 8] (L' := [(9, .int (nI (j + 1))), (8, .int (nI i)), (7, .int (nI nb)), (6, .int (nI na)), (0, .ref h), (4, .int tol), (5, .int z)]) rfl ?_
                      exact ih_lb (j + 1) (tkf (tkf (tkf (upd P2 (41 * i + j) 0) (upd D2 (41 * i + j) 0) ((41 * i + j)) ((41 * i + j - 41)) 0 0).1 (tkf (upd P2 (41 * i + j) 0) (upd D2 (41 * i + j) 0) ((41 * i + j)) ((41 * i + j - 41)) 0 0).2 ((41 * i + j)) ((41 * i + j - 1)) 0 0).1 (tkf (tkf (upd P2 (41 * i + j) 0) (upd D2 (41 * i + j) 0) ((41 * i + j)) ((41 * i + j - 41)) 0 0).1 (tkf (upd P2 (41 * i + j) 0) (upd D2 (41 * i + j) 0) ((41 * i + j)) ((41 * i + j - 41)) 0 0).2 ((41 * i + j)) ((41 * i + j - 1)) 0 0).2 ((41 * i + j)) ((41 * i + j - 42)) 1 ((x (i - 1)) - (y (j - 1)))).1 (tkf (tkf (tkf (upd P2 (41 * i + j) 0) (upd D2 (41 * i + j) 0) ((41 * i + j)) ((41 * i + j - 41)) 0 0).1 (tkf (upd P2 (41 * i + j) 0) (upd D2 (41 * i + j) 0) ((41 * i + j)) ((41 * i + j - 41)) 0 0).2 ((41 * i + j)) ((41 * i + j - 1)) 0 0).1 (tkf (tkf (upd P2 (41 * i + j) 0) (upd D2 (41 * i + j) 0) ((41 * i + j)) ((41 * i + j - 41)) 0 0).1 (tkf (upd P2 (41 * i + j) 0) (upd D2 (41 * i + j) 0) ((41 * i + j)) ((41 * i + j - 41)) 0 0).2 ((41 * i + j)) ((41 * i + j - 1)) 0 0).2 ((41 * i + j)) ((41 * i + j - 42)) 1 ((x (i - 1)) - (y (j - 1)))).2 (by omega) (by omega) (fun i9 j9 h9 hl => by (by_cases e : 41 * i9 + j9 = 41 * i + j; (have e1 : i9 = i := (by omega); have e2 : j9 = j := (by omega); rw [e1, e2]; clear hl h9 e e1 e2; obtain ⟨i0, rfl⟩ : ∃ i0, i = i0 + 1 := ⟨i - 1, by omega⟩; obtain ⟨j0, rfl⟩ : ∃ j0, j = j0 + 1 := ⟨j - 1, by omega⟩; have eA := hM2 i0 (j0 + 1) (by omega) (by omega); have iA : 41 * (i0 + 1) + (j0 + 1) - 41 = 41 * i0 + (j0 + 1) := (by omega); have nA : 41 * i0 + (j0 + 1) ≠ 41 * (i0 + 1) + (j0 + 1) := (by omega); have eA1 := congrArg Prod.fst eA; have eA2 := congrArg Prod.snd eA; dsimp only at eA1 eA2; have eB := hM2 (i0 + 1) j0 (by omega) (by omega); have iB : 41 * (i0 + 1) + (j0 + 1) - 1 = 41 * (i0 + 1) + j0 := (by omega); have nB : 41 * (i0 + 1) + j0 ≠ 41 * (i0 + 1) + (j0 + 1) := (by omega); have eB1 := congrArg Prod.fst eB; have eB2 := congrArg Prod.snd eB; dsimp only at eB1 eB2; have eC := hM2 i0 j0 (by omega) (by omega); have iC : 41 * (i0 + 1) + (j0 + 1) - 42 = 41 * i0 + j0 := (by omega); have nC : 41 * i0 + j0 ≠ 41 * (i0 + 1) + (j0 + 1) := (by omega); have eC1 := congrArg Prod.fst eC; have eC2 := congrArg Prod.snd eC; dsimp only at eC1 eC2; rw [tk_at, tk_at, tk_at]; simp only [tk_n1, tk_n2, pk_un, pk_us, Int32.add_zero, ne_eq, not_false_eq_true, nA, nB, nC, iA, eA1, eA2, iB, eB1, eB2, iC, eC1, eC2]; rw [MT, apa]; simp only [Nat.add_sub_cancel] at *; simp only [h19, h20, if_true, if_false]); (rw [tk_n1 e, tk_n1 e, tk_n1 e, pk_un e, tk_n2 e, tk_n2 e, tk_n2 e, pk_un e]; exact hM2 i9 j9 h9 (by omega))))
                  · replace h19 := q_m32.mp h19
                    refine i_iload B 0 dX9_match_209 rfl ?_
                    refine i_ineg B dX9_match_211 ?_
                    refine i_goto B 217 dX9_match_212 (by decide) ?_
                    refine i_istore B [(11, .int (-((x (i - 1)) - (y (j - 1))))), (10, .int (nI (41 * i + j))), (9, .int (nI j)), (8, .int (nI i)), (7, .int (nI nb)), (6, .int (nI na)), (0, .ref h), (4, .int tol), (5, .int z)] dX9_match_217 (by decide) rfl ?_
                    refine i_iload B 0 dX9_match_219 rfl ?_
                    refine i_iload B 7 dX9_match_221 rfl ?_
                    refine i_icmp_gt B 240 dX9_match_223 (by decide) (fun h21 => ?_) (fun h21 => ?_)
                    · refine i_iinc (v := (nI (j + 1))) B 2 [(9, .int (nI (j + 1))), (11, .int (-((x (i - 1)) - (y (j - 1))))), (10, .int (nI (41 * i + j))), (8, .int (nI i)), (7, .int (nI nb)), (6, .int (nI na)), (0, .ref h), (4, .int tol), (5, .int z)] dX9_match_240 rfl ((nI_1 _)) (by decide) rfl ?_
                      refine i_goto B 100 dX9_match_243 (by decide) ?_
                      refine i_locals [0, 3, 4, 5, 6, 7, 8] (L' := [(9, .int (nI (j + 1))), (8, .int (nI i)), (7, .int (nI nb)), (6, .int (nI na)), (0, .ref h), (4, .int tol), (5, .int z)]) rfl ?_
                      exact ih_lb (j + 1) (tkf (tkf (upd P2 (41 * i + j) 0) (upd D2 (41 * i + j) 0) ((41 * i + j)) ((41 * i + j - 41)) 0 0).1 (tkf (upd P2 (41 * i + j) 0) (upd D2 (41 * i + j) 0) ((41 * i + j)) ((41 * i + j - 41)) 0 0).2 ((41 * i + j)) ((41 * i + j - 1)) 0 0).1 (tkf (tkf (upd P2 (41 * i + j) 0) (upd D2 (41 * i + j) 0) ((41 * i + j)) ((41 * i + j - 41)) 0 0).1 (tkf (upd P2 (41 * i + j) 0) (upd D2 (41 * i + j) 0) ((41 * i + j)) ((41 * i + j - 41)) 0 0).2 ((41 * i + j)) ((41 * i + j - 1)) 0 0).2 (by omega) (by omega) (fun i9 j9 h9 hl => by (by_cases e : 41 * i9 + j9 = 41 * i + j; (have e1 : i9 = i := (by omega); have e2 : j9 = j := (by omega); rw [e1, e2]; clear hl h9 e e1 e2; obtain ⟨i0, rfl⟩ : ∃ i0, i = i0 + 1 := ⟨i - 1, by omega⟩; obtain ⟨j0, rfl⟩ : ∃ j0, j = j0 + 1 := ⟨j - 1, by omega⟩; have eA := hM2 i0 (j0 + 1) (by omega) (by omega); have iA : 41 * (i0 + 1) + (j0 + 1) - 41 = 41 * i0 + (j0 + 1) := (by omega); have nA : 41 * i0 + (j0 + 1) ≠ 41 * (i0 + 1) + (j0 + 1) := (by omega); have eA1 := congrArg Prod.fst eA; have eA2 := congrArg Prod.snd eA; dsimp only at eA1 eA2; have eB := hM2 (i0 + 1) j0 (by omega) (by omega); have iB : 41 * (i0 + 1) + (j0 + 1) - 1 = 41 * (i0 + 1) + j0 := (by omega); have nB : 41 * (i0 + 1) + j0 ≠ 41 * (i0 + 1) + (j0 + 1) := (by omega); have eB1 := congrArg Prod.fst eB; have eB2 := congrArg Prod.snd eB; dsimp only at eB1 eB2; have eC := hM2 i0 j0 (by omega) (by omega); have iC : 41 * (i0 + 1) + (j0 + 1) - 42 = 41 * i0 + j0 := (by omega); have nC : 41 * i0 + j0 ≠ 41 * (i0 + 1) + (j0 + 1) := (by omega); have eC1 := congrArg Prod.fst eC; have eC2 := congrArg Prod.snd eC; dsimp only at eC1 eC2; rw [tk_at, tk_at]; simp only [tk_n1, tk_n2, pk_un, pk_us, Int32.add_zero, ne_eq, not_false_eq_true, nA, nB, nC, iA, eA1, eA2, iB, eB1, eB2, iC, eC1, eC2]; rw [MT, apa]; simp only [Nat.add_sub_cancel] at *; simp only [h19, h21, if_true, if_false]); (rw [tk_n1 e, tk_n1 e, pk_un e, tk_n2 e, tk_n2 e, pk_un e]; exact hM2 i9 j9 h9 (by omega))))
                    · refine i_aload_n B 6 dX9_match_226 rfl ?_
                      refine i_iload B 1 dX9_match_227 rfl ?_
                      refine i_iload B 1 dX9_match_229 rfl ?_
                      refine i_bipush (v := 42) B dX9_match_231 (by decide) ?_
                      refine i_isub B dX9_match_233 ?_
                      refine i_val (v' := .int (nI (41 * i + j - 42))) (congrArg Value.int (pk_sub (a := 41 * i + j) (b := 42) (by omega))) ?_
                      refine i_iconst (v := 1) B dX9_match_234 (by decide) ?_
                      refine i_iload B 0 dX9_match_235 rfl ?_
                      refine c_wvV (rest := []) (As := [.int (nI (41 * i + j)), .int (nI (41 * i + j - 42)), .int 1, .int (-((x (i - 1)) - (y (j - 1))))]) B (k_X9_take l E h q g (va_up (va_up (va_up (va_up a 34 x) 35 y) 36 (tkf (tkf (upd P2 (41 * i + j) 0) (upd D2 (41 * i + j) 0) ((41 * i + j)) ((41 * i + j - 41)) 0 0).1 (tkf (upd P2 (41 * i + j) 0) (upd D2 (41 * i + j) 0) ((41 * i + j)) ((41 * i + j - 41)) 0 0).2 ((41 * i + j)) ((41 * i + j - 1)) 0 0).1) 37 (tkf (tkf (upd P2 (41 * i + j) 0) (upd D2 (41 * i + j) 0) ((41 * i + j)) ((41 * i + j - 41)) 0 0).1 (tkf (upd P2 (41 * i + j) 0) (upd D2 (41 * i + j) 0) ((41 * i + j)) ((41 * i + j - 41)) 0 0).2 ((41 * i + j)) ((41 * i + j - 1)) 0 0).2) ((41 * i + j)) ((41 * i + j - 42)) (by omega) (by omega) 1 (-((x (i - 1)) - (y (j - 1))))) cal_yX9_take iv_yX9_take mlX9_225 rfl 0 rfl (by decide) (by decide) rfl (Nat.le_of_ble_eq_true rfl) ([]) ([]) rfl _ rfl dX9_match_237 (fun u hr => ?_)
                      subst hr
                      refine i_world (ws' := (mW E h q g (va_up (va_up (va_up (va_up a 34 x) 35 y) 36 (tkf (tkf (tkf (upd P2 (41 * i + j) 0) (upd D2 (41 * i + j) 0) ((41 * i + j)) ((41 * i + j - 41)) 0 0).1 (tkf (upd P2 (41 * i + j) 0) (upd D2 (41 * i + j) 0) ((41 * i + j)) ((41 * i + j - 41)) 0 0).2 ((41 * i + j)) ((41 * i + j - 1)) 0 0).1 (tkf (tkf (upd P2 (41 * i + j) 0) (upd D2 (41 * i + j) 0) ((41 * i + j)) ((41 * i + j - 41)) 0 0).1 (tkf (upd P2 (41 * i + j) 0) (upd D2 (41 * i + j) 0) ((41 * i + j)) ((41 * i + j - 41)) 0 0).2 ((41 * i + j)) ((41 * i + j - 1)) 0 0).2 ((41 * i + j)) ((41 * i + j - 42)) 1 (-((x (i - 1)) - (y (j - 1))))).1) 37 (tkf (tkf (tkf (upd P2 (41 * i + j) 0) (upd D2 (41 * i + j) 0) ((41 * i + j)) ((41 * i + j - 41)) 0 0).1 (tkf (upd P2 (41 * i + j) 0) (upd D2 (41 * i + j) 0) ((41 * i + j)) ((41 * i + j - 41)) 0 0).2 ((41 * i + j)) ((41 * i + j - 1)) 0 0).1 (tkf (tkf (upd P2 (41 * i + j) 0) (upd D2 (41 * i + j) 0) ((41 * i + j)) ((41 * i + j - 41)) 0 0).1 (tkf (upd P2 (41 * i + j) 0) (upd D2 (41 * i + j) 0) ((41 * i + j)) ((41 * i + j - 41)) 0 0).2 ((41 * i + j)) ((41 * i + j - 1)) 0 0).2 ((41 * i + j)) ((41 * i + j - 42)) 1 (-((x (i - 1)) - (y (j - 1))))).2))) rfl ?_
                      refine i_iinc (v := (nI (j + 1))) B 2 [(9, .int (nI (j + 1))), (11, .int (-((x (i - 1)) - (y (j - 1))))), (10, .int (nI (41 * i + j))), (8, .int (nI i)), (7, .int (nI nb)), (6, .int (nI na)), (0, .ref h), (4, .int tol), (5, .int z)] dX9_match_240 rfl ((nI_1 _)) (by decide) rfl ?_
                      refine i_goto B 100 dX9_match_243 (by decide) ?_
                      refine i_locals [0, 3, 4, 5, 6, 7, 8] (L' := [(9, .int (nI (j + 1))), (8, .int (nI i)), (7, .int (nI nb)), (6, .int (nI na)), (0, .ref h), (4, .int tol), (5, .int z)]) rfl ?_
                      exact ih_lb (j + 1) (tkf (tkf (tkf (upd P2 (41 * i + j) 0) (upd D2 (41 * i + j) 0) ((41 * i + j)) ((41 * i + j - 41)) 0 0).1 (tkf (upd P2 (41 * i + j) 0) (upd D2 (41 * i + j) 0) ((41 * i + j)) ((41 * i + j - 41)) 0 0).2 ((41 * i + j)) ((41 * i + j - 1)) 0 0).1 (tkf (tkf (upd P2 (41 * i + j) 0) (upd D2 (41 * i + j) 0) ((41 * i + j)) ((41 * i + j - 41)) 0 0).1 (tkf (upd P2 (41 * i + j) 0) (upd D2 (41 * i + j) 0) ((41 * i + j)) ((41 * i + j - 41)) 0 0).2 ((41 * i + j)) ((41 * i + j - 1)) 0 0).2 ((41 * i + j)) ((41 * i + j - 42)) 1 (-((x (i - 1)) - (y (j - 1))))).1 (tkf (tkf (tkf (upd P2 (41 * i + j) 0) (upd D2 (41 * i + j) 0) ((41 * i + j)) ((41 * i + j - 41)) 0 0).1 (tkf (upd P2 (41 * i + j) 0) (upd D2 (41 * i + j) 0) ((41 * i + j)) ((41 * i + j - 41)) 0 0).2 ((41 * i + j)) ((41 * i + j - 1)) 0 0).1 (tkf (tkf (upd P2 (41 * i + j) 0) (upd D2 (41 * i + j) 0) ((41 * i + j)) ((41 * i + j - 41)) 0 0).1 (tkf (upd P2 (41 * i + j) 0) (upd D2 (41 * i + j) 0) ((41 * i + j)) ((41 * i + j - 41)) 0 0).2 ((41 * i + j)) ((41 * i + j - 1)) 0 0).2 ((41 * i + j)) ((41 * i + j - 42)) 1 (-((x (i - 1)) - (y (j - 1))))).2 (by omega) (by omega) (fun i9 j9 h9 hl => by (by_cases e : 41 * i9 + j9 = 41 * i + j; (have e1 : i9 = i := (by omega); have e2 : j9 = j := (by omega); rw [e1, e2]; clear hl h9 e e1 e2; obtain ⟨i0, rfl⟩ : ∃ i0, i = i0 + 1 := ⟨i - 1, by omega⟩; obtain ⟨j0, rfl⟩ : ∃ j0, j = j0 + 1 := ⟨j - 1, by omega⟩; have eA := hM2 i0 (j0 + 1) (by omega) (by omega); have iA : 41 * (i0 + 1) + (j0 + 1) - 41 = 41 * i0 + (j0 + 1) := (by omega); have nA : 41 * i0 + (j0 + 1) ≠ 41 * (i0 + 1) + (j0 + 1) := (by omega); have eA1 := congrArg Prod.fst eA; have eA2 := congrArg Prod.snd eA; dsimp only at eA1 eA2; have eB := hM2 (i0 + 1) j0 (by omega) (by omega); have iB : 41 * (i0 + 1) + (j0 + 1) - 1 = 41 * (i0 + 1) + j0 := (by omega); have nB : 41 * (i0 + 1) + j0 ≠ 41 * (i0 + 1) + (j0 + 1) := (by omega); have eB1 := congrArg Prod.fst eB; have eB2 := congrArg Prod.snd eB; dsimp only at eB1 eB2; have eC := hM2 i0 j0 (by omega) (by omega); have iC : 41 * (i0 + 1) + (j0 + 1) - 42 = 41 * i0 + j0 := (by omega); have nC : 41 * i0 + j0 ≠ 41 * (i0 + 1) + (j0 + 1) := (by omega); have eC1 := congrArg Prod.fst eC; have eC2 := congrArg Prod.snd eC; dsimp only at eC1 eC2; rw [tk_at, tk_at, tk_at]; simp only [tk_n1, tk_n2, pk_un, pk_us, Int32.add_zero, ne_eq, not_false_eq_true, nA, nB, nC, iA, eA1, eA2, iB, eB1, eB2, iC, eC1, eC2]; rw [MT, apa]; simp only [Nat.add_sub_cancel] at *; simp only [h19, h21, if_true, if_false]); (rw [tk_n1 e, tk_n1 e, tk_n1 e, pk_un e, tk_n2 e, tk_n2 e, tk_n2 e, pk_un e]; exact hM2 i9 j9 h9 (by omega))))
        refine i_Leq (congrArg (fun z_9 => ([(9, .int z_9), (8, .int (nI i)), (7, .int (nI nb)), (6, .int (nI na)), (0, .ref h), (4, .int tol), (5, .int z)] : List (Nat × Value))) (show (0 : Int32) = (nI 0) from rfl)) ?_
        exact lb (nb + 2) 0 P D (by omega) (Nat.zero_le _) (fun i9 j9 h9 hl => hM i9 j9 h9 (by omega))
  refine i_aload_n B 0 dX9_match_0 rfl ?_
  refine i_iconst (v := 0) B dX9_match_1 (by decide) ?_
  refine i_put B flX9_99 0 (mW E h q g a) rfl rfl rfl rfl (Nat.le_of_ble_eq_true rfl) rfl dX9_match_2 ?_
  refine i_aload_n B 0 dX9_match_5 rfl ?_
  refine i_iload_n B 1 dX9_match_6 rfl ?_
  refine c_roV (rest := []) (As := [.int p]) B (k_X9_noPanel l E h q g a p) cal_yX9_noPanel iv_yX9_noPanel mlX9_140 rfl 0 rfl (by decide) (by decide) rfl (Nat.le_of_ble_eq_true rfl) Has.rf _ rfl dX9_match_7 (fun r hr => ?_)
  subst hr
  refine i_val (v' := .int (bI (!wit p 0 ((g 1) - 1)))) rfl ?_
  refine i_if_eq B 15 dX9_match_10 (by decide) (fun h22 => ?_) (fun h22 => ?_)
  · replace h22 := bI_0.mp h22
    replace h22 : wit p 0 ((g 1) - 1) = true := by simpa using h22
    refine i_iload_n B 2 dX9_match_15 rfl ?_
    refine i_i2l B dX9_match_16 ?_
    refine i_lconst (v := 0) B dX9_match_17 (by decide) ?_
    refine i_ldc2 B ckX9_181 dX9_match_18 ?_
    refine c_roS (rest := []) (As := [.long (Int32.toInt64 y1), .long 0, .long 9]) B (k_X9_in l E (Int32.toInt64 y1) 0 9) cal_yX9_in is_yX9_in mlX9_104 (by decide) (by decide) rfl (Nat.le_of_ble_eq_true rfl) Has.nil _ rfl dX9_match_21 (fun r hr => ?_)
    subst hr
    refine i_val (v' := .int (bI (wit y1 0 9))) (congrArg (fun z => Value.int (bI z)) (pin_i y1 0 9)) ?_
    refine i_if_eq B 52 dX9_match_24 (by decide) (fun h23 => ?_) (fun h23 => ?_)
    · replace h23 := bI_0.mp h23
      refine i_bipush (v := (-2)) B dX9_match_52 (by decide) ?_
      exact ret _ _ _ ((a 34), (a 35), (a 36), (a 37)) rfl dX9_match_54 (by simp only [matF, h22, h23, decide_true, decide_false, Bool.not_true, Bool.not_false, Bool.true_and, Bool.false_and, Bool.and_true, Bool.and_false, Bool.true_or, Bool.or_true, Bool.false_or, Bool.or_false, Bool.and_self, Bool.or_self, bI_t, bI_f, if_true, if_false, ite_true, ite_false, Bool.false_eq_true, Bool.true_eq_false, eq_self, reduceIte, true_or, or_true, false_or, or_false, and_true, true_and, and_false, false_and, not_true_eq_false, not_false_eq_true, decide_eq_true_eq, decide_eq_false_iff_not])
    · replace h23 := bI_n.mp h23
      refine i_iload_n B 3 dX9_match_27 rfl ?_
      refine i_i2l B dX9_match_28 ?_
      refine i_lconst (v := 0) B dX9_match_29 (by decide) ?_
      refine i_ldc2 B ckX9_181 dX9_match_30 ?_
      refine c_roS (rest := []) (As := [.long (Int32.toInt64 y2), .long 0, .long 9]) B (k_X9_in l E (Int32.toInt64 y2) 0 9) cal_yX9_in is_yX9_in mlX9_104 (by decide) (by decide) rfl (Nat.le_of_ble_eq_true rfl) Has.nil _ rfl dX9_match_33 (fun r hr => ?_)
      subst hr
      refine i_val (v' := .int (bI (wit y2 0 9))) (congrArg (fun z => Value.int (bI z)) (pin_i y2 0 9)) ?_
      refine i_if_eq B 52 dX9_match_36 (by decide) (fun h24 => ?_) (fun h24 => ?_)
      · replace h24 := bI_0.mp h24
        refine i_bipush (v := (-2)) B dX9_match_52 (by decide) ?_
        exact ret _ _ _ ((a 34), (a 35), (a 36), (a 37)) rfl dX9_match_54 (by simp only [matF, h22, h23, h24, decide_true, decide_false, Bool.not_true, Bool.not_false, Bool.true_and, Bool.false_and, Bool.and_true, Bool.and_false, Bool.true_or, Bool.or_true, Bool.false_or, Bool.or_false, Bool.and_self, Bool.or_self, bI_t, bI_f, if_true, if_false, ite_true, ite_false, Bool.false_eq_true, Bool.true_eq_false, eq_self, reduceIte, true_or, or_true, false_or, or_false, and_true, true_and, and_false, false_and, not_true_eq_false, not_false_eq_true, decide_eq_true_eq, decide_eq_false_iff_not])
      · replace h24 := bI_n.mp h24
        refine i_iload B 4 dX9_match_39 rfl ?_
        refine i_i2l B dX9_match_41 ?_
        refine i_lconst (v := 0) B dX9_match_42 (by decide) ?_
        refine i_ldc2 B ckX9_213 dX9_match_43 ?_
        refine c_roS (rest := []) (As := [.long (Int32.toInt64 tol), .long 0, .long 1000]) B (k_X9_in l E (Int32.toInt64 tol) 0 1000) cal_yX9_in is_yX9_in mlX9_104 (by decide) (by decide) rfl (Nat.le_of_ble_eq_true rfl) Has.nil _ rfl dX9_match_46 (fun r hr => ?_)
        subst hr
        refine i_val (v' := .int (bI (wit tol 0 1000))) (congrArg (fun z => Value.int (bI z)) (pin_i tol 0 1000)) ?_
        refine i_if_ne B 55 dX9_match_49 (by decide) (fun h25 => ?_) (fun h25 => ?_)
        · replace h25 := bI_n.mp h25
          refine i_iload_n B 2 dX9_match_55 rfl ?_
          refine i_iload_n B 3 dX9_match_56 rfl ?_
          refine i_icmp_ne B 63 dX9_match_57 (by decide) (fun h26 => ?_) (fun h26 => ?_)
          · have h26d := decide_eq_false h26
            refine i_aload_n B 0 dX9_match_63 rfl ?_
            refine i_iload_n B 1 dX9_match_64 rfl ?_
            refine i_iload_n B 2 dX9_match_65 rfl ?_
            refine i_aload_n B 0 dX9_match_66 rfl ?_
            refine i_get (v := .ref (q 34)) B flX9_87 0 rfl rfl dX9_match_67 ?_
            refine c_wiV (rest := []) (As := [.int p, .int y1, .ref (q 34)]) B (k_X9_placed34 l E h q g a nm hm hnm p y1) cal_yX9_placed iv_yX9_placed mlX9_221 rfl 0 rfl (by decide) (by decide) rfl (Nat.le_of_ble_eq_true rfl) ([]) ([]) rfl _ rfl dX9_match_70 (fun r _ hr => ?_)
            subst hr
            refine i_world (ws' := (mW E h q g (va_up a 34 (plc a (a 34) p y1 nm).2))) rfl ?_
            refine i_istore B [(6, .int (nI (plc a (a 34) p y1 nm).1)), (0, .ref h), (1, .int p), (2, .int y1), (3, .int y2), (4, .int tol), (5, .int z)] dX9_match_73 (by decide) rfl ?_
            refine i_aload_n B 1 dX9_match_75 rfl ?_
            refine i_iload_n B 2 dX9_match_76 rfl ?_
            refine i_iload_n B 4 dX9_match_77 rfl ?_
            refine i_aload_n B 1 dX9_match_78 rfl ?_
            refine i_get (v := .ref (q 35)) B flX9_90 0 rfl rfl dX9_match_79 ?_
            refine c_wiV (rest := []) (As := [.int p, .int y2, .ref (q 35)]) B (k_X9_placed35 l E h q g (va_up a 34 (plc a (a 34) p y1 nm).2) nm hm hnm p y2) cal_yX9_placed iv_yX9_placed mlX9_221 rfl 0 rfl (by decide) (by decide) rfl (Nat.le_of_ble_eq_true rfl) ([]) ([]) rfl _ rfl dX9_match_82 (fun r _ hr => ?_)
            subst hr
            refine i_world (ws' := (mW E h q g (va_up (va_up a 34 (plc a (a 34) p y1 nm).2) 35 (plc (va_up a 34 (plc a (a 34) p y1 nm).2) (a 35) p y2 nm).2))) rfl ?_
            refine i_istore B [(7, .int (nI (plc (va_up a 34 (plc a (a 34) p y1 nm).2) (a 35) p y2 nm).1)), (6, .int (nI (plc a (a 34) p y1 nm).1)), (0, .ref h), (1, .int p), (2, .int y1), (3, .int y2), (4, .int tol), (5, .int z)] dX9_match_85 (by decide) rfl ?_
            refine i_iconst (v := 0) B dX9_match_87 (by decide) ?_
            refine i_istore B [(8, .int 0), (7, .int (nI (plc (va_up a 34 (plc a (a 34) p y1 nm).2) (a 35) p y2 nm).1)), (6, .int (nI (plc a (a 34) p y1 nm).1)), (0, .ref h), (1, .int p), (2, .int y1), (3, .int y2), (4, .int tol), (5, .int z)] dX9_match_88 (by decide) rfl ?_
            refine i_locals [0, 1, 2, 3, 7, 8] (L' := [(8, .int 0), (7, .int (nI (plc (va_up a 34 (plc a (a 34) p y1 nm).2) (a 35) p y2 nm).1)), (6, .int (nI (plc a (a 34) p y1 nm).1)), (0, .ref h), (4, .int tol), (5, .int z)]) rfl ?_
            refine i_Leq (congrArg (fun z_9 => ([(8, .int z_9), (7, .int (nI (plc (va_up a 34 (plc a (a 34) p y1 nm).2) (a 35) p y2 nm).1)), (6, .int (nI (plc a (a 34) p y1 nm).1)), (0, .ref h), (4, .int tol), (5, .int z)] : List (Nat × Value))) (show (0 : Int32) = (nI 0) from rfl)) ?_
            refine i_world (ws' := (mW E h q g (va_up (va_up (va_up (va_up a 34 (plc a (a 34) p y1 nm).2) 35 (plc (va_up a 34 (plc a (a 34) p y1 nm).2) (a 35) p y2 nm).2) 36 (a 36)) 37 (a 37)))) (rfl) ?_
            exact la ((plc a (a 34) p y1 nm).1 + 2) (plc a (a 34) p y1 nm).1 (plc (va_up a 34 (plc a (a 34) p y1 nm).2) (a 35) p y2 nm).1 (plc a (a 34) p y1 nm).2 (plc (va_up a 34 (plc a (a 34) p y1 nm).2) (a 35) p y2 nm).2 0 (a 36) (a 37) (by omega) (Nat.zero_le _) (Nat.le_trans (plc_le _ _ _ _ _) hnm) (Nat.le_trans (plc_le _ _ _ _ _) hnm) (fun i9 j9 h9 hl => absurd hl (by omega)) (by rw [matF, mres_of a (va_up a 34 (plc a (a 34) p y1 nm).2) nm p y1 y2 tol (a 34) (a 35) rfl rfl rfl rfl]; simp only [h22, h23, h24, h25, h26d, decide_true, decide_false, Bool.not_true, Bool.not_false, Bool.true_and, Bool.false_and, Bool.and_true, Bool.and_false, Bool.true_or, Bool.or_true, Bool.false_or, Bool.or_false, bI_t, bI_f, if_true, if_false, ite_true, ite_false, Bool.false_eq_true, Bool.true_eq_false, eq_self, reduceIte, true_or, or_true, false_or, or_false, and_true, true_and, and_false, false_and, not_true_eq_false, not_false_eq_true, decide_eq_true_eq, decide_eq_false_iff_not]) (tol_lt h25)
          · have h26d := decide_eq_true h26
            refine i_bipush (v := (-3)) B dX9_match_60 (by decide) ?_
            exact ret _ _ _ ((a 34), (a 35), (a 36), (a 37)) rfl dX9_match_62 (by simp only [matF, h22, h23, h24, h25, h26d, decide_true, decide_false, Bool.not_true, Bool.not_false, Bool.true_and, Bool.false_and, Bool.and_true, Bool.and_false, Bool.true_or, Bool.or_true, Bool.false_or, Bool.or_false, Bool.and_self, Bool.or_self, bI_t, bI_f, if_true, if_false, ite_true, ite_false, Bool.false_eq_true, Bool.true_eq_false, eq_self, reduceIte, true_or, or_true, false_or, or_false, and_true, true_and, and_false, false_and, not_true_eq_false, not_false_eq_true, decide_eq_true_eq, decide_eq_false_iff_not])
        · replace h25 := bI_0.mp h25
          refine i_bipush (v := (-2)) B dX9_match_52 (by decide) ?_
          exact ret _ _ _ ((a 34), (a 35), (a 36), (a 37)) rfl dX9_match_54 (by simp only [matF, h22, h23, h24, h25, decide_true, decide_false, Bool.not_true, Bool.not_false, Bool.true_and, Bool.false_and, Bool.and_true, Bool.and_false, Bool.true_or, Bool.or_true, Bool.false_or, Bool.or_false, Bool.and_self, Bool.or_self, bI_t, bI_f, if_true, if_false, ite_true, ite_false, Bool.false_eq_true, Bool.true_eq_false, eq_self, reduceIte, true_or, or_true, false_or, or_false, and_true, true_and, and_false, false_and, not_true_eq_false, not_false_eq_true, decide_eq_true_eq, decide_eq_false_iff_not])
  · replace h22 := bI_n.mp h22
    replace h22 : wit p 0 ((g 1) - 1) = false := by simpa using h22
    refine i_iconst (v := (-1)) B dX9_match_13 (by decide) ?_
    exact ret _ _ _ ((a 34), (a 35), (a 36), (a 37)) rfl dX9_match_14 (by simp only [matF, h22, decide_true, decide_false, Bool.not_true, Bool.not_false, Bool.true_and, Bool.false_and, Bool.and_true, Bool.and_false, Bool.true_or, Bool.or_true, Bool.false_or, Bool.or_false, Bool.and_self, Bool.or_self, bI_t, bI_f, if_true, if_false, ite_true, ite_false, Bool.false_eq_true, Bool.true_eq_false, eq_self, reduceIte, true_or, or_true, false_or, or_false, and_true, true_and, and_false, false_and, not_true_eq_false, not_false_eq_true, decide_eq_true_eq, decide_eq_false_iff_not])
