/-- the script of the law, which no call changes -/
def ZX (Z : CX) (b L : Nat) (xs : Nat → Int32) : Prop := match Z with
  | (_, _, _, _, s, _, _, _, _, _, _, _, _, A, _) => va_X b L xs s s.heap ∧ b < s.heap.size ∧ ¬ A b
theorem i_sld {Z : CX} {cc : ByteArray} {nL : Nat} {own : String} {R : Room} {E : ED} {md : Bool} {l : Launch} {cells slots pc b L : Nat} {xs : Nat → Int32} {ws : va_W} {L0 : List (Nat × Value)} {rest : List Value} {i : Int32} (B : OK Z cc nL own R E md l) (hX : ZX Z b L xs) (j : Nat) (hi : i = nI j) (hj : j < L) (hL : L ≤ 3072) (hdg : decode cc pc = .ok (.iaload, 1)) (kk : J Z cells slots ws (pc + 1) L0 (.int (xs j) :: rest)) : J Z cells slots ws pc L0 (.int i :: .ref b :: rest) := by
  subst hi
  obtain ⟨p, l', e, R', s, m, args, below, meth, c, Q, E', nL', A, md'⟩ := Z
  obtain ⟨⟨hx, hb, hml, hown, hts⟩, hE, hA, rfl, rfl, rfl, rfl, rfl⟩ := B
  obtain ⟨h1, h2, h3⟩ := hX
  intro H locs ls hP hD hS hmd hl
  refine va_sld hx hb h1 h2 h3 hS (vp_in_nI hj (by omega)) hdg ?_
  rw [nI_clamp (by omega)]
  exact kk H locs ls hP hD hS hmd hl
theorem i_slen {Z : CX} {cc : ByteArray} {nL : Nat} {own : String} {R : Room} {E : ED} {md : Bool} {l : Launch} {cells slots pc b L : Nat} {xs : Nat → Int32} {ws : va_W} {L0 : List (Nat × Value)} {rest : List Value} (B : OK Z cc nL own R E md l) (hX : ZX Z b L xs) (hdg : decode cc pc = .ok (.arraylength, 1)) (kk : J Z cells slots ws (pc + 1) L0 (.int (nI L) :: rest)) : J Z cells slots ws pc L0 (.ref b :: rest) := by
  obtain ⟨p, l', e, R', s, m, args, below, meth, c, Q, E', nL', A, md'⟩ := Z
  obtain ⟨⟨hx, hb, hml, hown, hts⟩, hE, hA, rfl, rfl, rfl, rfl, rfl⟩ := B
  obtain ⟨h1, h2, h3⟩ := hX
  intro H locs ls hP hD hS hmd hl
  exact va_slen hx hb h1 h2 h3 hS hdg (kk H locs ls hP hD hS hmd hl)
theorem sR_cg {E : ED} {q : Nat → Nat} {s s' : Nat → Int32} {t t' : Nat → Nat → Int32} (h63 : s' 63 = s 63) (h64 : s' 64 = s 64) (h4 : t' 54 = t 54) (h5 : t' 55 = t 55) (h6 : t' 56 = t 56) (h7 : t' 57 = t 57) : sR E q s' t' = sR E q s t := by
  rw [sR, sR, h63, h64, h4, h5, h6, h7]
theorem RIS_cg {g : Nat → Int32} {a : Nat → Nat → Int32} {nc nv S : Nat} {s s' : Nat → Int32} {t t' : Nat → Nat → Int32} (h : RIS g a nc nv s t S) (h63 : s' 63 = s 63) (h64 : s' 64 = s 64) (h4 : t' 54 = t 54) (h5 : t' 55 = t 55) (h6 : t' 56 = t 56) (h7 : t' 57 = t 57) : RIS g a nc nv s' t' S := by
  obtain ⟨RS, SS, k1, k2, k3, k4, k5, k6, k7⟩ := h
  exact ⟨RS, SS, k1, k2, h63.trans k3, h64.trans k4, k5, by rw [h4, h5, h6]; exact k6, by rw [h7]; exact k7⟩
theorem MD_st {E : ED} {q : Nat → Nat} {g : Nat → Int32} {a : Nat → Nat → Int32} {nc nv : Nat} {s s' : Nat → Int32} {t t' : Nat → Nat → Int32} {RV : Value} {X : va_W} (h : MD E q g a nc nv s t RV X) (h63 : s' 63 = s 63) (h64 : s' 64 = s 64) (h4 : t' 54 = t 54) (h5 : t' 55 = t 55) (h6 : t' 56 = t 56) (h7 : t' 57 = t 57) : MD E q g a nc nv s' t' RV X := by
  rcases h with h | ⟨h1, h2, h3⟩
  · exact Or.inl h
  · exact Or.inr ⟨h1, h2.trans (sR_cg h63 h64 h4 h5 h6 h7).symm, RIS_cg h3 h63 h64 h4 h5 h6 h7⟩
/-- the routes forgotten, or all as before -/
theorem MD_re {E : ED} {q : Nat → Nat} {g g' : Nat → Int32} {a a' : Nat → Nat → Int32} {nc nc' nv : Nat} {s : Nat → Int32} {t : Nat → Nat → Int32} (hri : RIS g a nc nv s t 0) (w : Int32 × Int32) (h : (w = (s 63, s 64) ∧ RIS g' a' nc' nv s t 0) ∨ w = (0, 0)) : MD E q g' a' nc' nv (upd (upd s 63 w.1) 64 w.2) t (.ref (q 49)) (sR E q (upd (upd s 63 w.1) 64 w.2) t) := by
  rcases h with ⟨rfl, h⟩ | rfl
  · exact Or.inr ⟨rfl, rfl, RIS_cg h rfl rfl rfl rfl rfl rfl⟩
  · obtain ⟨RS, SS, k1, k2, k3, k4, k5, k6, k7⟩ := hri
    exact Or.inr ⟨rfl, rfl, 0, 0, Nat.two_pow_pos _, Nat.two_pow_pos _, rfl, rfl, Nat.zero_and _, RV0 _ _ _ _ _ _, SV0 (k7 0 (Nat.zero_and _))⟩
theorem RIS_b {g : Nat → Int32} {a : Nat → Nat → Int32} {nc nv : Nat} {s : Nat → Int32} {t : Nat → Nat → Int32} {x y : Int32} (hb1 : g 90 = a 9 10) (hb2 : g 91 = a 10 10) (e : upd (upd g 90 x) 91 y = g) (h : RIS g a nc nv s t 0) : RIS (upd (upd g 90 x) 91 y) (va_up (va_up a 9 (upd (a 9) 10 x)) 10 (upd (a 10) 10 y)) nc nv s t 0 := by
  have e1 : x = a 9 10 := Eq.trans (congrFun e 90) hb1
  have e2 : y = a 10 10 := Eq.trans (congrFun e 91) hb2
  have h9 : upd (a 9) 10 x = a 9 := funext fun j => by
    by_cases z : j = 10
    · subst z; rw [pk_us]; exact e1
    · rw [pk_un z]
  have h10 : upd (a 10) 10 y = a 10 := funext fun j => by
    by_cases z : j = 10
    · subst z; rw [pk_us]; exact e2
    · rw [pk_un z]
  have h3 : va_up (va_up a 9 (a 9)) 10 (a 10) = a := by
    funext k
    by_cases z : k = 10
    · subst z; simp [va_up]
    · by_cases z2 : k = 9
      · subst z2; simp [va_up]
      · simp [va_up, z, z2]
  rw [e, h9, h10, h3]
  exact h
/-- the law between two calls, and at the end of one -/
def LJ (Z : CX) (E : ED) (mo qc : Nat) (qm : Nat → Nat) (b k j pc : Nat) : Prop := ∀ (q : Nat → Nat) (g : Nat → Int32) (a : Nat → Nat → Int32) (s : Nat → Int32) (t : Nat → Nat → Int32) (RV : Value) (X : va_W) (np nv nc nl nm : Nat), q 40 = qc → IV g a np nv nc nl nm → MD E q g a nc nv s t RV X → J Z (100 + 5 * k) (20000 + 12418 * k) (mW E mo qm g a ++ cW E q g a s t RV X) pc [(0, .ref b), (1, .ref qc), (2, .ref mo), (3, .int (nI (6 * j)))] []
theorem rou_eq (g : Nat → Int32) (a : Nat → Nat → Int32) (nc nv : Nat) (x : Int32) : rouF (lgm g a nc nv) (g 19) nv (g 8) x = rndF g a nc nv x := rfl
theorem sto_eq (g : Nat → Int32) (a : Nat → Nat → Int32) (nc nv : Nat) (x p : Int32) : stoC (lgm g a nc nv) (g 19) nv (g 8) x p = stoF g a nc nv x p := rfl

set_option maxHeartbeats 4000000 in
set_option maxRecDepth 100000 in
theorem lw_c0 {Z : CX} {l : Launch} {E : ED} {b L : Nat} {xs : Nat → Int32} (B : OK Z cL_law 4 RL room_1 E false l) (hX : ZX Z b L xs) (hL : L ≤ 3072) {mo qc : Nat} {qm : Nat → Nat} {k : Nat} (hk : 6 * k + 6 ≤ L) (hp : PUREs) (NX : LJ Z E mo qc qm b (k + 1) k 1109) : LJ Z E mo qc qm b k k 156 := by
  intro q g a s t RV X np nv nc nl nm hq hI hM
  subst hq
  obtain ⟨hve, hle, hok, p5, p6, p7, p13, p16, p17, p20, p21, p25⟩ := hp g a np nv nc nl nm hI
  obtain ⟨⟨hn, hnp, hv, hnv, hc, hnc, hl, hnl, hm, hnm⟩, ip, ie1, ie2, hpt, ic, iw, ilog, imk, hb1, hb2⟩ := id hI
  refine i_aload_n B 1 dL_law_156 rfl ?_
  refine i_aload_n B 0 dL_law_157 rfl ?_
  refine i_iload_n B 3 dL_law_158 rfl ?_
  refine i_iconst (v := 1) B dL_law_159 (by decide) ?_
  refine i_iadd B dL_law_160 ?_
  refine i_sld B hX (6 * k + 1) (nI_add (6 * k) 1) (by omega) hL dL_law_161 ?_
  refine i_aload_n B 0 dL_law_162 rfl ?_
  refine i_iload_n B 3 dL_law_163 rfl ?_
  refine i_iconst (v := 2) B dL_law_164 (by decide) ?_
  refine i_iadd B dL_law_165 ?_
  refine i_sld B hX (6 * k + 2) (nI_add (6 * k) 2) (by omega) hL dL_law_166 ?_
  refine i_aload_n B 0 dL_law_167 rfl ?_
  refine i_iload_n B 3 dL_law_168 rfl ?_
  refine i_iconst (v := 3) B dL_law_169 (by decide) ?_
  refine i_iadd B dL_law_170 ?_
  refine i_sld B hX (6 * k + 3) (nI_add (6 * k) 3) (by omega) hL dL_law_171 ?_
  refine i_aload_n B 0 dL_law_172 rfl ?_
  refine i_iload_n B 3 dL_law_173 rfl ?_
  refine i_iconst (v := 4) B dL_law_174 (by decide) ?_
  refine i_iadd B dL_law_175 ?_
  refine i_sld B hX (6 * k + 4) (nI_add (6 * k) 4) (by omega) hL dL_law_176 ?_
  refine c_wiV (rest := []) (As := [.int (xs (6 * k + 1)), .int (xs (6 * k + 2)), .int (xs (6 * k + 3)), .int (xs (6 * k + 4))]) B (k_X8_panel l E q g a s t RV X np hn hnp (xs (6 * k + 1)) (xs (6 * k + 2)) (xs (6 * k + 3)) (xs (6 * k + 4))) cal_yX8_panel iv_yX8_panel mlL_13 rfl 27 rfl (by decide) ⟨by show _ ≤ 203390; omega, by show _ ≤ 8492080; omega⟩ rfl (Nat.le_of_ble_eq_true rfl) (mW E mo qm g a) [] (by rw [List.append_nil]) _ rfl dL_law_177 (fun r1 u1 h1 => ?_)
  refine i_world (ws' := mW E mo qm g a ++ cW E q u1.1 u1.2 s t RV X) (congrArg (mW E mo qm g a ++ ·) (List.append_nil _)) ?_
  refine i_aload_n B 2 dL_law_180 rfl ?_
  refine i_aload_n B 0 dL_law_181 rfl ?_
  refine i_iload_n B 3 dL_law_182 rfl ?_
  refine i_iconst (v := 1) B dL_law_183 (by decide) ?_
  refine i_iadd B dL_law_184 ?_
  refine i_sld B hX (6 * k + 1) (nI_add (6 * k) 1) (by omega) hL dL_law_185 ?_
  refine i_aload_n B 0 dL_law_186 rfl ?_
  refine i_iload_n B 3 dL_law_187 rfl ?_
  refine i_iconst (v := 2) B dL_law_188 (by decide) ?_
  refine i_iadd B dL_law_189 ?_
  refine i_sld B hX (6 * k + 2) (nI_add (6 * k) 2) (by omega) hL dL_law_190 ?_
  refine i_aload_n B 0 dL_law_191 rfl ?_
  refine i_iload_n B 3 dL_law_192 rfl ?_
  refine i_iconst (v := 3) B dL_law_193 (by decide) ?_
  refine i_iadd B dL_law_194 ?_
  refine i_sld B hX (6 * k + 3) (nI_add (6 * k) 3) (by omega) hL dL_law_195 ?_
  refine i_aload_n B 0 dL_law_196 rfl ?_
  refine i_iload_n B 3 dL_law_197 rfl ?_
  refine i_iconst (v := 4) B dL_law_198 (by decide) ?_
  refine i_iadd B dL_law_199 ?_
  refine i_sld B hX (6 * k + 4) (nI_add (6 * k) 4) (by omega) hL dL_law_200 ?_
  refine c_wiV (rest := [.int r1]) (As := [.int (xs (6 * k + 1)), .int (xs (6 * k + 2)), .int (xs (6 * k + 3)), .int (xs (6 * k + 4))]) B (k_X9_panel l E mo qm g a np hn hnp (xs (6 * k + 1)) (xs (6 * k + 2)) (xs (6 * k + 3)) (xs (6 * k + 4))) cal_yX9_panel iv_yX9_panel mlL_17 rfl 0 rfl (by decide) ⟨by show _ ≤ 203390; omega, by show _ ≤ 8492080; omega⟩ rfl (Nat.le_of_ble_eq_true rfl) [] (cW E q u1.1 u1.2 s t RV X) rfl _ rfl dL_law_201 (fun r2 u2 h2 => ?_)
  refine i_world (ws' := mW E mo qm u2.1 u2.2 ++ cW E q u1.1 u1.2 s t RV X) rfl ?_
  obtain ⟨rfl, rfl⟩ := Prod.mk.inj (Eq.trans h1 (Eq.symm h2))
  obtain ⟨np9, hI9⟩ := IV_panel hI h1
  refine i_icmp_eq B 1109 dL_law_204 (by decide) (fun _ => ?_) (fun h => absurd rfl h)
  refine i_widen (k := 100 + 5 * (k + 1)) (n := 20000 + 12418 * (k + 1)) (by omega) (by omega) ?_
  exact NX q u1.1 u1.2 s t RV X _ _ _ _ _ rfl hI9 ((KP_panel h1).md hM)

set_option maxHeartbeats 4000000 in
set_option maxRecDepth 100000 in
theorem lw_c1 {Z : CX} {l : Launch} {E : ED} {b L : Nat} {xs : Nat → Int32} (B : OK Z cL_law 4 RL room_1 E false l) (hX : ZX Z b L xs) (hL : L ≤ 3072) {mo qc : Nat} {qm : Nat → Nat} {k : Nat} (hk : 6 * k + 6 ≤ L) (hp : PUREs) (NX : LJ Z E mo qc qm b (k + 1) k 1109) : LJ Z E mo qc qm b k k 209 := by
  intro q g a s t RV X np nv nc nl nm hq hI hM
  subst hq
  obtain ⟨hve, hle, hok, p5, p6, p7, p13, p16, p17, p20, p21, p25⟩ := hp g a np nv nc nl nm hI
  obtain ⟨⟨hn, hnp, hv, hnv, hc, hnc, hl, hnl, hm, hnm⟩, ip, ie1, ie2, hpt, ic, iw, ilog, imk, hb1, hb2⟩ := id hI
  refine i_aload_n B 1 dL_law_209 rfl ?_
  refine i_aload_n B 0 dL_law_210 rfl ?_
  refine i_iload_n B 3 dL_law_211 rfl ?_
  refine i_iconst (v := 1) B dL_law_212 (by decide) ?_
  refine i_iadd B dL_law_213 ?_
  refine i_sld B hX (6 * k + 1) (nI_add (6 * k) 1) (by omega) hL dL_law_214 ?_
  refine i_aload_n B 0 dL_law_215 rfl ?_
  refine i_iload_n B 3 dL_law_216 rfl ?_
  refine i_iconst (v := 2) B dL_law_217 (by decide) ?_
  refine i_iadd B dL_law_218 ?_
  refine i_sld B hX (6 * k + 2) (nI_add (6 * k) 2) (by omega) hL dL_law_219 ?_
  refine c_wiV (rest := []) (As := [.int (xs (6 * k + 1)), .int (xs (6 * k + 2))]) B (k_X8_eye l E q g a s t RV X (xs (6 * k + 1)) (xs (6 * k + 2))) cal_yX8_eye iv_yX8_eye mlL_18 rfl 27 rfl (by decide) ⟨by show _ ≤ 203390; omega, by show _ ≤ 8492080; omega⟩ rfl (Nat.le_of_ble_eq_true rfl) (mW E mo qm g a) [] (by rw [List.append_nil]) _ rfl dL_law_220 (fun r1 u1 h1 => ?_)
  refine i_world (ws' := mW E mo qm g a ++ cW E q u1 a s t RV X) (congrArg (mW E mo qm g a ++ ·) (List.append_nil _)) ?_
  refine i_aload_n B 2 dL_law_223 rfl ?_
  refine i_aload_n B 0 dL_law_224 rfl ?_
  refine i_iload_n B 3 dL_law_225 rfl ?_
  refine i_iconst (v := 1) B dL_law_226 (by decide) ?_
  refine i_iadd B dL_law_227 ?_
  refine i_sld B hX (6 * k + 1) (nI_add (6 * k) 1) (by omega) hL dL_law_228 ?_
  refine i_aload_n B 0 dL_law_229 rfl ?_
  refine i_iload_n B 3 dL_law_230 rfl ?_
  refine i_iconst (v := 2) B dL_law_231 (by decide) ?_
  refine i_iadd B dL_law_232 ?_
  refine i_sld B hX (6 * k + 2) (nI_add (6 * k) 2) (by omega) hL dL_law_233 ?_
  refine c_wiV (rest := [.int r1]) (As := [.int (xs (6 * k + 1)), .int (xs (6 * k + 2))]) B (k_X9_eye l E mo qm g a  (xs (6 * k + 1)) (xs (6 * k + 2))) cal_yX9_eye iv_yX9_eye mlL_22 rfl 0 rfl (by decide) ⟨by show _ ≤ 203390; omega, by show _ ≤ 8492080; omega⟩ rfl (Nat.le_of_ble_eq_true rfl) [] (cW E q u1 a s t RV X) rfl _ rfl dL_law_234 (fun r2 u2 h2 => ?_)
  refine i_world (ws' := mW E mo qm u2 a ++ cW E q u1 a s t RV X) rfl ?_
  obtain ⟨rfl, rfl⟩ := Prod.mk.inj (Eq.trans h1 (Eq.symm h2))
  refine i_icmp_eq B 1109 dL_law_237 (by decide) (fun _ => ?_) (fun h => absurd rfl h)
  refine i_widen (k := 100 + 5 * (k + 1)) (n := 20000 + 12418 * (k + 1)) (by omega) (by omega) ?_
  exact NX q u1 a s t RV X _ _ _ _ _ rfl (IV_eye hI h1) ((KP_eye (a := a) h1).md hM)

set_option maxHeartbeats 4000000 in
set_option maxRecDepth 100000 in
theorem lw_c2 {Z : CX} {l : Launch} {E : ED} {b L : Nat} {xs : Nat → Int32} (B : OK Z cL_law 4 RL room_1 E false l) (hX : ZX Z b L xs) (hL : L ≤ 3072) {mo qc : Nat} {qm : Nat → Nat} {k : Nat} (hk : 6 * k + 6 ≤ L) (hp : PUREs) (NX : LJ Z E mo qc qm b (k + 1) k 1109) : LJ Z E mo qc qm b k k 242 := by
  intro q g a s t RV X np nv nc nl nm hq hI hM
  subst hq
  obtain ⟨hve, hle, hok, p5, p6, p7, p13, p16, p17, p20, p21, p25⟩ := hp g a np nv nc nl nm hI
  obtain ⟨⟨hn, hnp, hv, hnv, hc, hnc, hl, hnl, hm, hnm⟩, ip, ie1, ie2, hpt, ic, iw, ilog, imk, hb1, hb2⟩ := id hI
  refine i_aload_n B 1 dL_law_242 rfl ?_
  refine i_aload_n B 0 dL_law_243 rfl ?_
  refine i_iload_n B 3 dL_law_244 rfl ?_
  refine i_iconst (v := 1) B dL_law_245 (by decide) ?_
  refine i_iadd B dL_law_246 ?_
  refine i_sld B hX (6 * k + 1) (nI_add (6 * k) 1) (by omega) hL dL_law_247 ?_
  refine i_aload_n B 0 dL_law_248 rfl ?_
  refine i_iload_n B 3 dL_law_249 rfl ?_
  refine i_iconst (v := 2) B dL_law_250 (by decide) ?_
  refine i_iadd B dL_law_251 ?_
  refine i_sld B hX (6 * k + 2) (nI_add (6 * k) 2) (by omega) hL dL_law_252 ?_
  refine c_wiV (rest := []) (As := [.int (xs (6 * k + 1)), .int (xs (6 * k + 2))]) B (k_X8_view l E q g a s t RV X nv hv hnv (xs (6 * k + 1)) (xs (6 * k + 2))) cal_yX8_view iv_yX8_view mlL_23 rfl 27 rfl (by decide) ⟨by show _ ≤ 203390; omega, by show _ ≤ 8492080; omega⟩ rfl (Nat.le_of_ble_eq_true rfl) (mW E mo qm g a) [] (by rw [List.append_nil]) _ rfl dL_law_253 (fun r1 u1 h1 => ?_)
  refine i_world (ws' := mW E mo qm g a ++ cW E q u1.1 u1.2 s t RV X) (congrArg (mW E mo qm g a ++ ·) (List.append_nil _)) ?_
  refine i_aload_n B 2 dL_law_256 rfl ?_
  refine i_aload_n B 0 dL_law_257 rfl ?_
  refine i_iload_n B 3 dL_law_258 rfl ?_
  refine i_iconst (v := 1) B dL_law_259 (by decide) ?_
  refine i_iadd B dL_law_260 ?_
  refine i_sld B hX (6 * k + 1) (nI_add (6 * k) 1) (by omega) hL dL_law_261 ?_
  refine i_aload_n B 0 dL_law_262 rfl ?_
  refine i_iload_n B 3 dL_law_263 rfl ?_
  refine i_iconst (v := 2) B dL_law_264 (by decide) ?_
  refine i_iadd B dL_law_265 ?_
  refine i_sld B hX (6 * k + 2) (nI_add (6 * k) 2) (by omega) hL dL_law_266 ?_
  refine c_wiV (rest := [.int r1]) (As := [.int (xs (6 * k + 1)), .int (xs (6 * k + 2))]) B (k_X9_view l E mo qm g a nv hv hnv (xs (6 * k + 1)) (xs (6 * k + 2))) cal_yX9_view iv_yX9_view mlL_26 rfl 0 rfl (by decide) ⟨by show _ ≤ 203390; omega, by show _ ≤ 8492080; omega⟩ rfl (Nat.le_of_ble_eq_true rfl) [] (cW E q u1.1 u1.2 s t RV X) rfl _ rfl dL_law_267 (fun r2 u2 h2 => ?_)
  refine i_world (ws' := mW E mo qm u2.1 u2.2 ++ cW E q u1.1 u1.2 s t RV X) rfl ?_
  obtain ⟨rfl, rfl⟩ := Prod.mk.inj (Eq.trans h1 (Eq.symm h2))
  obtain ⟨nv9, -, hc9, hI9⟩ := IV_view hI h1
  rcases hc9 with ⟨rfl, rfl⟩ | ⟨hlt, rfl, rfl⟩
  · refine i_icmp_eq B 1109 dL_law_270 (by decide) (fun _ => ?_) (fun h => absurd rfl h)
    refine i_widen (k := 100 + 5 * (k + 1)) (n := 20000 + 12418 * (k + 1)) (by omega) (by omega) ?_
    exact NX q g a s t RV X _ _ _ _ _ rfl hI hM
  · refine i_icmp_eq B 1109 dL_law_270 (by decide) (fun _ => ?_) (fun h => absurd rfl h)
    refine i_widen (k := 100 + 5 * (k + 1)) (n := 20000 + 12418 * (k + 1)) (by omega) (by omega) ?_
    exact NX q _ _ s t RV X _ _ _ _ _ rfl hI9 (MD_view _ _ hlt hM)

set_option maxHeartbeats 4000000 in
set_option maxRecDepth 100000 in
theorem lw_c3 {Z : CX} {l : Launch} {E : ED} {b L : Nat} {xs : Nat → Int32} (B : OK Z cL_law 4 RL room_1 E false l) (hX : ZX Z b L xs) (hL : L ≤ 3072) {mo qc : Nat} {qm : Nat → Nat} {k : Nat} (hk : 6 * k + 6 ≤ L) (hp : PUREs) (NX : LJ Z E mo qc qm b (k + 1) k 1109) : LJ Z E mo qc qm b k k 275 := by
  intro q g a s t RV X np nv nc nl nm hq hI hM
  subst hq
  obtain ⟨hve, hle, hok, p5, p6, p7, p13, p16, p17, p20, p21, p25⟩ := hp g a np nv nc nl nm hI
  obtain ⟨⟨hn, hnp, hv, hnv, hc, hnc, hl, hnl, hm, hnm⟩, ip, ie1, ie2, hpt, ic, iw, ilog, imk, hb1, hb2⟩ := id hI
  refine i_aload_n B 1 dL_law_275 rfl ?_
  refine i_aload_n B 0 dL_law_276 rfl ?_
  refine i_iload_n B 3 dL_law_277 rfl ?_
  refine i_iconst (v := 1) B dL_law_278 (by decide) ?_
  refine i_iadd B dL_law_279 ?_
  refine i_sld B hX (6 * k + 1) (nI_add (6 * k) 1) (by omega) hL dL_law_280 ?_
  refine i_aload_n B 0 dL_law_281 rfl ?_
  refine i_iload_n B 3 dL_law_282 rfl ?_
  refine i_iconst (v := 2) B dL_law_283 (by decide) ?_
  refine i_iadd B dL_law_284 ?_
  refine i_sld B hX (6 * k + 2) (nI_add (6 * k) 2) (by omega) hL dL_law_285 ?_
  refine i_aload_n B 0 dL_law_286 rfl ?_
  refine i_iload_n B 3 dL_law_287 rfl ?_
  refine i_iconst (v := 3) B dL_law_288 (by decide) ?_
  refine i_iadd B dL_law_289 ?_
  refine i_sld B hX (6 * k + 3) (nI_add (6 * k) 3) (by omega) hL dL_law_290 ?_
  refine c_roV (rest := []) (As := [.int (xs (6 * k + 1)), .int (xs (6 * k + 2)), .int (xs (6 * k + 3))]) B (k_X8_seen l E q g a s t RV X np hn hnp hve (xs (6 * k + 1)) (xs (6 * k + 2)) (xs (6 * k + 3))) cal_yX8_seen iv_yX8_seen mlL_27 rfl 27 rfl (by decide) ⟨by show _ ≤ 203390; omega, by show _ ≤ 8492080; omega⟩ rfl (Nat.le_of_ble_eq_true rfl) (Has.mid (mW E mo qm g a) [] (by rw [List.append_nil])) _ rfl dL_law_291 (fun r1 h1 => ?_)
  refine i_aload_n B 2 dL_law_294 rfl ?_
  refine i_aload_n B 0 dL_law_295 rfl ?_
  refine i_iload_n B 3 dL_law_296 rfl ?_
  refine i_iconst (v := 1) B dL_law_297 (by decide) ?_
  refine i_iadd B dL_law_298 ?_
  refine i_sld B hX (6 * k + 1) (nI_add (6 * k) 1) (by omega) hL dL_law_299 ?_
  refine i_aload_n B 0 dL_law_300 rfl ?_
  refine i_iload_n B 3 dL_law_301 rfl ?_
  refine i_iconst (v := 2) B dL_law_302 (by decide) ?_
  refine i_iadd B dL_law_303 ?_
  refine i_sld B hX (6 * k + 2) (nI_add (6 * k) 2) (by omega) hL dL_law_304 ?_
  refine i_aload_n B 0 dL_law_305 rfl ?_
  refine i_iload_n B 3 dL_law_306 rfl ?_
  refine i_iconst (v := 3) B dL_law_307 (by decide) ?_
  refine i_iadd B dL_law_308 ?_
  refine i_sld B hX (6 * k + 3) (nI_add (6 * k) 3) (by omega) hL dL_law_309 ?_
  refine c_wiV (rest := [.int r1]) (As := [.int (xs (6 * k + 1)), .int (xs (6 * k + 2)), .int (xs (6 * k + 3))]) B (k_X9_seen l E mo qm g a np hn hnp (xs (6 * k + 1)) (xs (6 * k + 2)) (xs (6 * k + 3))) cal_yX9_seen iv_yX9_seen mlL_31 rfl 0 rfl (by decide) ⟨by show _ ≤ 203390; omega, by show _ ≤ 8492080; omega⟩ rfl (Nat.le_of_ble_eq_true rfl) [] (cW E q g a s t RV X) rfl _ rfl dL_law_310 (fun r2 _ h2 => ?_)
  refine i_world (ws' := mW E mo qm g a ++ cW E q g a s t RV X) rfl ?_
  have e9 := Eq.trans h1 (Eq.symm h2)
  subst e9
  refine i_icmp_eq B 1109 dL_law_313 (by decide) (fun _ => ?_) (fun h => absurd rfl h)
  refine i_widen (k := 100 + 5 * (k + 1)) (n := 20000 + 12418 * (k + 1)) (by omega) (by omega) ?_
  exact NX q g a s t RV X _ _ _ _ _ rfl hI hM

set_option maxHeartbeats 4000000 in
set_option maxRecDepth 100000 in
theorem lw_c4 {Z : CX} {l : Launch} {E : ED} {b L : Nat} {xs : Nat → Int32} (B : OK Z cL_law 4 RL room_1 E false l) (hX : ZX Z b L xs) (hL : L ≤ 3072) {mo qc : Nat} {qm : Nat → Nat} {k : Nat} (hk : 6 * k + 6 ≤ L) (hp : PUREs) (NX : LJ Z E mo qc qm b (k + 1) k 1109) : LJ Z E mo qc qm b k k 318 := by
  intro q g a s t RV X np nv nc nl nm hq hI hM
  subst hq
  obtain ⟨hve, hle, hok, p5, p6, p7, p13, p16, p17, p20, p21, p25⟩ := hp g a np nv nc nl nm hI
  obtain ⟨⟨hn, hnp, hv, hnv, hc, hnc, hl, hnl, hm, hnm⟩, ip, ie1, ie2, hpt, ic, iw, ilog, imk, hb1, hb2⟩ := id hI
  refine i_aload_n B 1 dL_law_318 rfl ?_
  refine i_aload_n B 0 dL_law_319 rfl ?_
  refine i_iload_n B 3 dL_law_320 rfl ?_
  refine i_iconst (v := 1) B dL_law_321 (by decide) ?_
  refine i_iadd B dL_law_322 ?_
  refine i_sld B hX (6 * k + 1) (nI_add (6 * k) 1) (by omega) hL dL_law_323 ?_
  refine c_roV (rest := []) (As := [.int (xs (6 * k + 1))]) B (k_X8_sees l E q g a s t RV X np hn hnp nv hv hnv hve (fun v9 h9 => hpt v9 (by simp [thr, h9])) (xs (6 * k + 1))) cal_yX8_sees iv_yX8_sees mlL_32 rfl 27 rfl (by decide) ⟨by show _ ≤ 203390; omega, by show _ ≤ 8492080; omega⟩ rfl (Nat.le_of_ble_eq_true rfl) (Has.mid (mW E mo qm g a) [] (by rw [List.append_nil])) _ rfl dL_law_324 (fun r1 h1 => ?_)
  refine i_aload_n B 2 dL_law_327 rfl ?_
  refine i_aload_n B 0 dL_law_328 rfl ?_
  refine i_iload_n B 3 dL_law_329 rfl ?_
  refine i_iconst (v := 1) B dL_law_330 (by decide) ?_
  refine i_iadd B dL_law_331 ?_
  refine i_sld B hX (6 * k + 1) (nI_add (6 * k) 1) (by omega) hL dL_law_332 ?_
  refine c_wiV (rest := [.int r1]) (As := [.int (xs (6 * k + 1))]) B (k_X9_sees l E mo qm g a np hn hnp nv hv hnv (xs (6 * k + 1))) cal_yX9_sees iv_yX9_sees mlL_36 rfl 0 rfl (by decide) ⟨by show _ ≤ 203390; omega, by show _ ≤ 8492080; omega⟩ rfl (Nat.le_of_ble_eq_true rfl) [] (cW E q g a s t RV X) rfl _ rfl dL_law_333 (fun r2 _ h2 => ?_)
  refine i_world (ws' := mW E mo qm g a ++ cW E q g a s t RV X) rfl ?_
  have e9 := Eq.trans h1 (Eq.symm h2)
  subst e9
  refine i_icmp_eq B 1109 dL_law_336 (by decide) (fun _ => ?_) (fun h => absurd rfl h)
  refine i_widen (k := 100 + 5 * (k + 1)) (n := 20000 + 12418 * (k + 1)) (by omega) (by omega) ?_
  exact NX q g a s t RV X _ _ _ _ _ rfl hI hM

set_option maxHeartbeats 4000000 in
set_option maxRecDepth 100000 in
theorem lw_c5 {Z : CX} {l : Launch} {E : ED} {b L : Nat} {xs : Nat → Int32} (B : OK Z cL_law 4 RL room_1 E false l) (hX : ZX Z b L xs) (hL : L ≤ 3072) {mo qc : Nat} {qm : Nat → Nat} {k : Nat} (hk : 6 * k + 6 ≤ L) (hp : PUREs) (NX : LJ Z E mo qc qm b (k + 1) k 1109) : LJ Z E mo qc qm b k k 341 := by
  intro q g a s t RV X np nv nc nl nm hq hI hM
  subst hq
  obtain ⟨hve, hle, hok, p5, p6, p7, p13, p16, p17, p20, p21, p25⟩ := hp g a np nv nc nl nm hI
  obtain ⟨⟨hn, hnp, hv, hnv, hc, hnc, hl, hnl, hm, hnm⟩, ip, ie1, ie2, hpt, ic, iw, ilog, imk, hb1, hb2⟩ := id hI
  refine i_aload_n B 1 dL_law_341 rfl ?_
  refine i_aload_n B 0 dL_law_342 rfl ?_
  refine i_iload_n B 3 dL_law_343 rfl ?_
  refine i_iconst (v := 1) B dL_law_344 (by decide) ?_
  refine i_iadd B dL_law_345 ?_
  refine i_sld B hX (6 * k + 1) (nI_add (6 * k) 1) (by omega) hL dL_law_346 ?_
  refine c_wiV (rest := []) (As := [.int (xs (6 * k + 1))]) B (k_X8_cover l E q g a s t RV X np hn hnp nv hv hnv hve (fun v9 h9 => hpt v9 (by simp [thr, h9])) (xs (6 * k + 1))) cal_yX8_cover iv_yX8_cover mlL_37 rfl 27 rfl (by decide) ⟨by show _ ≤ 203390; omega, by show _ ≤ 8492080; omega⟩ rfl (Nat.le_of_ble_eq_true rfl) (mW E mo qm g a) [] (by rw [List.append_nil]) _ rfl dL_law_347 (fun r1 u1 h1 => ?_)
  refine i_world (ws' := mW E mo qm g a ++ cW E q g a (upd s 60 u1.1) (va_up t 50 u1.2) RV X) (congrArg (mW E mo qm g a ++ ·) (List.append_nil _)) ?_
  refine i_aload_n B 2 dL_law_350 rfl ?_
  refine i_aload_n B 0 dL_law_351 rfl ?_
  refine i_iload_n B 3 dL_law_352 rfl ?_
  refine i_iconst (v := 1) B dL_law_353 (by decide) ?_
  refine i_iadd B dL_law_354 ?_
  refine i_sld B hX (6 * k + 1) (nI_add (6 * k) 1) (by omega) hL dL_law_355 ?_
  refine c_wiV (rest := [.int r1]) (As := [.int (xs (6 * k + 1))]) B (k_X9_cover l E mo qm g a np hn hnp nv hv hnv (xs (6 * k + 1))) cal_yX9_cover iv_yX9_cover mlL_40 rfl 0 rfl (by decide) ⟨by show _ ≤ 203390; omega, by show _ ≤ 8492080; omega⟩ rfl (Nat.le_of_ble_eq_true rfl) [] (cW E q g a (upd s 60 u1.1) (va_up t 50 u1.2) RV X) rfl _ rfl dL_law_356 (fun r2 u2 h2 => ?_)
  refine i_world (ws' := mW E mo qm g (va_up a 34 u2) ++ cW E q g a (upd s 60 u1.1) (va_up t 50 u1.2) RV X) rfl ?_
  have e9 := Eq.trans h1 (Eq.trans (p5 _) (Eq.symm h2))
  subst e9
  refine i_world (ws' := mW E mo qm g (va_up a 34 u2) ++ cW E q g (va_up a 34 u2) (upd s 60 u1.1) (va_up t 50 u1.2) RV X) rfl ?_
  refine i_icmp_eq B 1109 dL_law_359 (by decide) (fun _ => ?_) (fun h => absurd rfl h)
  refine i_widen (k := 100 + 5 * (k + 1)) (n := 20000 + 12418 * (k + 1)) (by omega) (by omega) ?_
  exact NX q g (va_up a 34 u2) (upd s 60 u1.1) (va_up t 50 u1.2) RV X _ _ _ _ _ rfl (show IV g (va_up a 34 u2) np nv nc nl nm from hI) (MD_cg (MD_st hM rfl rfl rfl rfl rfl rfl) rfl rfl rfl rfl rfl rfl rfl rfl rfl rfl)

set_option maxHeartbeats 4000000 in
set_option maxRecDepth 100000 in
theorem lw_c6 {Z : CX} {l : Launch} {E : ED} {b L : Nat} {xs : Nat → Int32} (B : OK Z cL_law 4 RL room_1 E false l) (hX : ZX Z b L xs) (hL : L ≤ 3072) {mo qc : Nat} {qm : Nat → Nat} {k : Nat} (hk : 6 * k + 6 ≤ L) (hp : PUREs) (NX : LJ Z E mo qc qm b (k + 1) k 1109) : LJ Z E mo qc qm b k k 364 := by
  intro q g a s t RV X np nv nc nl nm hq hI hM
  subst hq
  obtain ⟨hve, hle, hok, p5, p6, p7, p13, p16, p17, p20, p21, p25⟩ := hp g a np nv nc nl nm hI
  obtain ⟨⟨hn, hnp, hv, hnv, hc, hnc, hl, hnl, hm, hnm⟩, ip, ie1, ie2, hpt, ic, iw, ilog, imk, hb1, hb2⟩ := id hI
  refine i_aload_n B 1 dL_law_364 rfl ?_
  refine i_aload_n B 0 dL_law_365 rfl ?_
  refine i_iload_n B 3 dL_law_366 rfl ?_
  refine i_iconst (v := 1) B dL_law_367 (by decide) ?_
  refine i_iadd B dL_law_368 ?_
  refine i_sld B hX (6 * k + 1) (nI_add (6 * k) 1) (by omega) hL dL_law_369 ?_
  refine i_aload_n B 0 dL_law_370 rfl ?_
  refine i_iload_n B 3 dL_law_371 rfl ?_
  refine i_iconst (v := 2) B dL_law_372 (by decide) ?_
  refine i_iadd B dL_law_373 ?_
  refine i_sld B hX (6 * k + 2) (nI_add (6 * k) 2) (by omega) hL dL_law_374 ?_
  refine c_wiV (rest := []) (As := [.int (xs (6 * k + 1)), .int (xs (6 * k + 2))]) B (k_X8_covers l E q g a s t RV X np hn hnp nv hv hnv hve (fun v9 h9 => hpt v9 (by simp [thr, h9])) (xs (6 * k + 1)) (xs (6 * k + 2))) cal_yX8_covers iv_yX8_covers mlL_41 rfl 27 rfl (by decide) ⟨by show _ ≤ 203390; omega, by show _ ≤ 8492080; omega⟩ rfl (Nat.le_of_ble_eq_true rfl) (mW E mo qm g a) [] (by rw [List.append_nil]) _ rfl dL_law_375 (fun r1 u1 h1 => ?_)
  refine i_world (ws' := mW E mo qm g a ++ cW E q g a (upd s 60 u1.1) (va_up t 50 u1.2) RV X) (congrArg (mW E mo qm g a ++ ·) (List.append_nil _)) ?_
  refine i_aload_n B 2 dL_law_378 rfl ?_
  refine i_aload_n B 0 dL_law_379 rfl ?_
  refine i_iload_n B 3 dL_law_380 rfl ?_
  refine i_iconst (v := 1) B dL_law_381 (by decide) ?_
  refine i_iadd B dL_law_382 ?_
  refine i_sld B hX (6 * k + 1) (nI_add (6 * k) 1) (by omega) hL dL_law_383 ?_
  refine i_aload_n B 0 dL_law_384 rfl ?_
  refine i_iload_n B 3 dL_law_385 rfl ?_
  refine i_iconst (v := 2) B dL_law_386 (by decide) ?_
  refine i_iadd B dL_law_387 ?_
  refine i_sld B hX (6 * k + 2) (nI_add (6 * k) 2) (by omega) hL dL_law_388 ?_
  refine c_wiV (rest := [.int r1]) (As := [.int (xs (6 * k + 1)), .int (xs (6 * k + 2))]) B (k_X9_covers l E mo qm g a np hn hnp nv hv hnv (xs (6 * k + 1)) (xs (6 * k + 2))) cal_yX9_covers iv_yX9_covers mlL_44 rfl 0 rfl (by decide) ⟨by show _ ≤ 203390; omega, by show _ ≤ 8492080; omega⟩ rfl (Nat.le_of_ble_eq_true rfl) [] (cW E q g a (upd s 60 u1.1) (va_up t 50 u1.2) RV X) rfl _ rfl dL_law_389 (fun r2 u2 h2 => ?_)
  refine i_world (ws' := mW E mo qm g (va_up a 34 u2) ++ cW E q g a (upd s 60 u1.1) (va_up t 50 u1.2) RV X) rfl ?_
  have e9 := Eq.trans h1 (Eq.trans (p6 _ _) (Eq.symm h2))
  subst e9
  refine i_world (ws' := mW E mo qm g (va_up a 34 u2) ++ cW E q g (va_up a 34 u2) (upd s 60 u1.1) (va_up t 50 u1.2) RV X) rfl ?_
  refine i_icmp_eq B 1109 dL_law_392 (by decide) (fun _ => ?_) (fun h => absurd rfl h)
  refine i_widen (k := 100 + 5 * (k + 1)) (n := 20000 + 12418 * (k + 1)) (by omega) (by omega) ?_
  exact NX q g (va_up a 34 u2) (upd s 60 u1.1) (va_up t 50 u1.2) RV X _ _ _ _ _ rfl (show IV g (va_up a 34 u2) np nv nc nl nm from hI) (MD_cg (MD_st hM rfl rfl rfl rfl rfl rfl) rfl rfl rfl rfl rfl rfl rfl rfl rfl rfl)

set_option maxHeartbeats 4000000 in
set_option maxRecDepth 100000 in
theorem lw_c7 {Z : CX} {l : Launch} {E : ED} {b L : Nat} {xs : Nat → Int32} (B : OK Z cL_law 4 RL room_1 E false l) (hX : ZX Z b L xs) (hL : L ≤ 3072) {mo qc : Nat} {qm : Nat → Nat} {k : Nat} (hk : 6 * k + 6 ≤ L) (hp : PUREs) (NX : LJ Z E mo qc qm b (k + 1) k 1109) : LJ Z E mo qc qm b k k 397 := by
  intro q g a s t RV X np nv nc nl nm hq hI hM
  subst hq
  obtain ⟨hve, hle, hok, p5, p6, p7, p13, p16, p17, p20, p21, p25⟩ := hp g a np nv nc nl nm hI
  obtain ⟨⟨hn, hnp, hv, hnv, hc, hnc, hl, hnl, hm, hnm⟩, ip, ie1, ie2, hpt, ic, iw, ilog, imk, hb1, hb2⟩ := id hI
  refine i_aload_n B 1 dL_law_397 rfl ?_
  refine i_aload_n B 0 dL_law_398 rfl ?_
  refine i_iload_n B 3 dL_law_399 rfl ?_
  refine i_iconst (v := 1) B dL_law_400 (by decide) ?_
  refine i_iadd B dL_law_401 ?_
  refine i_sld B hX (6 * k + 1) (nI_add (6 * k) 1) (by omega) hL dL_law_402 ?_
  refine c_wiV (rest := []) (As := [.int (xs (6 * k + 1))]) B (k_X8_times l E q g a s t RV X np hn hnp nv hv hnv hve (fun v9 h9 => hpt v9 (by simp [thr, h9])) (xs (6 * k + 1))) cal_yX8_times iv_yX8_times mlL_45 rfl 27 rfl (by decide) ⟨by show _ ≤ 203390; omega, by show _ ≤ 8492080; omega⟩ rfl (Nat.le_of_ble_eq_true rfl) (mW E mo qm g a) [] (by rw [List.append_nil]) _ rfl dL_law_403 (fun r1 u1 h1 => ?_)
  refine i_world (ws' := mW E mo qm g a ++ cW E q g a (upd s 60 u1.1) (va_up t 50 u1.2) RV X) (congrArg (mW E mo qm g a ++ ·) (List.append_nil _)) ?_
  refine i_aload_n B 2 dL_law_406 rfl ?_
  refine i_aload_n B 0 dL_law_407 rfl ?_
  refine i_iload_n B 3 dL_law_408 rfl ?_
  refine i_iconst (v := 1) B dL_law_409 (by decide) ?_
  refine i_iadd B dL_law_410 ?_
  refine i_sld B hX (6 * k + 1) (nI_add (6 * k) 1) (by omega) hL dL_law_411 ?_
  refine c_wiV (rest := [.int r1]) (As := [.int (xs (6 * k + 1))]) B (k_X9_times l E mo qm g a np hn hnp nv hv hnv (xs (6 * k + 1))) cal_yX9_times iv_yX9_times mlL_48 rfl 0 rfl (by decide) ⟨by show _ ≤ 203390; omega, by show _ ≤ 8492080; omega⟩ rfl (Nat.le_of_ble_eq_true rfl) [] (cW E q g a (upd s 60 u1.1) (va_up t 50 u1.2) RV X) rfl _ rfl dL_law_412 (fun r2 u2 h2 => ?_)
  refine i_world (ws' := mW E mo qm g (va_up a 34 u2) ++ cW E q g a (upd s 60 u1.1) (va_up t 50 u1.2) RV X) rfl ?_
  have e9 := Eq.trans h1 (Eq.trans (p7 _) (Eq.symm h2))
  subst e9
  refine i_world (ws' := mW E mo qm g (va_up a 34 u2) ++ cW E q g (va_up a 34 u2) (upd s 60 u1.1) (va_up t 50 u1.2) RV X) rfl ?_
  refine i_icmp_eq B 1109 dL_law_415 (by decide) (fun _ => ?_) (fun h => absurd rfl h)
  refine i_widen (k := 100 + 5 * (k + 1)) (n := 20000 + 12418 * (k + 1)) (by omega) (by omega) ?_
  exact NX q g (va_up a 34 u2) (upd s 60 u1.1) (va_up t 50 u1.2) RV X _ _ _ _ _ rfl (show IV g (va_up a 34 u2) np nv nc nl nm from hI) (MD_cg (MD_st hM rfl rfl rfl rfl rfl rfl) rfl rfl rfl rfl rfl rfl rfl rfl rfl rfl)

set_option maxHeartbeats 4000000 in
set_option maxRecDepth 100000 in
theorem lw_c8 {Z : CX} {l : Launch} {E : ED} {b L : Nat} {xs : Nat → Int32} (B : OK Z cL_law 4 RL room_1 E false l) (hX : ZX Z b L xs) (hL : L ≤ 3072) {mo qc : Nat} {qm : Nat → Nat} {k : Nat} (hk : 6 * k + 6 ≤ L) (hp : PUREs) (NX : LJ Z E mo qc qm b (k + 1) k 1109) : LJ Z E mo qc qm b k k 420 := by
  intro q g a s t RV X np nv nc nl nm hq hI hM
  subst hq
  obtain ⟨hve, hle, hok, p5, p6, p7, p13, p16, p17, p20, p21, p25⟩ := hp g a np nv nc nl nm hI
  obtain ⟨⟨hn, hnp, hv, hnv, hc, hnc, hl, hnl, hm, hnm⟩, ip, ie1, ie2, hpt, ic, iw, ilog, imk, hb1, hb2⟩ := id hI
  rcases hM with ⟨rfl, rfl⟩ | ⟨rfl, rfl, hri⟩
  · refine i_aload_n B 1 dL_law_420 rfl ?_
    refine i_aload_n B 0 dL_law_421 rfl ?_
    refine i_iload_n B 3 dL_law_422 rfl ?_
    refine i_iconst (v := 1) B dL_law_423 (by decide) ?_
    refine i_iadd B dL_law_424 ?_
    refine i_sld B hX (6 * k + 1) (nI_add (6 * k) 1) (by omega) hL dL_law_425 ?_
    refine i_aload_n B 0 dL_law_426 rfl ?_
    refine i_iload_n B 3 dL_law_427 rfl ?_
    refine i_iconst (v := 2) B dL_law_428 (by decide) ?_
    refine i_iadd B dL_law_429 ?_
    refine i_sld B hX (6 * k + 2) (nI_add (6 * k) 2) (by omega) hL dL_law_430 ?_
    refine i_aload_n B 0 dL_law_431 rfl ?_
    refine i_iload_n B 3 dL_law_432 rfl ?_
    refine i_iconst (v := 3) B dL_law_433 (by decide) ?_
    refine i_iadd B dL_law_434 ?_
    refine i_sld B hX (6 * k + 3) (nI_add (6 * k) 3) (by omega) hL dL_law_435 ?_
    refine i_aload_n B 0 dL_law_436 rfl ?_
    refine i_iload_n B 3 dL_law_437 rfl ?_
    refine i_iconst (v := 4) B dL_law_438 (by decide) ?_
    refine i_iadd B dL_law_439 ?_
    refine i_sld B hX (6 * k + 4) (nI_add (6 * k) 4) (by omega) hL dL_law_440 ?_
    refine c_wiV (rest := []) (As := [.int (xs (6 * k + 1)), .int (xs (6 * k + 2)), .int (xs (6 * k + 3)), .int (xs (6 * k + 4))]) B (k_X8_closeN l E q g a s t nc hc hnc (xs (6 * k + 1)) (xs (6 * k + 2)) (xs (6 * k + 3)) (xs (6 * k + 4))) cal_yX8_close iv_yX8_close mlL_49 rfl 27 rfl (by decide) ⟨by show _ ≤ 203390; omega, by show _ ≤ 8492080; omega⟩ rfl (Nat.le_of_ble_eq_true rfl) (mW E mo qm g a) [] (by rw [List.append_nil]) _ rfl dL_law_441 (fun r1 u1 h1 => ?_)
    refine i_world (ws' := mW E mo qm g a ++ cW E q u1.1 u1.2 s t .null []) (congrArg (mW E mo qm g a ++ ·) (List.append_nil _)) ?_
    refine i_aload_n B 2 dL_law_444 rfl ?_
    refine i_aload_n B 0 dL_law_445 rfl ?_
    refine i_iload_n B 3 dL_law_446 rfl ?_
    refine i_iconst (v := 1) B dL_law_447 (by decide) ?_
    refine i_iadd B dL_law_448 ?_
    refine i_sld B hX (6 * k + 1) (nI_add (6 * k) 1) (by omega) hL dL_law_449 ?_
    refine i_aload_n B 0 dL_law_450 rfl ?_
    refine i_iload_n B 3 dL_law_451 rfl ?_
    refine i_iconst (v := 2) B dL_law_452 (by decide) ?_
    refine i_iadd B dL_law_453 ?_
    refine i_sld B hX (6 * k + 2) (nI_add (6 * k) 2) (by omega) hL dL_law_454 ?_
    refine i_aload_n B 0 dL_law_455 rfl ?_
    refine i_iload_n B 3 dL_law_456 rfl ?_
    refine i_iconst (v := 3) B dL_law_457 (by decide) ?_
    refine i_iadd B dL_law_458 ?_
    refine i_sld B hX (6 * k + 3) (nI_add (6 * k) 3) (by omega) hL dL_law_459 ?_
    refine i_aload_n B 0 dL_law_460 rfl ?_
    refine i_iload_n B 3 dL_law_461 rfl ?_
    refine i_iconst (v := 4) B dL_law_462 (by decide) ?_
    refine i_iadd B dL_law_463 ?_
    refine i_sld B hX (6 * k + 4) (nI_add (6 * k) 4) (by omega) hL dL_law_464 ?_
    refine c_wiV (rest := [.int r1]) (As := [.int (xs (6 * k + 1)), .int (xs (6 * k + 2)), .int (xs (6 * k + 3)), .int (xs (6 * k + 4))]) B (k_X9_close l E mo qm g a nc hc hnc (xs (6 * k + 1)) (xs (6 * k + 2)) (xs (6 * k + 3)) (xs (6 * k + 4))) cal_yX9_close iv_yX9_close mlL_52 rfl 0 rfl (by decide) ⟨by show _ ≤ 203390; omega, by show _ ≤ 8492080; omega⟩ rfl (Nat.le_of_ble_eq_true rfl) [] (cW E q u1.1 u1.2 s t .null []) rfl _ rfl dL_law_465 (fun r2 u2 h2 => ?_)
    refine i_world (ws' := mW E mo qm u2.1 u2.2 ++ cW E q u1.1 u1.2 s t .null []) rfl ?_
    obtain ⟨rfl, rfl⟩ := Prod.mk.inj (Eq.trans h1 (Eq.symm h2))
    obtain ⟨nc9, hz9, hI9⟩ := IV_close hI h1
    refine i_icmp_eq B 1109 dL_law_468 (by decide) (fun _ => ?_) (fun h => absurd rfl h)
    refine i_widen (k := 100 + 5 * (k + 1)) (n := 20000 + 12418 * (k + 1)) (by omega) (by omega) ?_
    exact NX q u1.1 u1.2 s t .null [] _ _ _ _ _ rfl hI9 (Or.inl ⟨rfl, rfl⟩)
  · refine i_aload_n B 1 dL_law_420 rfl ?_
    refine i_aload_n B 0 dL_law_421 rfl ?_
    refine i_iload_n B 3 dL_law_422 rfl ?_
    refine i_iconst (v := 1) B dL_law_423 (by decide) ?_
    refine i_iadd B dL_law_424 ?_
    refine i_sld B hX (6 * k + 1) (nI_add (6 * k) 1) (by omega) hL dL_law_425 ?_
    refine i_aload_n B 0 dL_law_426 rfl ?_
    refine i_iload_n B 3 dL_law_427 rfl ?_
    refine i_iconst (v := 2) B dL_law_428 (by decide) ?_
    refine i_iadd B dL_law_429 ?_
    refine i_sld B hX (6 * k + 2) (nI_add (6 * k) 2) (by omega) hL dL_law_430 ?_
    refine i_aload_n B 0 dL_law_431 rfl ?_
    refine i_iload_n B 3 dL_law_432 rfl ?_
    refine i_iconst (v := 3) B dL_law_433 (by decide) ?_
    refine i_iadd B dL_law_434 ?_
    refine i_sld B hX (6 * k + 3) (nI_add (6 * k) 3) (by omega) hL dL_law_435 ?_
    refine i_aload_n B 0 dL_law_436 rfl ?_
    refine i_iload_n B 3 dL_law_437 rfl ?_
    refine i_iconst (v := 4) B dL_law_438 (by decide) ?_
    refine i_iadd B dL_law_439 ?_
    refine i_sld B hX (6 * k + 4) (nI_add (6 * k) 4) (by omega) hL dL_law_440 ?_
    refine c_wiV (rest := []) (As := [.int (xs (6 * k + 1)), .int (xs (6 * k + 2)), .int (xs (6 * k + 3)), .int (xs (6 * k + 4))]) B (k_X8_closeR l E q g a s t nc hc hnc (xs (6 * k + 1)) (xs (6 * k + 2)) (xs (6 * k + 3)) (xs (6 * k + 4))) cal_yX8_close iv_yX8_close mlL_49 rfl 27 rfl (by decide) ⟨by show _ ≤ 203390; omega, by show _ ≤ 8492080; omega⟩ rfl (Nat.le_of_ble_eq_true rfl) (mW E mo qm g a) [] (by rw [List.append_nil]) _ rfl dL_law_441 (fun r1 u1 h1 => ?_)
    refine i_world (ws' := mW E mo qm g a ++ cW E q u1.1.1 u1.1.2 (upd (upd s 63 u1.2.1) 64 u1.2.2) t (.ref (q 49)) (sR E q (upd (upd s 63 u1.2.1) 64 u1.2.2) t)) (congrArg (mW E mo qm g a ++ ·) (List.append_nil _)) ?_
    refine i_aload_n B 2 dL_law_444 rfl ?_
    refine i_aload_n B 0 dL_law_445 rfl ?_
    refine i_iload_n B 3 dL_law_446 rfl ?_
    refine i_iconst (v := 1) B dL_law_447 (by decide) ?_
    refine i_iadd B dL_law_448 ?_
    refine i_sld B hX (6 * k + 1) (nI_add (6 * k) 1) (by omega) hL dL_law_449 ?_
    refine i_aload_n B 0 dL_law_450 rfl ?_
    refine i_iload_n B 3 dL_law_451 rfl ?_
    refine i_iconst (v := 2) B dL_law_452 (by decide) ?_
    refine i_iadd B dL_law_453 ?_
    refine i_sld B hX (6 * k + 2) (nI_add (6 * k) 2) (by omega) hL dL_law_454 ?_
    refine i_aload_n B 0 dL_law_455 rfl ?_
    refine i_iload_n B 3 dL_law_456 rfl ?_
    refine i_iconst (v := 3) B dL_law_457 (by decide) ?_
    refine i_iadd B dL_law_458 ?_
    refine i_sld B hX (6 * k + 3) (nI_add (6 * k) 3) (by omega) hL dL_law_459 ?_
    refine i_aload_n B 0 dL_law_460 rfl ?_
    refine i_iload_n B 3 dL_law_461 rfl ?_
    refine i_iconst (v := 4) B dL_law_462 (by decide) ?_
    refine i_iadd B dL_law_463 ?_
    refine i_sld B hX (6 * k + 4) (nI_add (6 * k) 4) (by omega) hL dL_law_464 ?_
    refine c_wiV (rest := [.int r1]) (As := [.int (xs (6 * k + 1)), .int (xs (6 * k + 2)), .int (xs (6 * k + 3)), .int (xs (6 * k + 4))]) B (k_X9_close l E mo qm g a nc hc hnc (xs (6 * k + 1)) (xs (6 * k + 2)) (xs (6 * k + 3)) (xs (6 * k + 4))) cal_yX9_close iv_yX9_close mlL_52 rfl 0 rfl (by decide) ⟨by show _ ≤ 203390; omega, by show _ ≤ 8492080; omega⟩ rfl (Nat.le_of_ble_eq_true rfl) [] (cW E q u1.1.1 u1.1.2 (upd (upd s 63 u1.2.1) 64 u1.2.2) t (.ref (q 49)) (sR E q (upd (upd s 63 u1.2.1) 64 u1.2.2) t)) rfl _ rfl dL_law_465 (fun r2 u2 h2 => ?_)
    refine i_world (ws' := mW E mo qm u2.1 u2.2 ++ cW E q u1.1.1 u1.1.2 (upd (upd s 63 u1.2.1) 64 u1.2.2) t (.ref (q 49)) (sR E q (upd (upd s 63 u1.2.1) 64 u1.2.2) t)) rfl ?_
    obtain ⟨h1, hd⟩ := h1
    obtain ⟨u1, w1⟩ := u1
    dsimp only at h1 hd
    obtain ⟨rfl, rfl⟩ := Prod.mk.inj (Eq.trans h1 (Eq.symm h2))
    obtain ⟨nc9, hz9, hI9⟩ := IV_close hI h1
    have hM9 := MD_re (E := E) (q := q) (g' := u1.1) (a' := u1.2) (nc' := nc9) hri w1 (hd.imp (fun e => ⟨e.1, by (obtain rfl := hz9 e.2; rw [e.2]; exact hri)⟩) id)
    refine i_icmp_eq B 1109 dL_law_468 (by decide) (fun _ => ?_) (fun h => absurd rfl h)
    refine i_widen (k := 100 + 5 * (k + 1)) (n := 20000 + 12418 * (k + 1)) (by omega) (by omega) ?_
    exact NX q u1.1 u1.2 (upd (upd s 63 w1.1) 64 w1.2) t (.ref (q 49)) (sR E q (upd (upd s 63 w1.1) 64 w1.2) t) _ _ _ _ _ rfl hI9 hM9

set_option maxHeartbeats 4000000 in
set_option maxRecDepth 100000 in
theorem lw_c9 {Z : CX} {l : Launch} {E : ED} {b L : Nat} {xs : Nat → Int32} (B : OK Z cL_law 4 RL room_1 E false l) (hX : ZX Z b L xs) (hL : L ≤ 3072) {mo qc : Nat} {qm : Nat → Nat} {k : Nat} (hk : 6 * k + 6 ≤ L) (hp : PUREs) (NX : LJ Z E mo qc qm b (k + 1) k 1109) : LJ Z E mo qc qm b k k 473 := by
  intro q g a s t RV X np nv nc nl nm hq hI hM
  subst hq
  obtain ⟨hve, hle, hok, p5, p6, p7, p13, p16, p17, p20, p21, p25⟩ := hp g a np nv nc nl nm hI
  obtain ⟨⟨hn, hnp, hv, hnv, hc, hnc, hl, hnl, hm, hnm⟩, ip, ie1, ie2, hpt, ic, iw, ilog, imk, hb1, hb2⟩ := id hI
  rcases hM with ⟨rfl, rfl⟩ | ⟨rfl, rfl, hri⟩
  · refine i_aload_n B 1 dL_law_473 rfl ?_
    refine c_wiV (rest := []) (As := []) B (k_X8_openN l E q g a s t nc hc hnc ) cal_yX8_open iv_yX8_open mlL_53 rfl 27 rfl (by decide) ⟨by show _ ≤ 203390; omega, by show _ ≤ 8492080; omega⟩ rfl (Nat.le_of_ble_eq_true rfl) (mW E mo qm g a) [] (by rw [List.append_nil]) _ rfl dL_law_474 (fun r1 u1 h1 => ?_)
    refine i_world (ws' := mW E mo qm g a ++ cW E q u1 a s t .null []) (congrArg (mW E mo qm g a ++ ·) (List.append_nil _)) ?_
    refine i_aload_n B 2 dL_law_477 rfl ?_
    refine c_wiV (rest := [.int r1]) (As := []) B (k_X9_open l E mo qm g a nc hc hnc ) cal_yX9_open iv_yX9_open mlL_57 rfl 0 rfl (by decide) ⟨by show _ ≤ 203390; omega, by show _ ≤ 8492080; omega⟩ rfl (Nat.le_of_ble_eq_true rfl) [] (cW E q u1 a s t .null []) rfl _ rfl dL_law_478 (fun r2 u2 h2 => ?_)
    refine i_world (ws' := mW E mo qm u2 a ++ cW E q u1 a s t .null []) rfl ?_
    obtain ⟨rfl, rfl⟩ := Prod.mk.inj (Eq.trans h1 (Eq.symm h2))
    obtain ⟨nc9, hz9, hI9⟩ := IV_open hI h1
    refine i_icmp_eq B 1109 dL_law_481 (by decide) (fun _ => ?_) (fun h => absurd rfl h)
    refine i_widen (k := 100 + 5 * (k + 1)) (n := 20000 + 12418 * (k + 1)) (by omega) (by omega) ?_
    exact NX q u1 a s t .null [] _ _ _ _ _ rfl hI9 (Or.inl ⟨rfl, rfl⟩)
  · refine i_aload_n B 1 dL_law_473 rfl ?_
    refine c_wiV (rest := []) (As := []) B (k_X8_openR l E q g a s t nc hc hnc ) cal_yX8_open iv_yX8_open mlL_53 rfl 27 rfl (by decide) ⟨by show _ ≤ 203390; omega, by show _ ≤ 8492080; omega⟩ rfl (Nat.le_of_ble_eq_true rfl) (mW E mo qm g a) [] (by rw [List.append_nil]) _ rfl dL_law_474 (fun r1 u1 h1 => ?_)
    refine i_world (ws' := mW E mo qm g a ++ cW E q u1.1 a (upd (upd s 63 u1.2.1) 64 u1.2.2) t (.ref (q 49)) (sR E q (upd (upd s 63 u1.2.1) 64 u1.2.2) t)) (congrArg (mW E mo qm g a ++ ·) (List.append_nil _)) ?_
    refine i_aload_n B 2 dL_law_477 rfl ?_
    refine c_wiV (rest := [.int r1]) (As := []) B (k_X9_open l E mo qm g a nc hc hnc ) cal_yX9_open iv_yX9_open mlL_57 rfl 0 rfl (by decide) ⟨by show _ ≤ 203390; omega, by show _ ≤ 8492080; omega⟩ rfl (Nat.le_of_ble_eq_true rfl) [] (cW E q u1.1 a (upd (upd s 63 u1.2.1) 64 u1.2.2) t (.ref (q 49)) (sR E q (upd (upd s 63 u1.2.1) 64 u1.2.2) t)) rfl _ rfl dL_law_478 (fun r2 u2 h2 => ?_)
    refine i_world (ws' := mW E mo qm u2 a ++ cW E q u1.1 a (upd (upd s 63 u1.2.1) 64 u1.2.2) t (.ref (q 49)) (sR E q (upd (upd s 63 u1.2.1) 64 u1.2.2) t)) rfl ?_
    obtain ⟨h1, hd⟩ := h1
    obtain ⟨u1, w1⟩ := u1
    dsimp only at h1 hd
    obtain ⟨rfl, rfl⟩ := Prod.mk.inj (Eq.trans h1 (Eq.symm h2))
    obtain ⟨nc9, hz9, hI9⟩ := IV_open hI h1
    have hM9 := MD_re (E := E) (q := q) (g' := u1) (a' := a) (nc' := nc9) hri w1 (hd.imp (fun e => ⟨e.1, by (obtain rfl := hz9 e.2; rw [e.2]; exact hri)⟩) id)
    refine i_icmp_eq B 1109 dL_law_481 (by decide) (fun _ => ?_) (fun h => absurd rfl h)
    refine i_widen (k := 100 + 5 * (k + 1)) (n := 20000 + 12418 * (k + 1)) (by omega) (by omega) ?_
    exact NX q u1 a (upd (upd s 63 w1.1) 64 w1.2) t (.ref (q 49)) (sR E q (upd (upd s 63 w1.1) 64 w1.2) t) _ _ _ _ _ rfl hI9 hM9

set_option maxHeartbeats 4000000 in
set_option maxRecDepth 100000 in
theorem lw_c10 {Z : CX} {l : Launch} {E : ED} {b L : Nat} {xs : Nat → Int32} (B : OK Z cL_law 4 RL room_1 E false l) (hX : ZX Z b L xs) (hL : L ≤ 3072) {mo qc : Nat} {qm : Nat → Nat} {k : Nat} (hk : 6 * k + 6 ≤ L) (hp : PUREs) (NX : LJ Z E mo qc qm b (k + 1) k 1109) : LJ Z E mo qc qm b k k 486 := by
  intro q g a s t RV X np nv nc nl nm hq hI hM
  subst hq
  obtain ⟨hve, hle, hok, p5, p6, p7, p13, p16, p17, p20, p21, p25⟩ := hp g a np nv nc nl nm hI
  obtain ⟨⟨hn, hnp, hv, hnv, hc, hnc, hl, hnl, hm, hnm⟩, ip, ie1, ie2, hpt, ic, iw, ilog, imk, hb1, hb2⟩ := id hI
  rcases hM with ⟨rfl, rfl⟩ | ⟨rfl, rfl, hri⟩
  · refine i_aload_n B 1 dL_law_486 rfl ?_
    refine i_aload_n B 0 dL_law_487 rfl ?_
    refine i_iload_n B 3 dL_law_488 rfl ?_
    refine i_iconst (v := 1) B dL_law_489 (by decide) ?_
    refine i_iadd B dL_law_490 ?_
    refine i_sld B hX (6 * k + 1) (nI_add (6 * k) 1) (by omega) hL dL_law_491 ?_
    refine i_aload_n B 0 dL_law_492 rfl ?_
    refine i_iload_n B 3 dL_law_493 rfl ?_
    refine i_iconst (v := 2) B dL_law_494 (by decide) ?_
    refine i_iadd B dL_law_495 ?_
    refine i_sld B hX (6 * k + 2) (nI_add (6 * k) 2) (by omega) hL dL_law_496 ?_
    refine c_wiV (rest := []) (As := [.int (xs (6 * k + 1)), .int (xs (6 * k + 2))]) B (k_X8_windN l E q g a s t  (xs (6 * k + 1)) (xs (6 * k + 2))) cal_yX8_wind iv_yX8_wind mlL_58 rfl 27 rfl (by decide) ⟨by show _ ≤ 203390; omega, by show _ ≤ 8492080; omega⟩ rfl (Nat.le_of_ble_eq_true rfl) (mW E mo qm g a) [] (by rw [List.append_nil]) _ rfl dL_law_497 (fun r1 u1 h1 => ?_)
    refine i_world (ws' := mW E mo qm g a ++ cW E q u1 a s t .null []) (congrArg (mW E mo qm g a ++ ·) (List.append_nil _)) ?_
    refine i_aload_n B 2 dL_law_500 rfl ?_
    refine i_aload_n B 0 dL_law_501 rfl ?_
    refine i_iload_n B 3 dL_law_502 rfl ?_
    refine i_iconst (v := 1) B dL_law_503 (by decide) ?_
    refine i_iadd B dL_law_504 ?_
    refine i_sld B hX (6 * k + 1) (nI_add (6 * k) 1) (by omega) hL dL_law_505 ?_
    refine i_aload_n B 0 dL_law_506 rfl ?_
    refine i_iload_n B 3 dL_law_507 rfl ?_
    refine i_iconst (v := 2) B dL_law_508 (by decide) ?_
    refine i_iadd B dL_law_509 ?_
    refine i_sld B hX (6 * k + 2) (nI_add (6 * k) 2) (by omega) hL dL_law_510 ?_
    refine c_wiV (rest := [.int r1]) (As := [.int (xs (6 * k + 1)), .int (xs (6 * k + 2))]) B (k_X9_wind l E mo qm g a  (xs (6 * k + 1)) (xs (6 * k + 2))) cal_yX9_wind iv_yX9_wind mlL_61 rfl 0 rfl (by decide) ⟨by show _ ≤ 203390; omega, by show _ ≤ 8492080; omega⟩ rfl (Nat.le_of_ble_eq_true rfl) [] (cW E q u1 a s t .null []) rfl _ rfl dL_law_511 (fun r2 u2 h2 => ?_)
    refine i_world (ws' := mW E mo qm u2 a ++ cW E q u1 a s t .null []) rfl ?_
    obtain ⟨rfl, rfl⟩ := Prod.mk.inj (Eq.trans h1 (Eq.symm h2))
    have hI9 := IV_wind hI h1
    refine i_icmp_eq B 1109 dL_law_514 (by decide) (fun _ => ?_) (fun h => absurd rfl h)
    refine i_widen (k := 100 + 5 * (k + 1)) (n := 20000 + 12418 * (k + 1)) (by omega) (by omega) ?_
    exact NX q u1 a s t .null [] _ _ _ _ _ rfl hI9 (Or.inl ⟨rfl, rfl⟩)
  · refine i_aload_n B 1 dL_law_486 rfl ?_
    refine i_aload_n B 0 dL_law_487 rfl ?_
    refine i_iload_n B 3 dL_law_488 rfl ?_
    refine i_iconst (v := 1) B dL_law_489 (by decide) ?_
    refine i_iadd B dL_law_490 ?_
    refine i_sld B hX (6 * k + 1) (nI_add (6 * k) 1) (by omega) hL dL_law_491 ?_
    refine i_aload_n B 0 dL_law_492 rfl ?_
    refine i_iload_n B 3 dL_law_493 rfl ?_
    refine i_iconst (v := 2) B dL_law_494 (by decide) ?_
    refine i_iadd B dL_law_495 ?_
    refine i_sld B hX (6 * k + 2) (nI_add (6 * k) 2) (by omega) hL dL_law_496 ?_
    refine c_wiV (rest := []) (As := [.int (xs (6 * k + 1)), .int (xs (6 * k + 2))]) B (k_X8_windR l E q g a s t  (xs (6 * k + 1)) (xs (6 * k + 2))) cal_yX8_wind iv_yX8_wind mlL_58 rfl 27 rfl (by decide) ⟨by show _ ≤ 203390; omega, by show _ ≤ 8492080; omega⟩ rfl (Nat.le_of_ble_eq_true rfl) (mW E mo qm g a) [] (by rw [List.append_nil]) _ rfl dL_law_497 (fun r1 u1 h1 => ?_)
    refine i_world (ws' := mW E mo qm g a ++ cW E q u1.1 a (upd (upd s 63 u1.2.1) 64 u1.2.2) t (.ref (q 49)) (sR E q (upd (upd s 63 u1.2.1) 64 u1.2.2) t)) (congrArg (mW E mo qm g a ++ ·) (List.append_nil _)) ?_
    refine i_aload_n B 2 dL_law_500 rfl ?_
    refine i_aload_n B 0 dL_law_501 rfl ?_
    refine i_iload_n B 3 dL_law_502 rfl ?_
    refine i_iconst (v := 1) B dL_law_503 (by decide) ?_
    refine i_iadd B dL_law_504 ?_
    refine i_sld B hX (6 * k + 1) (nI_add (6 * k) 1) (by omega) hL dL_law_505 ?_
    refine i_aload_n B 0 dL_law_506 rfl ?_
    refine i_iload_n B 3 dL_law_507 rfl ?_
    refine i_iconst (v := 2) B dL_law_508 (by decide) ?_
    refine i_iadd B dL_law_509 ?_
    refine i_sld B hX (6 * k + 2) (nI_add (6 * k) 2) (by omega) hL dL_law_510 ?_
    refine c_wiV (rest := [.int r1]) (As := [.int (xs (6 * k + 1)), .int (xs (6 * k + 2))]) B (k_X9_wind l E mo qm g a  (xs (6 * k + 1)) (xs (6 * k + 2))) cal_yX9_wind iv_yX9_wind mlL_61 rfl 0 rfl (by decide) ⟨by show _ ≤ 203390; omega, by show _ ≤ 8492080; omega⟩ rfl (Nat.le_of_ble_eq_true rfl) [] (cW E q u1.1 a (upd (upd s 63 u1.2.1) 64 u1.2.2) t (.ref (q 49)) (sR E q (upd (upd s 63 u1.2.1) 64 u1.2.2) t)) rfl _ rfl dL_law_511 (fun r2 u2 h2 => ?_)
    refine i_world (ws' := mW E mo qm u2 a ++ cW E q u1.1 a (upd (upd s 63 u1.2.1) 64 u1.2.2) t (.ref (q 49)) (sR E q (upd (upd s 63 u1.2.1) 64 u1.2.2) t)) rfl ?_
    obtain ⟨h1, hd⟩ := h1
    obtain ⟨u1, w1⟩ := u1
    dsimp only at h1 hd
    obtain ⟨rfl, rfl⟩ := Prod.mk.inj (Eq.trans h1 (Eq.symm h2))
    have hI9 := IV_wind hI h1
    have hM9 := MD_re (E := E) (q := q) (g' := u1) (a' := a) (nc' := nc) hri w1 (hd.imp (fun e => ⟨e.1, by (rw [e.2]; exact hri)⟩) id)
    refine i_icmp_eq B 1109 dL_law_514 (by decide) (fun _ => ?_) (fun h => absurd rfl h)
    refine i_widen (k := 100 + 5 * (k + 1)) (n := 20000 + 12418 * (k + 1)) (by omega) (by omega) ?_
    exact NX q u1 a (upd (upd s 63 w1.1) 64 w1.2) t (.ref (q 49)) (sR E q (upd (upd s 63 w1.1) 64 w1.2) t) _ _ _ _ _ rfl hI9 hM9

set_option maxHeartbeats 4000000 in
set_option maxRecDepth 100000 in
theorem lw_c11 {Z : CX} {l : Launch} {E : ED} {b L : Nat} {xs : Nat → Int32} (B : OK Z cL_law 4 RL room_1 E false l) (hX : ZX Z b L xs) (hL : L ≤ 3072) {mo qc : Nat} {qm : Nat → Nat} {k : Nat} (hk : 6 * k + 6 ≤ L) (hp : PUREs) (NX : LJ Z E mo qc qm b (k + 1) k 1109) : LJ Z E mo qc qm b k k 519 := by
  intro q g a s t RV X np nv nc nl nm hq hI hM
  subst hq
  obtain ⟨hve, hle, hok, p5, p6, p7, p13, p16, p17, p20, p21, p25⟩ := hp g a np nv nc nl nm hI
  obtain ⟨⟨hn, hnp, hv, hnv, hc, hnc, hl, hnl, hm, hnm⟩, ip, ie1, ie2, hpt, ic, iw, ilog, imk, hb1, hb2⟩ := id hI
  rcases hM with ⟨rfl, rfl⟩ | ⟨rfl, rfl, hri⟩
  · refine i_aload_n B 1 dL_law_519 rfl ?_
    refine i_aload_n B 0 dL_law_520 rfl ?_
    refine i_iload_n B 3 dL_law_521 rfl ?_
    refine i_iconst (v := 1) B dL_law_522 (by decide) ?_
    refine i_iadd B dL_law_523 ?_
    refine i_sld B hX (6 * k + 1) (nI_add (6 * k) 1) (by omega) hL dL_law_524 ?_
    refine i_aload_n B 0 dL_law_525 rfl ?_
    refine i_iload_n B 3 dL_law_526 rfl ?_
    refine i_iconst (v := 2) B dL_law_527 (by decide) ?_
    refine i_iadd B dL_law_528 ?_
    refine i_sld B hX (6 * k + 2) (nI_add (6 * k) 2) (by omega) hL dL_law_529 ?_
    refine c_wiV (rest := []) (As := [.int (xs (6 * k + 1)), .int (xs (6 * k + 2))]) B (k_X8_baseN l E q g a s t (xs (6 * k + 1)) (xs (6 * k + 2))) cal_yX8_base iv_yX8_base mlL_62 rfl 27 rfl (by decide) ⟨by show _ ≤ 203390; omega, by show _ ≤ 8492080; omega⟩ rfl (Nat.le_of_ble_eq_true rfl) (mW E mo qm g a) [] (by rw [List.append_nil]) _ rfl dL_law_530 (fun r1 u1 h1 => ?_)
    refine i_world (ws' := mW E mo qm g a ++ cW E q u1 a s t .null []) (congrArg (mW E mo qm g a ++ ·) (List.append_nil _)) ?_
    refine i_aload_n B 2 dL_law_533 rfl ?_
    refine i_aload_n B 0 dL_law_534 rfl ?_
    refine i_iload_n B 3 dL_law_535 rfl ?_
    refine i_iconst (v := 1) B dL_law_536 (by decide) ?_
    refine i_iadd B dL_law_537 ?_
    refine i_sld B hX (6 * k + 1) (nI_add (6 * k) 1) (by omega) hL dL_law_538 ?_
    refine i_aload_n B 0 dL_law_539 rfl ?_
    refine i_iload_n B 3 dL_law_540 rfl ?_
    refine i_iconst (v := 2) B dL_law_541 (by decide) ?_
    refine i_iadd B dL_law_542 ?_
    refine i_sld B hX (6 * k + 2) (nI_add (6 * k) 2) (by omega) hL dL_law_543 ?_
    refine c_wiV (rest := [.int r1]) (As := [.int (xs (6 * k + 1)), .int (xs (6 * k + 2))]) B (k_X9_base l E mo qm g a  (xs (6 * k + 1)) (xs (6 * k + 2))) cal_yX9_base iv_yX9_base mlL_65 rfl 0 rfl (by decide) ⟨by show _ ≤ 203390; omega, by show _ ≤ 8492080; omega⟩ rfl (Nat.le_of_ble_eq_true rfl) [] (cW E q u1 a s t .null []) rfl _ rfl dL_law_544 (fun r2 u2 h2 => ?_)
    refine i_world (ws' := mW E mo qm g u2 ++ cW E q u1 a s t .null []) rfl ?_
    rw [baseC] at h1
    rw [baseF] at h2
    by_cases hpt9 : (!pt (xs (6 * k + 1)) (xs (6 * k + 2))) = true
    · rw [if_pos hpt9] at h1 h2
      obtain ⟨rfl, rfl⟩ := Prod.mk.inj h1
      obtain ⟨rfl, rfl⟩ := Prod.mk.inj h2
      refine i_icmp_eq B 1109 dL_law_547 (by decide) (fun _ => ?_) (fun h => absurd rfl h)
      refine i_widen (k := 100 + 5 * (k + 1)) (n := 20000 + 12418 * (k + 1)) (by omega) (by omega) ?_
      exact NX q u1 u2 s t .null [] _ _ _ _ _ rfl hI (Or.inl ⟨rfl, rfl⟩)
    · have hpt8 := b_not hpt9
      rw [if_neg hpt9] at h1 h2
      obtain ⟨rfl, e1⟩ := Prod.mk.inj h1
      obtain ⟨e2, e3⟩ := Prod.mk.inj h2
      rw [← hb1, ← hb2] at e2
      subst e2
      subst e3
      subst e1
      refine i_world (ws' := mW E mo qm (upd (upd g 90 (xs (6 * k + 1))) 91 (xs (6 * k + 2))) (va_up (va_up a 9 (upd (a 9) 10 (xs (6 * k + 1)))) 10 (upd (a 10) 10 (xs (6 * k + 2)))) ++ cW E q (upd (upd g 90 (xs (6 * k + 1))) 91 (xs (6 * k + 2))) a s t .null []) rfl ?_
      refine i_fn 34 (f := a 9) (f' := upd (a 9) 10 (xs (6 * k + 1))) rfl (fun j9 h9 => (pk_un (by omega)).symm) ?_
      refine i_fn 35 (f := a 10) (f' := upd (a 10) 10 (xs (6 * k + 2))) rfl (fun j9 h9 => (pk_un (by omega)).symm) ?_
      refine i_world (ws' := mW E mo qm (upd (upd g 90 (xs (6 * k + 1))) 91 (xs (6 * k + 2))) (va_up (va_up a 9 (upd (a 9) 10 (xs (6 * k + 1)))) 10 (upd (a 10) 10 (xs (6 * k + 2)))) ++ cW E q (upd (upd g 90 (xs (6 * k + 1))) 91 (xs (6 * k + 2))) (va_up (va_up a 9 (upd (a 9) 10 (xs (6 * k + 1)))) 10 (upd (a 10) 10 (xs (6 * k + 2)))) s t .null []) rfl ?_
      refine i_icmp_eq B 1109 dL_law_547 (by decide) (fun _ => ?_) (fun h => absurd rfl h)
      refine i_widen (k := 100 + 5 * (k + 1)) (n := 20000 + 12418 * (k + 1)) (by omega) (by omega) ?_
      exact NX q (upd (upd g 90 (xs (6 * k + 1))) 91 (xs (6 * k + 2))) (va_up (va_up a 9 (upd (a 9) 10 (xs (6 * k + 1)))) 10 (upd (a 10) 10 (xs (6 * k + 2)))) s t .null [] _ _ _ _ _ rfl (IV_base hI hpt8) (Or.inl ⟨rfl, rfl⟩)
  · refine i_aload_n B 1 dL_law_519 rfl ?_
    refine i_aload_n B 0 dL_law_520 rfl ?_
    refine i_iload_n B 3 dL_law_521 rfl ?_
    refine i_iconst (v := 1) B dL_law_522 (by decide) ?_
    refine i_iadd B dL_law_523 ?_
    refine i_sld B hX (6 * k + 1) (nI_add (6 * k) 1) (by omega) hL dL_law_524 ?_
    refine i_aload_n B 0 dL_law_525 rfl ?_
    refine i_iload_n B 3 dL_law_526 rfl ?_
    refine i_iconst (v := 2) B dL_law_527 (by decide) ?_
    refine i_iadd B dL_law_528 ?_
    refine i_sld B hX (6 * k + 2) (nI_add (6 * k) 2) (by omega) hL dL_law_529 ?_
    refine c_wiV (rest := []) (As := [.int (xs (6 * k + 1)), .int (xs (6 * k + 2))]) B (k_X8_baseR l E q g a s t (xs (6 * k + 1)) (xs (6 * k + 2))) cal_yX8_base iv_yX8_base mlL_62 rfl 27 rfl (by decide) ⟨by show _ ≤ 203390; omega, by show _ ≤ 8492080; omega⟩ rfl (Nat.le_of_ble_eq_true rfl) (mW E mo qm g a) [] (by rw [List.append_nil]) _ rfl dL_law_530 (fun r1 u1 h1 => ?_)
    refine i_world (ws' := mW E mo qm g a ++ cW E q u1.1 a (upd (upd s 63 u1.2.1) 64 u1.2.2) t (.ref (q 49)) (sR E q (upd (upd s 63 u1.2.1) 64 u1.2.2) t)) (congrArg (mW E mo qm g a ++ ·) (List.append_nil _)) ?_
    refine i_aload_n B 2 dL_law_533 rfl ?_
    refine i_aload_n B 0 dL_law_534 rfl ?_
    refine i_iload_n B 3 dL_law_535 rfl ?_
    refine i_iconst (v := 1) B dL_law_536 (by decide) ?_
    refine i_iadd B dL_law_537 ?_
    refine i_sld B hX (6 * k + 1) (nI_add (6 * k) 1) (by omega) hL dL_law_538 ?_
    refine i_aload_n B 0 dL_law_539 rfl ?_
    refine i_iload_n B 3 dL_law_540 rfl ?_
    refine i_iconst (v := 2) B dL_law_541 (by decide) ?_
    refine i_iadd B dL_law_542 ?_
    refine i_sld B hX (6 * k + 2) (nI_add (6 * k) 2) (by omega) hL dL_law_543 ?_
    refine c_wiV (rest := [.int r1]) (As := [.int (xs (6 * k + 1)), .int (xs (6 * k + 2))]) B (k_X9_base l E mo qm g a  (xs (6 * k + 1)) (xs (6 * k + 2))) cal_yX9_base iv_yX9_base mlL_65 rfl 0 rfl (by decide) ⟨by show _ ≤ 203390; omega, by show _ ≤ 8492080; omega⟩ rfl (Nat.le_of_ble_eq_true rfl) [] (cW E q u1.1 a (upd (upd s 63 u1.2.1) 64 u1.2.2) t (.ref (q 49)) (sR E q (upd (upd s 63 u1.2.1) 64 u1.2.2) t)) rfl _ rfl dL_law_544 (fun r2 u2 h2 => ?_)
    refine i_world (ws' := mW E mo qm g u2 ++ cW E q u1.1 a (upd (upd s 63 u1.2.1) 64 u1.2.2) t (.ref (q 49)) (sR E q (upd (upd s 63 u1.2.1) 64 u1.2.2) t)) rfl ?_
    obtain ⟨h1, hd⟩ := h1
    obtain ⟨u1, w1⟩ := u1
    dsimp only at h1 hd
    rw [baseC] at h1
    rw [baseF] at h2
    by_cases hpt9 : (!pt (xs (6 * k + 1)) (xs (6 * k + 2))) = true
    · rw [if_pos hpt9] at h1 h2
      obtain ⟨rfl, rfl⟩ := Prod.mk.inj h1
      obtain ⟨rfl, rfl⟩ := Prod.mk.inj h2
      refine i_icmp_eq B 1109 dL_law_547 (by decide) (fun _ => ?_) (fun h => absurd rfl h)
      refine i_widen (k := 100 + 5 * (k + 1)) (n := 20000 + 12418 * (k + 1)) (by omega) (by omega) ?_
      exact NX q u1 u2 (upd (upd s 63 w1.1) 64 w1.2) t (.ref (q 49)) (sR E q (upd (upd s 63 w1.1) 64 w1.2) t) _ _ _ _ _ rfl hI (MD_re hri w1 (hd.imp (fun e => ⟨e.1, hri⟩) id))
    · have hpt8 := b_not hpt9
      rw [if_neg hpt9] at h1 h2
      obtain ⟨rfl, e1⟩ := Prod.mk.inj h1
      obtain ⟨e2, e3⟩ := Prod.mk.inj h2
      rw [← hb1, ← hb2] at e2
      subst e2
      subst e3
      have hd9 : w1 = (0, 0) ∨ (w1 = (s 63, s 64) ∧ u1 = g) := hd.symm
      subst e1
      refine i_world (ws' := mW E mo qm (upd (upd g 90 (xs (6 * k + 1))) 91 (xs (6 * k + 2))) (va_up (va_up a 9 (upd (a 9) 10 (xs (6 * k + 1)))) 10 (upd (a 10) 10 (xs (6 * k + 2)))) ++ cW E q (upd (upd g 90 (xs (6 * k + 1))) 91 (xs (6 * k + 2))) a (upd (upd s 63 w1.1) 64 w1.2) t (.ref (q 49)) (sR E q (upd (upd s 63 w1.1) 64 w1.2) t)) rfl ?_
      refine i_fn 34 (f := a 9) (f' := upd (a 9) 10 (xs (6 * k + 1))) rfl (fun j9 h9 => (pk_un (by omega)).symm) ?_
      refine i_fn 35 (f := a 10) (f' := upd (a 10) 10 (xs (6 * k + 2))) rfl (fun j9 h9 => (pk_un (by omega)).symm) ?_
      refine i_world (ws' := mW E mo qm (upd (upd g 90 (xs (6 * k + 1))) 91 (xs (6 * k + 2))) (va_up (va_up a 9 (upd (a 9) 10 (xs (6 * k + 1)))) 10 (upd (a 10) 10 (xs (6 * k + 2)))) ++ cW E q (upd (upd g 90 (xs (6 * k + 1))) 91 (xs (6 * k + 2))) (va_up (va_up a 9 (upd (a 9) 10 (xs (6 * k + 1)))) 10 (upd (a 10) 10 (xs (6 * k + 2)))) (upd (upd s 63 w1.1) 64 w1.2) t (.ref (q 49)) (sR E q (upd (upd s 63 w1.1) 64 w1.2) t)) rfl ?_
      refine i_icmp_eq B 1109 dL_law_547 (by decide) (fun _ => ?_) (fun h => absurd rfl h)
      refine i_widen (k := 100 + 5 * (k + 1)) (n := 20000 + 12418 * (k + 1)) (by omega) (by omega) ?_
      exact NX q (upd (upd g 90 (xs (6 * k + 1))) 91 (xs (6 * k + 2))) (va_up (va_up a 9 (upd (a 9) 10 (xs (6 * k + 1)))) 10 (upd (a 10) 10 (xs (6 * k + 2)))) (upd (upd s 63 w1.1) 64 w1.2) t (.ref (q 49)) (sR E q (upd (upd s 63 w1.1) 64 w1.2) t) _ _ _ _ _ rfl (IV_base hI hpt8) (MD_re hri w1 (hd9.symm.imp (fun e => ⟨e.1, RIS_b hb1 hb2 e.2 hri⟩) id))

set_option maxHeartbeats 4000000 in
set_option maxRecDepth 100000 in
theorem lw_c12 {Z : CX} {l : Launch} {E : ED} {b L : Nat} {xs : Nat → Int32} (B : OK Z cL_law 4 RL room_1 E false l) (hX : ZX Z b L xs) (hL : L ≤ 3072) {mo qc : Nat} {qm : Nat → Nat} {k : Nat} (hk : 6 * k + 6 ≤ L) (hp : PUREs) (NX : LJ Z E mo qc qm b (k + 1) k 1109) : LJ Z E mo qc qm b k k 552 := by
  intro q g a s t RV X np nv nc nl nm hq hI hM
  subst hq
  obtain ⟨hve, hle, hok, p5, p6, p7, p13, p16, p17, p20, p21, p25⟩ := hp g a np nv nc nl nm hI
  obtain ⟨⟨hn, hnp, hv, hnv, hc, hnc, hl, hnl, hm, hnm⟩, ip, ie1, ie2, hpt, ic, iw, ilog, imk, hb1, hb2⟩ := id hI
  rcases hM with ⟨rfl, rfl⟩ | ⟨rfl, rfl, hri⟩
  · refine i_aload_n B 1 dL_law_552 rfl ?_
    refine i_aload_n B 0 dL_law_553 rfl ?_
    refine i_iload_n B 3 dL_law_554 rfl ?_
    refine i_iconst (v := 1) B dL_law_555 (by decide) ?_
    refine i_iadd B dL_law_556 ?_
    refine i_sld B hX (6 * k + 1) (nI_add (6 * k) 1) (by omega) hL dL_law_557 ?_
    refine i_aload_n B 0 dL_law_558 rfl ?_
    refine i_iload_n B 3 dL_law_559 rfl ?_
    refine i_iconst (v := 2) B dL_law_560 (by decide) ?_
    refine i_iadd B dL_law_561 ?_
    refine i_sld B hX (6 * k + 2) (nI_add (6 * k) 2) (by omega) hL dL_law_562 ?_
    refine c_wiV (rest := []) (As := [.int (xs (6 * k + 1)), .int (xs (6 * k + 2))]) B (k_X8_storeN l E q g a s t  (xs (6 * k + 1)) (xs (6 * k + 2))) cal_yX8_store iv_yX8_store mlL_66 rfl 27 rfl (by decide) ⟨by show _ ≤ 203390; omega, by show _ ≤ 8492080; omega⟩ rfl (Nat.le_of_ble_eq_true rfl) (mW E mo qm g a) [] (by rw [List.append_nil]) _ rfl dL_law_563 (fun r1 u1 h1 => ?_)
    refine i_world (ws' := mW E mo qm g a ++ cW E q u1 a s t .null []) (congrArg (mW E mo qm g a ++ ·) (List.append_nil _)) ?_
    refine i_aload_n B 2 dL_law_566 rfl ?_
    refine i_aload_n B 0 dL_law_567 rfl ?_
    refine i_iload_n B 3 dL_law_568 rfl ?_
    refine i_iconst (v := 1) B dL_law_569 (by decide) ?_
    refine i_iadd B dL_law_570 ?_
    refine i_sld B hX (6 * k + 1) (nI_add (6 * k) 1) (by omega) hL dL_law_571 ?_
    refine i_aload_n B 0 dL_law_572 rfl ?_
    refine i_iload_n B 3 dL_law_573 rfl ?_
    refine i_iconst (v := 2) B dL_law_574 (by decide) ?_
    refine i_iadd B dL_law_575 ?_
    refine i_sld B hX (6 * k + 2) (nI_add (6 * k) 2) (by omega) hL dL_law_576 ?_
    refine c_wiV (rest := [.int r1]) (As := [.int (xs (6 * k + 1)), .int (xs (6 * k + 2))]) B (k_X9_store l E mo qm g a  (xs (6 * k + 1)) (xs (6 * k + 2))) cal_yX9_store iv_yX9_store mlL_69 rfl 0 rfl (by decide) ⟨by show _ ≤ 203390; omega, by show _ ≤ 8492080; omega⟩ rfl (Nat.le_of_ble_eq_true rfl) [] (cW E q u1 a s t .null []) rfl _ rfl dL_law_577 (fun r2 u2 h2 => ?_)
    refine i_world (ws' := mW E mo qm u2 a ++ cW E q u1 a s t .null []) rfl ?_
    obtain ⟨rfl, rfl⟩ := Prod.mk.inj (Eq.trans h1 (Eq.symm h2))
    have hI9 := IV_store hI h1
    refine i_icmp_eq B 1109 dL_law_580 (by decide) (fun _ => ?_) (fun h => absurd rfl h)
    refine i_widen (k := 100 + 5 * (k + 1)) (n := 20000 + 12418 * (k + 1)) (by omega) (by omega) ?_
    exact NX q u1 a s t .null [] _ _ _ _ _ rfl hI9 (Or.inl ⟨rfl, rfl⟩)
  · refine i_aload_n B 1 dL_law_552 rfl ?_
    refine i_aload_n B 0 dL_law_553 rfl ?_
    refine i_iload_n B 3 dL_law_554 rfl ?_
    refine i_iconst (v := 1) B dL_law_555 (by decide) ?_
    refine i_iadd B dL_law_556 ?_
    refine i_sld B hX (6 * k + 1) (nI_add (6 * k) 1) (by omega) hL dL_law_557 ?_
    refine i_aload_n B 0 dL_law_558 rfl ?_
    refine i_iload_n B 3 dL_law_559 rfl ?_
    refine i_iconst (v := 2) B dL_law_560 (by decide) ?_
    refine i_iadd B dL_law_561 ?_
    refine i_sld B hX (6 * k + 2) (nI_add (6 * k) 2) (by omega) hL dL_law_562 ?_
    refine c_wiV (rest := []) (As := [.int (xs (6 * k + 1)), .int (xs (6 * k + 2))]) B (k_X8_storeR l E q g a s t  (xs (6 * k + 1)) (xs (6 * k + 2))) cal_yX8_store iv_yX8_store mlL_66 rfl 27 rfl (by decide) ⟨by show _ ≤ 203390; omega, by show _ ≤ 8492080; omega⟩ rfl (Nat.le_of_ble_eq_true rfl) (mW E mo qm g a) [] (by rw [List.append_nil]) _ rfl dL_law_563 (fun r1 u1 h1 => ?_)
    refine i_world (ws' := mW E mo qm g a ++ cW E q u1.1 a (upd (upd s 63 u1.2.1) 64 u1.2.2) t (.ref (q 49)) (sR E q (upd (upd s 63 u1.2.1) 64 u1.2.2) t)) (congrArg (mW E mo qm g a ++ ·) (List.append_nil _)) ?_
    refine i_aload_n B 2 dL_law_566 rfl ?_
    refine i_aload_n B 0 dL_law_567 rfl ?_
    refine i_iload_n B 3 dL_law_568 rfl ?_
    refine i_iconst (v := 1) B dL_law_569 (by decide) ?_
    refine i_iadd B dL_law_570 ?_
    refine i_sld B hX (6 * k + 1) (nI_add (6 * k) 1) (by omega) hL dL_law_571 ?_
    refine i_aload_n B 0 dL_law_572 rfl ?_
    refine i_iload_n B 3 dL_law_573 rfl ?_
    refine i_iconst (v := 2) B dL_law_574 (by decide) ?_
    refine i_iadd B dL_law_575 ?_
    refine i_sld B hX (6 * k + 2) (nI_add (6 * k) 2) (by omega) hL dL_law_576 ?_
    refine c_wiV (rest := [.int r1]) (As := [.int (xs (6 * k + 1)), .int (xs (6 * k + 2))]) B (k_X9_store l E mo qm g a  (xs (6 * k + 1)) (xs (6 * k + 2))) cal_yX9_store iv_yX9_store mlL_69 rfl 0 rfl (by decide) ⟨by show _ ≤ 203390; omega, by show _ ≤ 8492080; omega⟩ rfl (Nat.le_of_ble_eq_true rfl) [] (cW E q u1.1 a (upd (upd s 63 u1.2.1) 64 u1.2.2) t (.ref (q 49)) (sR E q (upd (upd s 63 u1.2.1) 64 u1.2.2) t)) rfl _ rfl dL_law_577 (fun r2 u2 h2 => ?_)
    refine i_world (ws' := mW E mo qm u2 a ++ cW E q u1.1 a (upd (upd s 63 u1.2.1) 64 u1.2.2) t (.ref (q 49)) (sR E q (upd (upd s 63 u1.2.1) 64 u1.2.2) t)) rfl ?_
    obtain ⟨h1, hd⟩ := h1
    obtain ⟨u1, w1⟩ := u1
    dsimp only at h1 hd
    obtain ⟨rfl, rfl⟩ := Prod.mk.inj (Eq.trans h1 (Eq.symm h2))
    have hI9 := IV_store hI h1
    have hM9 := MD_re (E := E) (q := q) (g' := u1) (a' := a) (nc' := nc) hri w1 (hd.imp (fun e => ⟨e.1, by (rw [e.2]; exact hri)⟩) id)
    refine i_icmp_eq B 1109 dL_law_580 (by decide) (fun _ => ?_) (fun h => absurd rfl h)
    refine i_widen (k := 100 + 5 * (k + 1)) (n := 20000 + 12418 * (k + 1)) (by omega) (by omega) ?_
    exact NX q u1 a (upd (upd s 63 w1.1) 64 w1.2) t (.ref (q 49)) (sR E q (upd (upd s 63 w1.1) 64 w1.2) t) _ _ _ _ _ rfl hI9 hM9

set_option maxHeartbeats 4000000 in
set_option maxRecDepth 100000 in
theorem lw_c13 {Z : CX} {l : Launch} {E : ED} {b L : Nat} {xs : Nat → Int32} (B : OK Z cL_law 4 RL room_1 E false l) (hX : ZX Z b L xs) (hL : L ≤ 3072) {mo qc : Nat} {qm : Nat → Nat} {k : Nat} (hk : 6 * k + 6 ≤ L) (hp : PUREs) (NX : LJ Z E mo qc qm b (k + 1) k 1109) : LJ Z E mo qc qm b k k 585 := by
  intro q g a s t RV X np nv nc nl nm hq hI hM
  subst hq
  obtain ⟨hve, hle, hok, p5, p6, p7, p13, p16, p17, p20, p21, p25⟩ := hp g a np nv nc nl nm hI
  obtain ⟨⟨hn, hnp, hv, hnv, hc, hnc, hl, hnl, hm, hnm⟩, ip, ie1, ie2, hpt, ic, iw, ilog, imk, hb1, hb2⟩ := id hI
  refine i_aload_n B 1 dL_law_585 rfl ?_
  refine i_aload_n B 0 dL_law_586 rfl ?_
  refine i_iload_n B 3 dL_law_587 rfl ?_
  refine i_iconst (v := 1) B dL_law_588 (by decide) ?_
  refine i_iadd B dL_law_589 ?_
  refine i_sld B hX (6 * k + 1) (nI_add (6 * k) 1) (by omega) hL dL_law_590 ?_
  refine i_aload_n B 0 dL_law_591 rfl ?_
  refine i_iload_n B 3 dL_law_592 rfl ?_
  refine i_iconst (v := 2) B dL_law_593 (by decide) ?_
  refine i_iadd B dL_law_594 ?_
  refine i_sld B hX (6 * k + 2) (nI_add (6 * k) 2) (by omega) hL dL_law_595 ?_
  refine i_aload_n B 0 dL_law_596 rfl ?_
  refine i_iload_n B 3 dL_law_597 rfl ?_
  refine i_iconst (v := 3) B dL_law_598 (by decide) ?_
  refine i_iadd B dL_law_599 ?_
  refine i_sld B hX (6 * k + 3) (nI_add (6 * k) 3) (by omega) hL dL_law_600 ?_
  refine i_aload_n B 0 dL_law_601 rfl ?_
  refine i_iload_n B 3 dL_law_602 rfl ?_
  refine i_iconst (v := 4) B dL_law_603 (by decide) ?_
  refine i_iadd B dL_law_604 ?_
  refine i_sld B hX (6 * k + 4) (nI_add (6 * k) 4) (by omega) hL dL_law_605 ?_
  refine c_roV (rest := []) (As := [.int (xs (6 * k + 1)), .int (xs (6 * k + 2)), .int (xs (6 * k + 3)), .int (xs (6 * k + 4))]) B (k_X8_leg l E q g a s t RV X nc hc hnc (xs (6 * k + 1)) (xs (6 * k + 2)) (xs (6 * k + 3)) (xs (6 * k + 4))) cal_yX8_leg iv_yX8_leg mlL_70 rfl 27 rfl (by decide) ⟨by show _ ≤ 203390; omega, by show _ ≤ 8492080; omega⟩ rfl (Nat.le_of_ble_eq_true rfl) (Has.mid (mW E mo qm g a) [] (by rw [List.append_nil])) _ rfl dL_law_606 (fun r1 h1 => ?_)
  refine i_aload_n B 2 dL_law_609 rfl ?_
  refine i_aload_n B 0 dL_law_610 rfl ?_
  refine i_iload_n B 3 dL_law_611 rfl ?_
  refine i_iconst (v := 1) B dL_law_612 (by decide) ?_
  refine i_iadd B dL_law_613 ?_
  refine i_sld B hX (6 * k + 1) (nI_add (6 * k) 1) (by omega) hL dL_law_614 ?_
  refine i_aload_n B 0 dL_law_615 rfl ?_
  refine i_iload_n B 3 dL_law_616 rfl ?_
  refine i_iconst (v := 2) B dL_law_617 (by decide) ?_
  refine i_iadd B dL_law_618 ?_
  refine i_sld B hX (6 * k + 2) (nI_add (6 * k) 2) (by omega) hL dL_law_619 ?_
  refine i_aload_n B 0 dL_law_620 rfl ?_
  refine i_iload_n B 3 dL_law_621 rfl ?_
  refine i_iconst (v := 3) B dL_law_622 (by decide) ?_
  refine i_iadd B dL_law_623 ?_
  refine i_sld B hX (6 * k + 3) (nI_add (6 * k) 3) (by omega) hL dL_law_624 ?_
  refine i_aload_n B 0 dL_law_625 rfl ?_
  refine i_iload_n B 3 dL_law_626 rfl ?_
  refine i_iconst (v := 4) B dL_law_627 (by decide) ?_
  refine i_iadd B dL_law_628 ?_
  refine i_sld B hX (6 * k + 4) (nI_add (6 * k) 4) (by omega) hL dL_law_629 ?_
  refine c_wiV (rest := [.int r1]) (As := [.int (xs (6 * k + 1)), .int (xs (6 * k + 2)), .int (xs (6 * k + 3)), .int (xs (6 * k + 4))]) B (k_X9_leg l E mo qm g a nc hc hnc (xs (6 * k + 1)) (xs (6 * k + 2)) (xs (6 * k + 3)) (xs (6 * k + 4))) cal_yX9_leg iv_yX9_leg mlL_73 rfl 0 rfl (by decide) ⟨by show _ ≤ 203390; omega, by show _ ≤ 8492080; omega⟩ rfl (Nat.le_of_ble_eq_true rfl) [] (cW E q g a s t RV X) rfl _ rfl dL_law_630 (fun r2 _ h2 => ?_)
  refine i_world (ws' := mW E mo qm g a ++ cW E q g a s t RV X) rfl ?_
  have e9 := Eq.trans h1 (Eq.trans (p13 _ _ _ _) (Eq.symm h2))
  subst e9
  refine i_icmp_eq B 1109 dL_law_633 (by decide) (fun _ => ?_) (fun h => absurd rfl h)
  refine i_widen (k := 100 + 5 * (k + 1)) (n := 20000 + 12418 * (k + 1)) (by omega) (by omega) ?_
  exact NX q g a s t RV X _ _ _ _ _ rfl hI hM

set_option maxHeartbeats 4000000 in
set_option maxRecDepth 100000 in
theorem lw_c14 {Z : CX} {l : Launch} {E : ED} {b L : Nat} {xs : Nat → Int32} (B : OK Z cL_law 4 RL room_1 E false l) (hX : ZX Z b L xs) (hL : L ≤ 3072) {mo qc : Nat} {qm : Nat → Nat} {k : Nat} (hk : 6 * k + 6 ≤ L) (hp : PUREs) (NX : LJ Z E mo qc qm b (k + 1) k 1109) : LJ Z E mo qc qm b k k 638 := by
  intro q g a s t RV X np nv nc nl nm hq hI hM
  subst hq
  obtain ⟨hve, hle, hok, p5, p6, p7, p13, p16, p17, p20, p21, p25⟩ := hp g a np nv nc nl nm hI
  obtain ⟨⟨hn, hnp, hv, hnv, hc, hnc, hl, hnl, hm, hnm⟩, ip, ie1, ie2, hpt, ic, iw, ilog, imk, hb1, hb2⟩ := id hI
  rcases hM with ⟨rfl, rfl⟩ | ⟨rfl, rfl, hri⟩
  · refine i_aload_n B 1 dL_law_638 rfl ?_
    refine i_aload_n B 0 dL_law_639 rfl ?_
    refine i_iload_n B 3 dL_law_640 rfl ?_
    refine i_iconst (v := 1) B dL_law_641 (by decide) ?_
    refine i_iadd B dL_law_642 ?_
    refine i_sld B hX (6 * k + 1) (nI_add (6 * k) 1) (by omega) hL dL_law_643 ?_
    refine c_wiV (rest := []) (As := [.int (xs (6 * k + 1))]) B (k_X8_roundN l E q g a s t nc hc hnc nv hv hnv ⟨hb1, hb2⟩ hle hpt (xs (6 * k + 1))) cal_yX8_round iv_yX8_round mlL_74 rfl 27 rfl (by decide) ⟨by show _ ≤ 203390; omega, by show _ ≤ 8492080; omega⟩ rfl (Nat.le_of_ble_eq_true rfl) (mW E mo qm g a) [] (by rw [List.append_nil]) _ rfl dL_law_644 (fun r1 u1 h1 => ?_)
    obtain ⟨h1, hs1⟩ := h1
    rcases u1 with _ | v1
    · refine i_world (ws' := mW E mo qm g a ++ cW E q g a s t .null []) (congrArg (mW E mo qm g a ++ ·) (List.append_nil _)) ?_
      refine i_aload_n B 2 dL_law_647 rfl ?_
      refine i_aload_n B 0 dL_law_648 rfl ?_
      refine i_iload_n B 3 dL_law_649 rfl ?_
      refine i_iconst (v := 1) B dL_law_650 (by decide) ?_
      refine i_iadd B dL_law_651 ?_
      refine i_sld B hX (6 * k + 1) (nI_add (6 * k) 1) (by omega) hL dL_law_652 ?_
      refine c_wiV (rest := [.int r1]) (As := [.int (xs (6 * k + 1))]) B (k_X9_round l E mo qm g a nc hc hnc nv hv hnv hpt (xs (6 * k + 1))) cal_yX9_round iv_yX9_round mlL_77 rfl 0 rfl (by decide) ⟨by show _ ≤ 203390; omega, by show _ ≤ 8492080; omega⟩ rfl (Nat.le_of_ble_eq_true rfl) [] (cW E q g a s t .null []) rfl _ rfl dL_law_653 (fun r2 u2 h2 => ?_)
      refine i_world (ws' := mW E mo qm g (va_up (va_up a 30 u2.1) 31 u2.2) ++ cW E q g a s t .null []) rfl ?_
      have e9 := Eq.trans h1 (Eq.trans (rou_eq _ _ _ _ _) (Eq.symm h2))
      subst e9
      refine i_world (ws' := mW E mo qm g (va_up (va_up a 30 u2.1) 31 u2.2) ++ cW E q g (va_up (va_up a 30 u2.1) 31 u2.2) s t .null []) rfl ?_
      refine i_icmp_eq B 1109 dL_law_656 (by decide) (fun _ => ?_) (fun h => absurd rfl h)
      refine i_widen (k := 100 + 5 * (k + 1)) (n := 20000 + 12418 * (k + 1)) (by omega) (by omega) ?_
      exact NX q g (va_up (va_up a 30 u2.1) 31 u2.2) s t .null [] _ _ _ _ _ rfl (show IV g (va_up (va_up a 30 u2.1) 31 u2.2) np nv nc nl nm from hI) (Or.inl ⟨rfl, rfl⟩)
    · refine i_world (ws' := mW E mo qm g a ++ cW E v1.1 g a v1.2.1 v1.2.2 (.ref (v1.1 49)) (sR E v1.1 v1.2.1 v1.2.2)) (congrArg (mW E mo qm g a ++ ·) (List.append_nil _)) ?_
      refine i_aload_n B 2 dL_law_647 rfl ?_
      refine i_aload_n B 0 dL_law_648 rfl ?_
      refine i_iload_n B 3 dL_law_649 rfl ?_
      refine i_iconst (v := 1) B dL_law_650 (by decide) ?_
      refine i_iadd B dL_law_651 ?_
      refine i_sld B hX (6 * k + 1) (nI_add (6 * k) 1) (by omega) hL dL_law_652 ?_
      refine c_wiV (rest := [.int r1]) (As := [.int (xs (6 * k + 1))]) B (k_X9_round l E mo qm g a nc hc hnc nv hv hnv hpt (xs (6 * k + 1))) cal_yX9_round iv_yX9_round mlL_77 rfl 0 rfl (by decide) ⟨by show _ ≤ 203390; omega, by show _ ≤ 8492080; omega⟩ rfl (Nat.le_of_ble_eq_true rfl) [] (cW E v1.1 g a v1.2.1 v1.2.2 (.ref (v1.1 49)) (sR E v1.1 v1.2.1 v1.2.2)) rfl _ rfl dL_law_653 (fun r2 u2 h2 => ?_)
      refine i_world (ws' := mW E mo qm g (va_up (va_up a 30 u2.1) 31 u2.2) ++ cW E v1.1 g a v1.2.1 v1.2.2 (.ref (v1.1 49)) (sR E v1.1 v1.2.1 v1.2.2)) rfl ?_
      have e9 := Eq.trans h1 (Eq.trans (rou_eq _ _ _ _ _) (Eq.symm h2))
      subst e9
      refine i_world (ws' := mW E mo qm g (va_up (va_up a 30 u2.1) 31 u2.2) ++ cW E v1.1 g (va_up (va_up a 30 u2.1) 31 u2.2) v1.2.1 v1.2.2 (.ref (v1.1 49)) (sR E v1.1 v1.2.1 v1.2.2)) rfl ?_
      refine i_icmp_eq B 1109 dL_law_656 (by decide) (fun _ => ?_) (fun h => absurd rfl h)
      refine i_widen (k := 100 + 5 * (k + 1)) (n := 20000 + 12418 * (k + 1)) (by omega) (by omega) ?_
      exact NX v1.1 g (va_up (va_up a 30 u2.1) 31 u2.2) v1.2.1 v1.2.2 (.ref (v1.1 49)) (sR E v1.1 v1.2.1 v1.2.2) _ _ _ _ _ (hs1 v1 rfl).2 (show IV g (va_up (va_up a 30 u2.1) 31 u2.2) np nv nc nl nm from hI) (MD_cg (Or.inr ⟨rfl, rfl, (hs1 v1 rfl).1⟩) rfl rfl rfl rfl rfl rfl rfl rfl rfl rfl)
  · refine i_aload_n B 1 dL_law_638 rfl ?_
    refine i_aload_n B 0 dL_law_639 rfl ?_
    refine i_iload_n B 3 dL_law_640 rfl ?_
    refine i_iconst (v := 1) B dL_law_641 (by decide) ?_
    refine i_iadd B dL_law_642 ?_
    refine i_sld B hX (6 * k + 1) (nI_add (6 * k) 1) (by omega) hL dL_law_643 ?_
    refine c_wiV (rest := []) (As := [.int (xs (6 * k + 1))]) B (k_X8_roundR l E q g a s t nc hc hnc nv hv hnv ⟨hb1, hb2⟩ hle hpt hri (xs (6 * k + 1))) cal_yX8_round iv_yX8_round mlL_74 rfl 27 rfl (by decide) ⟨by show _ ≤ 203390; omega, by show _ ≤ 8492080; omega⟩ rfl (Nat.le_of_ble_eq_true rfl) (mW E mo qm g a) [] (by rw [List.append_nil]) _ rfl dL_law_644 (fun r1 u1 h1 => ?_)
    refine i_world (ws' := mW E mo qm g a ++ cW E q g a u1.1 u1.2 (.ref (q 49)) (sR E q u1.1 u1.2)) (congrArg (mW E mo qm g a ++ ·) (List.append_nil _)) ?_
    refine i_aload_n B 2 dL_law_647 rfl ?_
    refine i_aload_n B 0 dL_law_648 rfl ?_
    refine i_iload_n B 3 dL_law_649 rfl ?_
    refine i_iconst (v := 1) B dL_law_650 (by decide) ?_
    refine i_iadd B dL_law_651 ?_
    refine i_sld B hX (6 * k + 1) (nI_add (6 * k) 1) (by omega) hL dL_law_652 ?_
    refine c_wiV (rest := [.int r1]) (As := [.int (xs (6 * k + 1))]) B (k_X9_round l E mo qm g a nc hc hnc nv hv hnv hpt (xs (6 * k + 1))) cal_yX9_round iv_yX9_round mlL_77 rfl 0 rfl (by decide) ⟨by show _ ≤ 203390; omega, by show _ ≤ 8492080; omega⟩ rfl (Nat.le_of_ble_eq_true rfl) [] (cW E q g a u1.1 u1.2 (.ref (q 49)) (sR E q u1.1 u1.2)) rfl _ rfl dL_law_653 (fun r2 u2 h2 => ?_)
    refine i_world (ws' := mW E mo qm g (va_up (va_up a 30 u2.1) 31 u2.2) ++ cW E q g a u1.1 u1.2 (.ref (q 49)) (sR E q u1.1 u1.2)) rfl ?_
    obtain ⟨h1, hs1⟩ := h1
    have e9 := Eq.trans h1 (Eq.trans (rou_eq _ _ _ _ _) (Eq.symm h2))
    subst e9
    refine i_world (ws' := mW E mo qm g (va_up (va_up a 30 u2.1) 31 u2.2) ++ cW E q g (va_up (va_up a 30 u2.1) 31 u2.2) u1.1 u1.2 (.ref (q 49)) (sR E q u1.1 u1.2)) rfl ?_
    refine i_icmp_eq B 1109 dL_law_656 (by decide) (fun _ => ?_) (fun h => absurd rfl h)
    refine i_widen (k := 100 + 5 * (k + 1)) (n := 20000 + 12418 * (k + 1)) (by omega) (by omega) ?_
    exact NX q g (va_up (va_up a 30 u2.1) 31 u2.2) u1.1 u1.2 (.ref (q 49)) (sR E q u1.1 u1.2) _ _ _ _ _ rfl (show IV g (va_up (va_up a 30 u2.1) 31 u2.2) np nv nc nl nm from hI) (MD_cg (Or.inr ⟨rfl, rfl, hs1⟩) rfl rfl rfl rfl rfl rfl rfl rfl rfl rfl)

set_option maxHeartbeats 4000000 in
set_option maxRecDepth 100000 in
theorem lw_c15 {Z : CX} {l : Launch} {E : ED} {b L : Nat} {xs : Nat → Int32} (B : OK Z cL_law 4 RL room_1 E false l) (hX : ZX Z b L xs) (hL : L ≤ 3072) {mo qc : Nat} {qm : Nat → Nat} {k : Nat} (hk : 6 * k + 6 ≤ L) (hp : PUREs) (NX : LJ Z E mo qc qm b (k + 1) k 1109) : LJ Z E mo qc qm b k k 661 := by
  intro q g a s t RV X np nv nc nl nm hq hI hM
  subst hq
  obtain ⟨hve, hle, hok, p5, p6, p7, p13, p16, p17, p20, p21, p25⟩ := hp g a np nv nc nl nm hI
  obtain ⟨⟨hn, hnp, hv, hnv, hc, hnc, hl, hnl, hm, hnm⟩, ip, ie1, ie2, hpt, ic, iw, ilog, imk, hb1, hb2⟩ := id hI
  rcases hM with ⟨rfl, rfl⟩ | ⟨rfl, rfl, hri⟩
  · refine i_aload_n B 1 dL_law_661 rfl ?_
    refine i_aload_n B 0 dL_law_662 rfl ?_
    refine i_iload_n B 3 dL_law_663 rfl ?_
    refine i_iconst (v := 1) B dL_law_664 (by decide) ?_
    refine i_iadd B dL_law_665 ?_
    refine i_sld B hX (6 * k + 1) (nI_add (6 * k) 1) (by omega) hL dL_law_666 ?_
    refine i_aload_n B 0 dL_law_667 rfl ?_
    refine i_iload_n B 3 dL_law_668 rfl ?_
    refine i_iconst (v := 2) B dL_law_669 (by decide) ?_
    refine i_iadd B dL_law_670 ?_
    refine i_sld B hX (6 * k + 2) (nI_add (6 * k) 2) (by omega) hL dL_law_671 ?_
    refine c_wiV (rest := []) (As := [.int (xs (6 * k + 1)), .int (xs (6 * k + 2))]) B (k_X8_stopN l E q g a s t nc hc hnc nv hv hnv ⟨hb1, hb2⟩ hle hpt hok (xs (6 * k + 1)) (xs (6 * k + 2))) cal_yX8_stop iv_yX8_stop mlL_78 rfl 27 rfl (by decide) ⟨by show _ ≤ 203390; omega, by show _ ≤ 8492080; omega⟩ rfl (Nat.le_of_ble_eq_true rfl) (mW E mo qm g a) [] (by rw [List.append_nil]) _ rfl dL_law_672 (fun r1 u1 h1 => ?_)
    obtain ⟨h1, hs1⟩ := h1
    rcases u1 with _ | v1
    · refine i_world (ws' := mW E mo qm g a ++ cW E q g a s t .null []) (congrArg (mW E mo qm g a ++ ·) (List.append_nil _)) ?_
      refine i_aload_n B 2 dL_law_675 rfl ?_
      refine i_aload_n B 0 dL_law_676 rfl ?_
      refine i_iload_n B 3 dL_law_677 rfl ?_
      refine i_iconst (v := 1) B dL_law_678 (by decide) ?_
      refine i_iadd B dL_law_679 ?_
      refine i_sld B hX (6 * k + 1) (nI_add (6 * k) 1) (by omega) hL dL_law_680 ?_
      refine i_aload_n B 0 dL_law_681 rfl ?_
      refine i_iload_n B 3 dL_law_682 rfl ?_
      refine i_iconst (v := 2) B dL_law_683 (by decide) ?_
      refine i_iadd B dL_law_684 ?_
      refine i_sld B hX (6 * k + 2) (nI_add (6 * k) 2) (by omega) hL dL_law_685 ?_
      refine c_wiV (rest := [.int r1]) (As := [.int (xs (6 * k + 1)), .int (xs (6 * k + 2))]) B (k_X9_stop l E mo qm g a nc hc hnc nv hv hnv hpt hok (xs (6 * k + 1)) (xs (6 * k + 2))) cal_yX9_stop iv_yX9_stop mlL_81 rfl 0 rfl (by decide) ⟨by show _ ≤ 203390; omega, by show _ ≤ 8492080; omega⟩ rfl (Nat.le_of_ble_eq_true rfl) [] (cW E q g a s t .null []) rfl _ rfl dL_law_686 (fun r2 u2 h2 => ?_)
      refine i_world (ws' := mW E mo qm g (va_up (va_up a 30 u2.1) 31 u2.2) ++ cW E q g a s t .null []) rfl ?_
      have e9 := Eq.trans h1 (Eq.trans (sto_eq _ _ _ _ _ _) (Eq.symm h2))
      subst e9
      refine i_world (ws' := mW E mo qm g (va_up (va_up a 30 u2.1) 31 u2.2) ++ cW E q g (va_up (va_up a 30 u2.1) 31 u2.2) s t .null []) rfl ?_
      refine i_icmp_eq B 1109 dL_law_689 (by decide) (fun _ => ?_) (fun h => absurd rfl h)
      refine i_widen (k := 100 + 5 * (k + 1)) (n := 20000 + 12418 * (k + 1)) (by omega) (by omega) ?_
      exact NX q g (va_up (va_up a 30 u2.1) 31 u2.2) s t .null [] _ _ _ _ _ rfl (show IV g (va_up (va_up a 30 u2.1) 31 u2.2) np nv nc nl nm from hI) (Or.inl ⟨rfl, rfl⟩)
    · refine i_world (ws' := mW E mo qm g a ++ cW E v1.1 g a v1.2.1 v1.2.2 (.ref (v1.1 49)) (sR E v1.1 v1.2.1 v1.2.2)) (congrArg (mW E mo qm g a ++ ·) (List.append_nil _)) ?_
      refine i_aload_n B 2 dL_law_675 rfl ?_
      refine i_aload_n B 0 dL_law_676 rfl ?_
      refine i_iload_n B 3 dL_law_677 rfl ?_
      refine i_iconst (v := 1) B dL_law_678 (by decide) ?_
      refine i_iadd B dL_law_679 ?_
      refine i_sld B hX (6 * k + 1) (nI_add (6 * k) 1) (by omega) hL dL_law_680 ?_
      refine i_aload_n B 0 dL_law_681 rfl ?_
      refine i_iload_n B 3 dL_law_682 rfl ?_
      refine i_iconst (v := 2) B dL_law_683 (by decide) ?_
      refine i_iadd B dL_law_684 ?_
      refine i_sld B hX (6 * k + 2) (nI_add (6 * k) 2) (by omega) hL dL_law_685 ?_
      refine c_wiV (rest := [.int r1]) (As := [.int (xs (6 * k + 1)), .int (xs (6 * k + 2))]) B (k_X9_stop l E mo qm g a nc hc hnc nv hv hnv hpt hok (xs (6 * k + 1)) (xs (6 * k + 2))) cal_yX9_stop iv_yX9_stop mlL_81 rfl 0 rfl (by decide) ⟨by show _ ≤ 203390; omega, by show _ ≤ 8492080; omega⟩ rfl (Nat.le_of_ble_eq_true rfl) [] (cW E v1.1 g a v1.2.1 v1.2.2 (.ref (v1.1 49)) (sR E v1.1 v1.2.1 v1.2.2)) rfl _ rfl dL_law_686 (fun r2 u2 h2 => ?_)
      refine i_world (ws' := mW E mo qm g (va_up (va_up a 30 u2.1) 31 u2.2) ++ cW E v1.1 g a v1.2.1 v1.2.2 (.ref (v1.1 49)) (sR E v1.1 v1.2.1 v1.2.2)) rfl ?_
      have e9 := Eq.trans h1 (Eq.trans (sto_eq _ _ _ _ _ _) (Eq.symm h2))
      subst e9
      refine i_world (ws' := mW E mo qm g (va_up (va_up a 30 u2.1) 31 u2.2) ++ cW E v1.1 g (va_up (va_up a 30 u2.1) 31 u2.2) v1.2.1 v1.2.2 (.ref (v1.1 49)) (sR E v1.1 v1.2.1 v1.2.2)) rfl ?_
      refine i_icmp_eq B 1109 dL_law_689 (by decide) (fun _ => ?_) (fun h => absurd rfl h)
      refine i_widen (k := 100 + 5 * (k + 1)) (n := 20000 + 12418 * (k + 1)) (by omega) (by omega) ?_
      exact NX v1.1 g (va_up (va_up a 30 u2.1) 31 u2.2) v1.2.1 v1.2.2 (.ref (v1.1 49)) (sR E v1.1 v1.2.1 v1.2.2) _ _ _ _ _ (hs1 v1 rfl).2 (show IV g (va_up (va_up a 30 u2.1) 31 u2.2) np nv nc nl nm from hI) (MD_cg (Or.inr ⟨rfl, rfl, (hs1 v1 rfl).1⟩) rfl rfl rfl rfl rfl rfl rfl rfl rfl rfl)
  · refine i_aload_n B 1 dL_law_661 rfl ?_
    refine i_aload_n B 0 dL_law_662 rfl ?_
    refine i_iload_n B 3 dL_law_663 rfl ?_
    refine i_iconst (v := 1) B dL_law_664 (by decide) ?_
    refine i_iadd B dL_law_665 ?_
    refine i_sld B hX (6 * k + 1) (nI_add (6 * k) 1) (by omega) hL dL_law_666 ?_
    refine i_aload_n B 0 dL_law_667 rfl ?_
    refine i_iload_n B 3 dL_law_668 rfl ?_
    refine i_iconst (v := 2) B dL_law_669 (by decide) ?_
    refine i_iadd B dL_law_670 ?_
    refine i_sld B hX (6 * k + 2) (nI_add (6 * k) 2) (by omega) hL dL_law_671 ?_
    refine c_wiV (rest := []) (As := [.int (xs (6 * k + 1)), .int (xs (6 * k + 2))]) B (k_X8_stopR l E q g a s t nc hc hnc nv hv hnv ⟨hb1, hb2⟩ hle hpt hri hok (xs (6 * k + 1)) (xs (6 * k + 2))) cal_yX8_stop iv_yX8_stop mlL_78 rfl 27 rfl (by decide) ⟨by show _ ≤ 203390; omega, by show _ ≤ 8492080; omega⟩ rfl (Nat.le_of_ble_eq_true rfl) (mW E mo qm g a) [] (by rw [List.append_nil]) _ rfl dL_law_672 (fun r1 u1 h1 => ?_)
    refine i_world (ws' := mW E mo qm g a ++ cW E q g a u1.1 u1.2 (.ref (q 49)) (sR E q u1.1 u1.2)) (congrArg (mW E mo qm g a ++ ·) (List.append_nil _)) ?_
    refine i_aload_n B 2 dL_law_675 rfl ?_
    refine i_aload_n B 0 dL_law_676 rfl ?_
    refine i_iload_n B 3 dL_law_677 rfl ?_
    refine i_iconst (v := 1) B dL_law_678 (by decide) ?_
    refine i_iadd B dL_law_679 ?_
    refine i_sld B hX (6 * k + 1) (nI_add (6 * k) 1) (by omega) hL dL_law_680 ?_
    refine i_aload_n B 0 dL_law_681 rfl ?_
    refine i_iload_n B 3 dL_law_682 rfl ?_
    refine i_iconst (v := 2) B dL_law_683 (by decide) ?_
    refine i_iadd B dL_law_684 ?_
    refine i_sld B hX (6 * k + 2) (nI_add (6 * k) 2) (by omega) hL dL_law_685 ?_
    refine c_wiV (rest := [.int r1]) (As := [.int (xs (6 * k + 1)), .int (xs (6 * k + 2))]) B (k_X9_stop l E mo qm g a nc hc hnc nv hv hnv hpt hok (xs (6 * k + 1)) (xs (6 * k + 2))) cal_yX9_stop iv_yX9_stop mlL_81 rfl 0 rfl (by decide) ⟨by show _ ≤ 203390; omega, by show _ ≤ 8492080; omega⟩ rfl (Nat.le_of_ble_eq_true rfl) [] (cW E q g a u1.1 u1.2 (.ref (q 49)) (sR E q u1.1 u1.2)) rfl _ rfl dL_law_686 (fun r2 u2 h2 => ?_)
    refine i_world (ws' := mW E mo qm g (va_up (va_up a 30 u2.1) 31 u2.2) ++ cW E q g a u1.1 u1.2 (.ref (q 49)) (sR E q u1.1 u1.2)) rfl ?_
    obtain ⟨h1, hs1⟩ := h1
    have e9 := Eq.trans h1 (Eq.trans (sto_eq _ _ _ _ _ _) (Eq.symm h2))
    subst e9
    refine i_world (ws' := mW E mo qm g (va_up (va_up a 30 u2.1) 31 u2.2) ++ cW E q g (va_up (va_up a 30 u2.1) 31 u2.2) u1.1 u1.2 (.ref (q 49)) (sR E q u1.1 u1.2)) rfl ?_
    refine i_icmp_eq B 1109 dL_law_689 (by decide) (fun _ => ?_) (fun h => absurd rfl h)
    refine i_widen (k := 100 + 5 * (k + 1)) (n := 20000 + 12418 * (k + 1)) (by omega) (by omega) ?_
    exact NX q g (va_up (va_up a 30 u2.1) 31 u2.2) u1.1 u1.2 (.ref (q 49)) (sR E q u1.1 u1.2) _ _ _ _ _ rfl (show IV g (va_up (va_up a 30 u2.1) 31 u2.2) np nv nc nl nm from hI) (MD_cg (Or.inr ⟨rfl, rfl, hs1⟩) rfl rfl rfl rfl rfl rfl rfl rfl rfl rfl)

set_option maxHeartbeats 4000000 in
set_option maxRecDepth 100000 in
theorem lw_c16 {Z : CX} {l : Launch} {E : ED} {b L : Nat} {xs : Nat → Int32} (B : OK Z cL_law 4 RL room_1 E false l) (hX : ZX Z b L xs) (hL : L ≤ 3072) {mo qc : Nat} {qm : Nat → Nat} {k : Nat} (hk : 6 * k + 6 ≤ L) (hp : PUREs) (NX : LJ Z E mo qc qm b (k + 1) k 1109) : LJ Z E mo qc qm b k k 694 := by
  intro q g a s t RV X np nv nc nl nm hq hI hM
  subst hq
  obtain ⟨hve, hle, hok, p5, p6, p7, p13, p16, p17, p20, p21, p25⟩ := hp g a np nv nc nl nm hI
  obtain ⟨⟨hn, hnp, hv, hnv, hc, hnc, hl, hnl, hm, hnm⟩, ip, ie1, ie2, hpt, ic, iw, ilog, imk, hb1, hb2⟩ := id hI
  rcases hM with ⟨rfl, rfl⟩ | ⟨rfl, rfl, hri⟩
  · refine i_aload_n B 1 dL_law_694 rfl ?_
    refine i_aload_n B 0 dL_law_695 rfl ?_
    refine i_iload_n B 3 dL_law_696 rfl ?_
    refine i_iconst (v := 1) B dL_law_697 (by decide) ?_
    refine i_iadd B dL_law_698 ?_
    refine i_sld B hX (6 * k + 1) (nI_add (6 * k) 1) (by omega) hL dL_law_699 ?_
    refine c_wiV (rest := []) (As := [.int (xs (6 * k + 1))]) B (k_X8_flightsN l E q g a s t nc hc hnc nv hv hnv ⟨hb1, hb2⟩ hle hpt (xs (6 * k + 1))) cal_yX8_flights iv_yX8_flights mlL_82 rfl 27 rfl (by decide) ⟨by show _ ≤ 203390; omega, by show _ ≤ 8492080; omega⟩ rfl (Nat.le_of_ble_eq_true rfl) (mW E mo qm g a) [] (by rw [List.append_nil]) _ rfl dL_law_700 (fun r1 u1 h1 => ?_)
    obtain ⟨h1, hs1⟩ := h1
    rcases u1 with _ | v1
    · refine i_world (ws' := mW E mo qm g a ++ cW E q g a s t .null []) (congrArg (mW E mo qm g a ++ ·) (List.append_nil _)) ?_
      refine i_aload_n B 2 dL_law_703 rfl ?_
      refine i_aload_n B 0 dL_law_704 rfl ?_
      refine i_iload_n B 3 dL_law_705 rfl ?_
      refine i_iconst (v := 1) B dL_law_706 (by decide) ?_
      refine i_iadd B dL_law_707 ?_
      refine i_sld B hX (6 * k + 1) (nI_add (6 * k) 1) (by omega) hL dL_law_708 ?_
      refine c_wiV (rest := [.int r1]) (As := [.int (xs (6 * k + 1))]) B (k_X9_flights l E mo qm g a nc hc hnc nv hv hnv hpt (xs (6 * k + 1))) cal_yX9_flights iv_yX9_flights mlL_85 rfl 0 rfl (by decide) ⟨by show _ ≤ 203390; omega, by show _ ≤ 8492080; omega⟩ rfl (Nat.le_of_ble_eq_true rfl) [] (cW E q g a s t .null []) rfl _ rfl dL_law_709 (fun r2 u2 h2 => ?_)
      refine i_world (ws' := mW E mo qm g (va_up (va_up (va_up (va_up a 30 u2.1) 31 u2.2.1) 32 u2.2.2.1) 33 u2.2.2.2) ++ cW E q g a s t .null []) rfl ?_
      have e9 := Eq.trans h1 (Eq.trans (p16 _) (Eq.symm h2))
      subst e9
      refine i_world (ws' := mW E mo qm g (va_up (va_up (va_up (va_up a 30 u2.1) 31 u2.2.1) 32 u2.2.2.1) 33 u2.2.2.2) ++ cW E q g (va_up (va_up (va_up (va_up a 30 u2.1) 31 u2.2.1) 32 u2.2.2.1) 33 u2.2.2.2) s t .null []) rfl ?_
      refine i_icmp_eq B 1109 dL_law_712 (by decide) (fun _ => ?_) (fun h => absurd rfl h)
      refine i_widen (k := 100 + 5 * (k + 1)) (n := 20000 + 12418 * (k + 1)) (by omega) (by omega) ?_
      exact NX q g (va_up (va_up (va_up (va_up a 30 u2.1) 31 u2.2.1) 32 u2.2.2.1) 33 u2.2.2.2) s t .null [] _ _ _ _ _ rfl (show IV g (va_up (va_up (va_up (va_up a 30 u2.1) 31 u2.2.1) 32 u2.2.2.1) 33 u2.2.2.2) np nv nc nl nm from hI) (Or.inl ⟨rfl, rfl⟩)
    · refine i_world (ws' := mW E mo qm g a ++ cW E v1.1 g a v1.2.1 v1.2.2 (.ref (v1.1 49)) (sR E v1.1 v1.2.1 v1.2.2)) (congrArg (mW E mo qm g a ++ ·) (List.append_nil _)) ?_
      refine i_aload_n B 2 dL_law_703 rfl ?_
      refine i_aload_n B 0 dL_law_704 rfl ?_
      refine i_iload_n B 3 dL_law_705 rfl ?_
      refine i_iconst (v := 1) B dL_law_706 (by decide) ?_
      refine i_iadd B dL_law_707 ?_
      refine i_sld B hX (6 * k + 1) (nI_add (6 * k) 1) (by omega) hL dL_law_708 ?_
      refine c_wiV (rest := [.int r1]) (As := [.int (xs (6 * k + 1))]) B (k_X9_flights l E mo qm g a nc hc hnc nv hv hnv hpt (xs (6 * k + 1))) cal_yX9_flights iv_yX9_flights mlL_85 rfl 0 rfl (by decide) ⟨by show _ ≤ 203390; omega, by show _ ≤ 8492080; omega⟩ rfl (Nat.le_of_ble_eq_true rfl) [] (cW E v1.1 g a v1.2.1 v1.2.2 (.ref (v1.1 49)) (sR E v1.1 v1.2.1 v1.2.2)) rfl _ rfl dL_law_709 (fun r2 u2 h2 => ?_)
      refine i_world (ws' := mW E mo qm g (va_up (va_up (va_up (va_up a 30 u2.1) 31 u2.2.1) 32 u2.2.2.1) 33 u2.2.2.2) ++ cW E v1.1 g a v1.2.1 v1.2.2 (.ref (v1.1 49)) (sR E v1.1 v1.2.1 v1.2.2)) rfl ?_
      have e9 := Eq.trans h1 (Eq.trans (p16 _) (Eq.symm h2))
      subst e9
      refine i_world (ws' := mW E mo qm g (va_up (va_up (va_up (va_up a 30 u2.1) 31 u2.2.1) 32 u2.2.2.1) 33 u2.2.2.2) ++ cW E v1.1 g (va_up (va_up (va_up (va_up a 30 u2.1) 31 u2.2.1) 32 u2.2.2.1) 33 u2.2.2.2) v1.2.1 v1.2.2 (.ref (v1.1 49)) (sR E v1.1 v1.2.1 v1.2.2)) rfl ?_
      refine i_icmp_eq B 1109 dL_law_712 (by decide) (fun _ => ?_) (fun h => absurd rfl h)
      refine i_widen (k := 100 + 5 * (k + 1)) (n := 20000 + 12418 * (k + 1)) (by omega) (by omega) ?_
      exact NX v1.1 g (va_up (va_up (va_up (va_up a 30 u2.1) 31 u2.2.1) 32 u2.2.2.1) 33 u2.2.2.2) v1.2.1 v1.2.2 (.ref (v1.1 49)) (sR E v1.1 v1.2.1 v1.2.2) _ _ _ _ _ (hs1 v1 rfl).2 (show IV g (va_up (va_up (va_up (va_up a 30 u2.1) 31 u2.2.1) 32 u2.2.2.1) 33 u2.2.2.2) np nv nc nl nm from hI) (MD_cg (Or.inr ⟨rfl, rfl, (hs1 v1 rfl).1⟩) rfl rfl rfl rfl rfl rfl rfl rfl rfl rfl)
  · refine i_aload_n B 1 dL_law_694 rfl ?_
    refine i_aload_n B 0 dL_law_695 rfl ?_
    refine i_iload_n B 3 dL_law_696 rfl ?_
    refine i_iconst (v := 1) B dL_law_697 (by decide) ?_
    refine i_iadd B dL_law_698 ?_
    refine i_sld B hX (6 * k + 1) (nI_add (6 * k) 1) (by omega) hL dL_law_699 ?_
    refine c_wiV (rest := []) (As := [.int (xs (6 * k + 1))]) B (k_X8_flightsR l E q g a s t nc hc hnc nv hv hnv ⟨hb1, hb2⟩ hle hpt hri (xs (6 * k + 1))) cal_yX8_flights iv_yX8_flights mlL_82 rfl 27 rfl (by decide) ⟨by show _ ≤ 203390; omega, by show _ ≤ 8492080; omega⟩ rfl (Nat.le_of_ble_eq_true rfl) (mW E mo qm g a) [] (by rw [List.append_nil]) _ rfl dL_law_700 (fun r1 u1 h1 => ?_)
    refine i_world (ws' := mW E mo qm g a ++ cW E q g a u1.1 u1.2 (.ref (q 49)) (sR E q u1.1 u1.2)) (congrArg (mW E mo qm g a ++ ·) (List.append_nil _)) ?_
    refine i_aload_n B 2 dL_law_703 rfl ?_
    refine i_aload_n B 0 dL_law_704 rfl ?_
    refine i_iload_n B 3 dL_law_705 rfl ?_
    refine i_iconst (v := 1) B dL_law_706 (by decide) ?_
    refine i_iadd B dL_law_707 ?_
    refine i_sld B hX (6 * k + 1) (nI_add (6 * k) 1) (by omega) hL dL_law_708 ?_
    refine c_wiV (rest := [.int r1]) (As := [.int (xs (6 * k + 1))]) B (k_X9_flights l E mo qm g a nc hc hnc nv hv hnv hpt (xs (6 * k + 1))) cal_yX9_flights iv_yX9_flights mlL_85 rfl 0 rfl (by decide) ⟨by show _ ≤ 203390; omega, by show _ ≤ 8492080; omega⟩ rfl (Nat.le_of_ble_eq_true rfl) [] (cW E q g a u1.1 u1.2 (.ref (q 49)) (sR E q u1.1 u1.2)) rfl _ rfl dL_law_709 (fun r2 u2 h2 => ?_)
    refine i_world (ws' := mW E mo qm g (va_up (va_up (va_up (va_up a 30 u2.1) 31 u2.2.1) 32 u2.2.2.1) 33 u2.2.2.2) ++ cW E q g a u1.1 u1.2 (.ref (q 49)) (sR E q u1.1 u1.2)) rfl ?_
    obtain ⟨h1, hs1⟩ := h1
    have e9 := Eq.trans h1 (Eq.trans (p16 _) (Eq.symm h2))
    subst e9
    refine i_world (ws' := mW E mo qm g (va_up (va_up (va_up (va_up a 30 u2.1) 31 u2.2.1) 32 u2.2.2.1) 33 u2.2.2.2) ++ cW E q g (va_up (va_up (va_up (va_up a 30 u2.1) 31 u2.2.1) 32 u2.2.2.1) 33 u2.2.2.2) u1.1 u1.2 (.ref (q 49)) (sR E q u1.1 u1.2)) rfl ?_
    refine i_icmp_eq B 1109 dL_law_712 (by decide) (fun _ => ?_) (fun h => absurd rfl h)
    refine i_widen (k := 100 + 5 * (k + 1)) (n := 20000 + 12418 * (k + 1)) (by omega) (by omega) ?_
    exact NX q g (va_up (va_up (va_up (va_up a 30 u2.1) 31 u2.2.1) 32 u2.2.2.1) 33 u2.2.2.2) u1.1 u1.2 (.ref (q 49)) (sR E q u1.1 u1.2) _ _ _ _ _ rfl (show IV g (va_up (va_up (va_up (va_up a 30 u2.1) 31 u2.2.1) 32 u2.2.2.1) 33 u2.2.2.2) np nv nc nl nm from hI) (MD_cg (Or.inr ⟨rfl, rfl, hs1⟩) rfl rfl rfl rfl rfl rfl rfl rfl rfl rfl)

set_option maxHeartbeats 4000000 in
set_option maxRecDepth 100000 in
theorem lw_c17 {Z : CX} {l : Launch} {E : ED} {b L : Nat} {xs : Nat → Int32} (B : OK Z cL_law 4 RL room_1 E false l) (hX : ZX Z b L xs) (hL : L ≤ 3072) {mo qc : Nat} {qm : Nat → Nat} {k : Nat} (hk : 6 * k + 6 ≤ L) (hp : PUREs) (NX : LJ Z E mo qc qm b (k + 1) k 1109) : LJ Z E mo qc qm b k k 717 := by
  intro q g a s t RV X np nv nc nl nm hq hI hM
  subst hq
  obtain ⟨hve, hle, hok, p5, p6, p7, p13, p16, p17, p20, p21, p25⟩ := hp g a np nv nc nl nm hI
  obtain ⟨⟨hn, hnp, hv, hnv, hc, hnc, hl, hnl, hm, hnm⟩, ip, ie1, ie2, hpt, ic, iw, ilog, imk, hb1, hb2⟩ := id hI
  rcases hM with ⟨rfl, rfl⟩ | ⟨rfl, rfl, hri⟩
  · refine i_aload_n B 1 dL_law_717 rfl ?_
    refine i_aload_n B 0 dL_law_718 rfl ?_
    refine i_iload_n B 3 dL_law_719 rfl ?_
    refine i_iconst (v := 1) B dL_law_720 (by decide) ?_
    refine i_iadd B dL_law_721 ?_
    refine i_sld B hX (6 * k + 1) (nI_add (6 * k) 1) (by omega) hL dL_law_722 ?_
    refine c_wiV (rest := []) (As := [.int (xs (6 * k + 1))]) B (k_X8_energyN l E q g a s t nc hc hnc nv hv hnv ⟨hb1, hb2⟩ hle hpt (xs (6 * k + 1))) cal_yX8_energy iv_yX8_energy mlL_86 rfl 27 rfl (by decide) ⟨by show _ ≤ 203390; omega, by show _ ≤ 8492080; omega⟩ rfl (Nat.le_of_ble_eq_true rfl) (mW E mo qm g a) [] (by rw [List.append_nil]) _ rfl dL_law_723 (fun r1 u1 h1 => ?_)
    obtain ⟨h1, hs1⟩ := h1
    rcases u1 with _ | v1
    · refine i_world (ws' := mW E mo qm g a ++ cW E q g a s t .null []) (congrArg (mW E mo qm g a ++ ·) (List.append_nil _)) ?_
      refine i_aload_n B 2 dL_law_726 rfl ?_
      refine i_aload_n B 0 dL_law_727 rfl ?_
      refine i_iload_n B 3 dL_law_728 rfl ?_
      refine i_iconst (v := 1) B dL_law_729 (by decide) ?_
      refine i_iadd B dL_law_730 ?_
      refine i_sld B hX (6 * k + 1) (nI_add (6 * k) 1) (by omega) hL dL_law_731 ?_
      refine c_wiV (rest := [.int r1]) (As := [.int (xs (6 * k + 1))]) B (k_X9_energy l E mo qm g a nc hc hnc nv hv hnv hpt (xs (6 * k + 1))) cal_yX9_energy iv_yX9_energy mlL_89 rfl 0 rfl (by decide) ⟨by show _ ≤ 203390; omega, by show _ ≤ 8492080; omega⟩ rfl (Nat.le_of_ble_eq_true rfl) [] (cW E q g a s t .null []) rfl _ rfl dL_law_732 (fun r2 u2 h2 => ?_)
      refine i_world (ws' := mW E mo qm g (va_up (va_up (va_up (va_up a 30 u2.1) 31 u2.2.1) 32 u2.2.2.1) 33 u2.2.2.2) ++ cW E q g a s t .null []) rfl ?_
      have e9 := Eq.trans h1 (Eq.trans (p17 _) (Eq.symm h2))
      subst e9
      refine i_world (ws' := mW E mo qm g (va_up (va_up (va_up (va_up a 30 u2.1) 31 u2.2.1) 32 u2.2.2.1) 33 u2.2.2.2) ++ cW E q g (va_up (va_up (va_up (va_up a 30 u2.1) 31 u2.2.1) 32 u2.2.2.1) 33 u2.2.2.2) s t .null []) rfl ?_
      refine i_icmp_eq B 1109 dL_law_735 (by decide) (fun _ => ?_) (fun h => absurd rfl h)
      refine i_widen (k := 100 + 5 * (k + 1)) (n := 20000 + 12418 * (k + 1)) (by omega) (by omega) ?_
      exact NX q g (va_up (va_up (va_up (va_up a 30 u2.1) 31 u2.2.1) 32 u2.2.2.1) 33 u2.2.2.2) s t .null [] _ _ _ _ _ rfl (show IV g (va_up (va_up (va_up (va_up a 30 u2.1) 31 u2.2.1) 32 u2.2.2.1) 33 u2.2.2.2) np nv nc nl nm from hI) (Or.inl ⟨rfl, rfl⟩)
    · refine i_world (ws' := mW E mo qm g a ++ cW E v1.1 g a v1.2.1 v1.2.2 (.ref (v1.1 49)) (sR E v1.1 v1.2.1 v1.2.2)) (congrArg (mW E mo qm g a ++ ·) (List.append_nil _)) ?_
      refine i_aload_n B 2 dL_law_726 rfl ?_
      refine i_aload_n B 0 dL_law_727 rfl ?_
      refine i_iload_n B 3 dL_law_728 rfl ?_
      refine i_iconst (v := 1) B dL_law_729 (by decide) ?_
      refine i_iadd B dL_law_730 ?_
      refine i_sld B hX (6 * k + 1) (nI_add (6 * k) 1) (by omega) hL dL_law_731 ?_
      refine c_wiV (rest := [.int r1]) (As := [.int (xs (6 * k + 1))]) B (k_X9_energy l E mo qm g a nc hc hnc nv hv hnv hpt (xs (6 * k + 1))) cal_yX9_energy iv_yX9_energy mlL_89 rfl 0 rfl (by decide) ⟨by show _ ≤ 203390; omega, by show _ ≤ 8492080; omega⟩ rfl (Nat.le_of_ble_eq_true rfl) [] (cW E v1.1 g a v1.2.1 v1.2.2 (.ref (v1.1 49)) (sR E v1.1 v1.2.1 v1.2.2)) rfl _ rfl dL_law_732 (fun r2 u2 h2 => ?_)
      refine i_world (ws' := mW E mo qm g (va_up (va_up (va_up (va_up a 30 u2.1) 31 u2.2.1) 32 u2.2.2.1) 33 u2.2.2.2) ++ cW E v1.1 g a v1.2.1 v1.2.2 (.ref (v1.1 49)) (sR E v1.1 v1.2.1 v1.2.2)) rfl ?_
      have e9 := Eq.trans h1 (Eq.trans (p17 _) (Eq.symm h2))
      subst e9
      refine i_world (ws' := mW E mo qm g (va_up (va_up (va_up (va_up a 30 u2.1) 31 u2.2.1) 32 u2.2.2.1) 33 u2.2.2.2) ++ cW E v1.1 g (va_up (va_up (va_up (va_up a 30 u2.1) 31 u2.2.1) 32 u2.2.2.1) 33 u2.2.2.2) v1.2.1 v1.2.2 (.ref (v1.1 49)) (sR E v1.1 v1.2.1 v1.2.2)) rfl ?_
      refine i_icmp_eq B 1109 dL_law_735 (by decide) (fun _ => ?_) (fun h => absurd rfl h)
      refine i_widen (k := 100 + 5 * (k + 1)) (n := 20000 + 12418 * (k + 1)) (by omega) (by omega) ?_
      exact NX v1.1 g (va_up (va_up (va_up (va_up a 30 u2.1) 31 u2.2.1) 32 u2.2.2.1) 33 u2.2.2.2) v1.2.1 v1.2.2 (.ref (v1.1 49)) (sR E v1.1 v1.2.1 v1.2.2) _ _ _ _ _ (hs1 v1 rfl).2 (show IV g (va_up (va_up (va_up (va_up a 30 u2.1) 31 u2.2.1) 32 u2.2.2.1) 33 u2.2.2.2) np nv nc nl nm from hI) (MD_cg (Or.inr ⟨rfl, rfl, (hs1 v1 rfl).1⟩) rfl rfl rfl rfl rfl rfl rfl rfl rfl rfl)
  · refine i_aload_n B 1 dL_law_717 rfl ?_
    refine i_aload_n B 0 dL_law_718 rfl ?_
    refine i_iload_n B 3 dL_law_719 rfl ?_
    refine i_iconst (v := 1) B dL_law_720 (by decide) ?_
    refine i_iadd B dL_law_721 ?_
    refine i_sld B hX (6 * k + 1) (nI_add (6 * k) 1) (by omega) hL dL_law_722 ?_
    refine c_wiV (rest := []) (As := [.int (xs (6 * k + 1))]) B (k_X8_energyR l E q g a s t nc hc hnc nv hv hnv ⟨hb1, hb2⟩ hle hpt hri (xs (6 * k + 1))) cal_yX8_energy iv_yX8_energy mlL_86 rfl 27 rfl (by decide) ⟨by show _ ≤ 203390; omega, by show _ ≤ 8492080; omega⟩ rfl (Nat.le_of_ble_eq_true rfl) (mW E mo qm g a) [] (by rw [List.append_nil]) _ rfl dL_law_723 (fun r1 u1 h1 => ?_)
    refine i_world (ws' := mW E mo qm g a ++ cW E q g a u1.1 u1.2 (.ref (q 49)) (sR E q u1.1 u1.2)) (congrArg (mW E mo qm g a ++ ·) (List.append_nil _)) ?_
    refine i_aload_n B 2 dL_law_726 rfl ?_
    refine i_aload_n B 0 dL_law_727 rfl ?_
    refine i_iload_n B 3 dL_law_728 rfl ?_
    refine i_iconst (v := 1) B dL_law_729 (by decide) ?_
    refine i_iadd B dL_law_730 ?_
    refine i_sld B hX (6 * k + 1) (nI_add (6 * k) 1) (by omega) hL dL_law_731 ?_
    refine c_wiV (rest := [.int r1]) (As := [.int (xs (6 * k + 1))]) B (k_X9_energy l E mo qm g a nc hc hnc nv hv hnv hpt (xs (6 * k + 1))) cal_yX9_energy iv_yX9_energy mlL_89 rfl 0 rfl (by decide) ⟨by show _ ≤ 203390; omega, by show _ ≤ 8492080; omega⟩ rfl (Nat.le_of_ble_eq_true rfl) [] (cW E q g a u1.1 u1.2 (.ref (q 49)) (sR E q u1.1 u1.2)) rfl _ rfl dL_law_732 (fun r2 u2 h2 => ?_)
    refine i_world (ws' := mW E mo qm g (va_up (va_up (va_up (va_up a 30 u2.1) 31 u2.2.1) 32 u2.2.2.1) 33 u2.2.2.2) ++ cW E q g a u1.1 u1.2 (.ref (q 49)) (sR E q u1.1 u1.2)) rfl ?_
    obtain ⟨h1, hs1⟩ := h1
    have e9 := Eq.trans h1 (Eq.trans (p17 _) (Eq.symm h2))
    subst e9
    refine i_world (ws' := mW E mo qm g (va_up (va_up (va_up (va_up a 30 u2.1) 31 u2.2.1) 32 u2.2.2.1) 33 u2.2.2.2) ++ cW E q g (va_up (va_up (va_up (va_up a 30 u2.1) 31 u2.2.1) 32 u2.2.2.1) 33 u2.2.2.2) u1.1 u1.2 (.ref (q 49)) (sR E q u1.1 u1.2)) rfl ?_
    refine i_icmp_eq B 1109 dL_law_735 (by decide) (fun _ => ?_) (fun h => absurd rfl h)
    refine i_widen (k := 100 + 5 * (k + 1)) (n := 20000 + 12418 * (k + 1)) (by omega) (by omega) ?_
    exact NX q g (va_up (va_up (va_up (va_up a 30 u2.1) 31 u2.2.1) 32 u2.2.2.1) 33 u2.2.2.2) u1.1 u1.2 (.ref (q 49)) (sR E q u1.1 u1.2) _ _ _ _ _ rfl (show IV g (va_up (va_up (va_up (va_up a 30 u2.1) 31 u2.2.1) 32 u2.2.2.1) 33 u2.2.2.2) np nv nc nl nm from hI) (MD_cg (Or.inr ⟨rfl, rfl, hs1⟩) rfl rfl rfl rfl rfl rfl rfl rfl rfl rfl)

set_option maxHeartbeats 4000000 in
set_option maxRecDepth 100000 in
theorem lw_c18 {Z : CX} {l : Launch} {E : ED} {b L : Nat} {xs : Nat → Int32} (B : OK Z cL_law 4 RL room_1 E false l) (hX : ZX Z b L xs) (hL : L ≤ 3072) {mo qc : Nat} {qm : Nat → Nat} {k : Nat} (hk : 6 * k + 6 ≤ L) (hp : PUREs) (NX : LJ Z E mo qc qm b (k + 1) k 1109) : LJ Z E mo qc qm b k k 740 := by
  intro q g a s t RV X np nv nc nl nm hq hI hM
  subst hq
  obtain ⟨hve, hle, hok, p5, p6, p7, p13, p16, p17, p20, p21, p25⟩ := hp g a np nv nc nl nm hI
  obtain ⟨⟨hn, hnp, hv, hnv, hc, hnc, hl, hnl, hm, hnm⟩, ip, ie1, ie2, hpt, ic, iw, ilog, imk, hb1, hb2⟩ := id hI
  refine i_aload_n B 1 dL_law_740 rfl ?_
  refine i_aload_n B 0 dL_law_741 rfl ?_
  refine i_iload_n B 3 dL_law_742 rfl ?_
  refine i_iconst (v := 1) B dL_law_743 (by decide) ?_
  refine i_iadd B dL_law_744 ?_
  refine i_sld B hX (6 * k + 1) (nI_add (6 * k) 1) (by omega) hL dL_law_745 ?_
  refine i_aload_n B 0 dL_law_746 rfl ?_
  refine i_iload_n B 3 dL_law_747 rfl ?_
  refine i_iconst (v := 2) B dL_law_748 (by decide) ?_
  refine i_iadd B dL_law_749 ?_
  refine i_sld B hX (6 * k + 2) (nI_add (6 * k) 2) (by omega) hL dL_law_750 ?_
  refine i_aload_n B 0 dL_law_751 rfl ?_
  refine i_iload_n B 3 dL_law_752 rfl ?_
  refine i_iconst (v := 3) B dL_law_753 (by decide) ?_
  refine i_iadd B dL_law_754 ?_
  refine i_sld B hX (6 * k + 3) (nI_add (6 * k) 3) (by omega) hL dL_law_755 ?_
  refine c_wiV (rest := []) (As := [.int (xs (6 * k + 1)), .int (xs (6 * k + 2)), .int (xs (6 * k + 3))]) B (k_X8_log l E q g a s t RV X nl hl hnl (xs (6 * k + 1)) (xs (6 * k + 2)) (xs (6 * k + 3))) cal_yX8_log iv_yX8_log mlL_90 rfl 27 rfl (by decide) ⟨by show _ ≤ 203390; omega, by show _ ≤ 8492080; omega⟩ rfl (Nat.le_of_ble_eq_true rfl) (mW E mo qm g a) [] (by rw [List.append_nil]) _ rfl dL_law_756 (fun r1 u1 h1 => ?_)
  refine i_world (ws' := mW E mo qm g a ++ cW E q u1.1 u1.2 s t RV X) (congrArg (mW E mo qm g a ++ ·) (List.append_nil _)) ?_
  refine i_aload_n B 2 dL_law_759 rfl ?_
  refine i_aload_n B 0 dL_law_760 rfl ?_
  refine i_iload_n B 3 dL_law_761 rfl ?_
  refine i_iconst (v := 1) B dL_law_762 (by decide) ?_
  refine i_iadd B dL_law_763 ?_
  refine i_sld B hX (6 * k + 1) (nI_add (6 * k) 1) (by omega) hL dL_law_764 ?_
  refine i_aload_n B 0 dL_law_765 rfl ?_
  refine i_iload_n B 3 dL_law_766 rfl ?_
  refine i_iconst (v := 2) B dL_law_767 (by decide) ?_
  refine i_iadd B dL_law_768 ?_
  refine i_sld B hX (6 * k + 2) (nI_add (6 * k) 2) (by omega) hL dL_law_769 ?_
  refine i_aload_n B 0 dL_law_770 rfl ?_
  refine i_iload_n B 3 dL_law_771 rfl ?_
  refine i_iconst (v := 3) B dL_law_772 (by decide) ?_
  refine i_iadd B dL_law_773 ?_
  refine i_sld B hX (6 * k + 3) (nI_add (6 * k) 3) (by omega) hL dL_law_774 ?_
  refine c_wiV (rest := [.int r1]) (As := [.int (xs (6 * k + 1)), .int (xs (6 * k + 2)), .int (xs (6 * k + 3))]) B (k_X9_log l E mo qm g a nl hl hnl (xs (6 * k + 1)) (xs (6 * k + 2)) (xs (6 * k + 3))) cal_yX9_log iv_yX9_log mlL_93 rfl 0 rfl (by decide) ⟨by show _ ≤ 203390; omega, by show _ ≤ 8492080; omega⟩ rfl (Nat.le_of_ble_eq_true rfl) [] (cW E q u1.1 u1.2 s t RV X) rfl _ rfl dL_law_775 (fun r2 u2 h2 => ?_)
  refine i_world (ws' := mW E mo qm u2.1 u2.2 ++ cW E q u1.1 u1.2 s t RV X) rfl ?_
  obtain ⟨rfl, rfl⟩ := Prod.mk.inj (Eq.trans h1 (Eq.symm h2))
  obtain ⟨nl9, hI9⟩ := IV_log hI h1
  refine i_icmp_eq B 1109 dL_law_778 (by decide) (fun _ => ?_) (fun h => absurd rfl h)
  refine i_widen (k := 100 + 5 * (k + 1)) (n := 20000 + 12418 * (k + 1)) (by omega) (by omega) ?_
  exact NX q u1.1 u1.2 s t RV X _ _ _ _ _ rfl hI9 ((KP_log h1).md hM)

set_option maxHeartbeats 4000000 in
set_option maxRecDepth 100000 in
theorem lw_c19 {Z : CX} {l : Launch} {E : ED} {b L : Nat} {xs : Nat → Int32} (B : OK Z cL_law 4 RL room_1 E false l) (hX : ZX Z b L xs) (hL : L ≤ 3072) {mo qc : Nat} {qm : Nat → Nat} {k : Nat} (hk : 6 * k + 6 ≤ L) (hp : PUREs) (NX : LJ Z E mo qc qm b (k + 1) k 1109) : LJ Z E mo qc qm b k k 783 := by
  intro q g a s t RV X np nv nc nl nm hq hI hM
  subst hq
  obtain ⟨hve, hle, hok, p5, p6, p7, p13, p16, p17, p20, p21, p25⟩ := hp g a np nv nc nl nm hI
  obtain ⟨⟨hn, hnp, hv, hnv, hc, hnc, hl, hnl, hm, hnm⟩, ip, ie1, ie2, hpt, ic, iw, ilog, imk, hb1, hb2⟩ := id hI
  refine i_aload_n B 1 dL_law_783 rfl ?_
  refine i_aload_n B 0 dL_law_784 rfl ?_
  refine i_iload_n B 3 dL_law_785 rfl ?_
  refine i_iconst (v := 1) B dL_law_786 (by decide) ?_
  refine i_iadd B dL_law_787 ?_
  refine i_sld B hX (6 * k + 1) (nI_add (6 * k) 1) (by omega) hL dL_law_788 ?_
  refine i_aload_n B 0 dL_law_789 rfl ?_
  refine i_iload_n B 3 dL_law_790 rfl ?_
  refine i_iconst (v := 2) B dL_law_791 (by decide) ?_
  refine i_iadd B dL_law_792 ?_
  refine i_sld B hX (6 * k + 2) (nI_add (6 * k) 2) (by omega) hL dL_law_793 ?_
  refine c_roV (rest := []) (As := [.int (xs (6 * k + 1)), .int (xs (6 * k + 2))]) B (k_X8_proves l E q g a s t RV X np hn hnp nl hl hnl hve (LR_of ilog) (xs (6 * k + 1)) (xs (6 * k + 2))) cal_yX8_proves iv_yX8_proves mlL_94 rfl 27 rfl (by decide) ⟨by show _ ≤ 203390; omega, by show _ ≤ 8492080; omega⟩ rfl (Nat.le_of_ble_eq_true rfl) (Has.mid (mW E mo qm g a) [] (by rw [List.append_nil])) _ rfl dL_law_794 (fun r1 h1 => ?_)
  refine i_aload_n B 2 dL_law_797 rfl ?_
  refine i_aload_n B 0 dL_law_798 rfl ?_
  refine i_iload_n B 3 dL_law_799 rfl ?_
  refine i_iconst (v := 1) B dL_law_800 (by decide) ?_
  refine i_iadd B dL_law_801 ?_
  refine i_sld B hX (6 * k + 1) (nI_add (6 * k) 1) (by omega) hL dL_law_802 ?_
  refine i_aload_n B 0 dL_law_803 rfl ?_
  refine i_iload_n B 3 dL_law_804 rfl ?_
  refine i_iconst (v := 2) B dL_law_805 (by decide) ?_
  refine i_iadd B dL_law_806 ?_
  refine i_sld B hX (6 * k + 2) (nI_add (6 * k) 2) (by omega) hL dL_law_807 ?_
  refine c_wiV (rest := [.int r1]) (As := [.int (xs (6 * k + 1)), .int (xs (6 * k + 2))]) B (k_X9_proves l E mo qm g a np hn hnp nl hl hnl (xs (6 * k + 1)) (xs (6 * k + 2))) cal_yX9_proves iv_yX9_proves mlL_97 rfl 0 rfl (by decide) ⟨by show _ ≤ 203390; omega, by show _ ≤ 8492080; omega⟩ rfl (Nat.le_of_ble_eq_true rfl) [] (cW E q g a s t RV X) rfl _ rfl dL_law_808 (fun r2 _ h2 => ?_)
  refine i_world (ws' := mW E mo qm g a ++ cW E q g a s t RV X) rfl ?_
  have e9 := Eq.trans h1 (Eq.symm h2)
  subst e9
  refine i_icmp_eq B 1109 dL_law_811 (by decide) (fun _ => ?_) (fun h => absurd rfl h)
  refine i_widen (k := 100 + 5 * (k + 1)) (n := 20000 + 12418 * (k + 1)) (by omega) (by omega) ?_
  exact NX q g a s t RV X _ _ _ _ _ rfl hI hM

set_option maxHeartbeats 4000000 in
set_option maxRecDepth 100000 in
theorem lw_c20 {Z : CX} {l : Launch} {E : ED} {b L : Nat} {xs : Nat → Int32} (B : OK Z cL_law 4 RL room_1 E false l) (hX : ZX Z b L xs) (hL : L ≤ 3072) {mo qc : Nat} {qm : Nat → Nat} {k : Nat} (hk : 6 * k + 6 ≤ L) (hp : PUREs) (NX : LJ Z E mo qc qm b (k + 1) k 1109) : LJ Z E mo qc qm b k k 816 := by
  intro q g a s t RV X np nv nc nl nm hq hI hM
  subst hq
  obtain ⟨hve, hle, hok, p5, p6, p7, p13, p16, p17, p20, p21, p25⟩ := hp g a np nv nc nl nm hI
  obtain ⟨⟨hn, hnp, hv, hnv, hc, hnc, hl, hnl, hm, hnm⟩, ip, ie1, ie2, hpt, ic, iw, ilog, imk, hb1, hb2⟩ := id hI
  refine i_aload_n B 1 dL_law_816 rfl ?_
  refine i_aload_n B 0 dL_law_817 rfl ?_
  refine i_iload_n B 3 dL_law_818 rfl ?_
  refine i_iconst (v := 1) B dL_law_819 (by decide) ?_
  refine i_iadd B dL_law_820 ?_
  refine i_sld B hX (6 * k + 1) (nI_add (6 * k) 1) (by omega) hL dL_law_821 ?_
  refine c_roV (rest := []) (As := [.int (xs (6 * k + 1))]) B (k_X8_proved l E q g a s t RV X np hn hnp nl hl hnl hve (LR_of ilog) (xs (6 * k + 1))) cal_yX8_proved iv_yX8_proved mlL_98 rfl 27 rfl (by decide) ⟨by show _ ≤ 203390; omega, by show _ ≤ 8492080; omega⟩ rfl (Nat.le_of_ble_eq_true rfl) (Has.mid (mW E mo qm g a) [] (by rw [List.append_nil])) _ rfl dL_law_822 (fun r1 h1 => ?_)
  refine i_aload_n B 2 dL_law_825 rfl ?_
  refine i_aload_n B 0 dL_law_826 rfl ?_
  refine i_iload_n B 3 dL_law_827 rfl ?_
  refine i_iconst (v := 1) B dL_law_828 (by decide) ?_
  refine i_iadd B dL_law_829 ?_
  refine i_sld B hX (6 * k + 1) (nI_add (6 * k) 1) (by omega) hL dL_law_830 ?_
  refine c_wiV (rest := [.int r1]) (As := [.int (xs (6 * k + 1))]) B (k_X9_proved l E mo qm g a np hn hnp nl hl hnl (xs (6 * k + 1))) cal_yX9_proved iv_yX9_proved mlL_101 rfl 0 rfl (by decide) ⟨by show _ ≤ 203390; omega, by show _ ≤ 8492080; omega⟩ rfl (Nat.le_of_ble_eq_true rfl) [] (cW E q g a s t RV X) rfl _ rfl dL_law_831 (fun r2 _ h2 => ?_)
  refine i_world (ws' := mW E mo qm g a ++ cW E q g a s t RV X) rfl ?_
  have e9 := Eq.trans h1 (Eq.trans (p20 _) (Eq.symm h2))
  subst e9
  refine i_icmp_eq B 1109 dL_law_834 (by decide) (fun _ => ?_) (fun h => absurd rfl h)
  refine i_widen (k := 100 + 5 * (k + 1)) (n := 20000 + 12418 * (k + 1)) (by omega) (by omega) ?_
  exact NX q g a s t RV X _ _ _ _ _ rfl hI hM

set_option maxHeartbeats 4000000 in
set_option maxRecDepth 100000 in
theorem lw_c21 {Z : CX} {l : Launch} {E : ED} {b L : Nat} {xs : Nat → Int32} (B : OK Z cL_law 4 RL room_1 E false l) (hX : ZX Z b L xs) (hL : L ≤ 3072) {mo qc : Nat} {qm : Nat → Nat} {k : Nat} (hk : 6 * k + 6 ≤ L) (hp : PUREs) (NX : LJ Z E mo qc qm b (k + 1) k 1109) : LJ Z E mo qc qm b k k 839 := by
  intro q g a s t RV X np nv nc nl nm hq hI hM
  subst hq
  obtain ⟨hve, hle, hok, p5, p6, p7, p13, p16, p17, p20, p21, p25⟩ := hp g a np nv nc nl nm hI
  obtain ⟨⟨hn, hnp, hv, hnv, hc, hnc, hl, hnl, hm, hnm⟩, ip, ie1, ie2, hpt, ic, iw, ilog, imk, hb1, hb2⟩ := id hI
  refine i_aload_n B 1 dL_law_839 rfl ?_
  refine i_aload_n B 0 dL_law_840 rfl ?_
  refine i_iload_n B 3 dL_law_841 rfl ?_
  refine i_iconst (v := 1) B dL_law_842 (by decide) ?_
  refine i_iadd B dL_law_843 ?_
  refine i_sld B hX (6 * k + 1) (nI_add (6 * k) 1) (by omega) hL dL_law_844 ?_
  refine i_aload_n B 0 dL_law_845 rfl ?_
  refine i_iload_n B 3 dL_law_846 rfl ?_
  refine i_iconst (v := 2) B dL_law_847 (by decide) ?_
  refine i_iadd B dL_law_848 ?_
  refine i_sld B hX (6 * k + 2) (nI_add (6 * k) 2) (by omega) hL dL_law_849 ?_
  refine c_roV (rest := []) (As := [.int (xs (6 * k + 1)), .int (xs (6 * k + 2))]) B (k_X8_missing l E q g a s t RV X np hn hnp nl hl hnl hve (LR_of ilog) (xs (6 * k + 1)) (xs (6 * k + 2))) cal_yX8_missing iv_yX8_missing mlL_102 rfl 27 rfl (by decide) ⟨by show _ ≤ 203390; omega, by show _ ≤ 8492080; omega⟩ rfl (Nat.le_of_ble_eq_true rfl) (Has.mid (mW E mo qm g a) [] (by rw [List.append_nil])) _ rfl dL_law_850 (fun r1 h1 => ?_)
  refine i_aload_n B 2 dL_law_853 rfl ?_
  refine i_aload_n B 0 dL_law_854 rfl ?_
  refine i_iload_n B 3 dL_law_855 rfl ?_
  refine i_iconst (v := 1) B dL_law_856 (by decide) ?_
  refine i_iadd B dL_law_857 ?_
  refine i_sld B hX (6 * k + 1) (nI_add (6 * k) 1) (by omega) hL dL_law_858 ?_
  refine i_aload_n B 0 dL_law_859 rfl ?_
  refine i_iload_n B 3 dL_law_860 rfl ?_
  refine i_iconst (v := 2) B dL_law_861 (by decide) ?_
  refine i_iadd B dL_law_862 ?_
  refine i_sld B hX (6 * k + 2) (nI_add (6 * k) 2) (by omega) hL dL_law_863 ?_
  refine c_wiV (rest := [.int r1]) (As := [.int (xs (6 * k + 1)), .int (xs (6 * k + 2))]) B (k_X9_missing l E mo qm g a np hn hnp nl hl hnl (xs (6 * k + 1)) (xs (6 * k + 2))) cal_yX9_missing iv_yX9_missing mlL_105 rfl 0 rfl (by decide) ⟨by show _ ≤ 203390; omega, by show _ ≤ 8492080; omega⟩ rfl (Nat.le_of_ble_eq_true rfl) [] (cW E q g a s t RV X) rfl _ rfl dL_law_864 (fun r2 _ h2 => ?_)
  refine i_world (ws' := mW E mo qm g a ++ cW E q g a s t RV X) rfl ?_
  have e9 := Eq.trans h1 (Eq.trans (p21 _ _) (Eq.symm h2))
  subst e9
  refine i_icmp_eq B 1109 dL_law_867 (by decide) (fun _ => ?_) (fun h => absurd rfl h)
  refine i_widen (k := 100 + 5 * (k + 1)) (n := 20000 + 12418 * (k + 1)) (by omega) (by omega) ?_
  exact NX q g a s t RV X _ _ _ _ _ rfl hI hM

set_option maxHeartbeats 4000000 in
set_option maxRecDepth 100000 in
theorem lw_c22 {Z : CX} {l : Launch} {E : ED} {b L : Nat} {xs : Nat → Int32} (B : OK Z cL_law 4 RL room_1 E false l) (hX : ZX Z b L xs) (hL : L ≤ 3072) {mo qc : Nat} {qm : Nat → Nat} {k : Nat} (hk : 6 * k + 6 ≤ L) (hp : PUREs) (NX : LJ Z E mo qc qm b (k + 1) k 1109) : LJ Z E mo qc qm b k k 872 := by
  intro q g a s t RV X np nv nc nl nm hq hI hM
  subst hq
  obtain ⟨hve, hle, hok, p5, p6, p7, p13, p16, p17, p20, p21, p25⟩ := hp g a np nv nc nl nm hI
  obtain ⟨⟨hn, hnp, hv, hnv, hc, hnc, hl, hnl, hm, hnm⟩, ip, ie1, ie2, hpt, ic, iw, ilog, imk, hb1, hb2⟩ := id hI
  refine i_aload_n B 1 dL_law_872 rfl ?_
  refine i_aload_n B 0 dL_law_873 rfl ?_
  refine i_iload_n B 3 dL_law_874 rfl ?_
  refine i_iconst (v := 1) B dL_law_875 (by decide) ?_
  refine i_iadd B dL_law_876 ?_
  refine i_sld B hX (6 * k + 1) (nI_add (6 * k) 1) (by omega) hL dL_law_877 ?_
  refine i_aload_n B 0 dL_law_878 rfl ?_
  refine i_iload_n B 3 dL_law_879 rfl ?_
  refine i_iconst (v := 2) B dL_law_880 (by decide) ?_
  refine i_iadd B dL_law_881 ?_
  refine i_sld B hX (6 * k + 2) (nI_add (6 * k) 2) (by omega) hL dL_law_882 ?_
  refine i_aload_n B 0 dL_law_883 rfl ?_
  refine i_iload_n B 3 dL_law_884 rfl ?_
  refine i_iconst (v := 3) B dL_law_885 (by decide) ?_
  refine i_iadd B dL_law_886 ?_
  refine i_sld B hX (6 * k + 3) (nI_add (6 * k) 3) (by omega) hL dL_law_887 ?_
  refine i_aload_n B 0 dL_law_888 rfl ?_
  refine i_iload_n B 3 dL_law_889 rfl ?_
  refine i_iconst (v := 4) B dL_law_890 (by decide) ?_
  refine i_iadd B dL_law_891 ?_
  refine i_sld B hX (6 * k + 4) (nI_add (6 * k) 4) (by omega) hL dL_law_892 ?_
  refine c_wiV (rest := []) (As := [.int (xs (6 * k + 1)), .int (xs (6 * k + 2)), .int (xs (6 * k + 3)), .int (xs (6 * k + 4))]) B (k_X8_mark l E q g a s t RV X np hn hnp nm hm hnm (xs (6 * k + 1)) (xs (6 * k + 2)) (xs (6 * k + 3)) (xs (6 * k + 4))) cal_yX8_mark iv_yX8_mark mlL_106 rfl 27 rfl (by decide) ⟨by show _ ≤ 203390; omega, by show _ ≤ 8492080; omega⟩ rfl (Nat.le_of_ble_eq_true rfl) (mW E mo qm g a) [] (by rw [List.append_nil]) _ rfl dL_law_893 (fun r1 u1 h1 => ?_)
  refine i_world (ws' := mW E mo qm g a ++ cW E q u1.1 u1.2 s t RV X) (congrArg (mW E mo qm g a ++ ·) (List.append_nil _)) ?_
  refine i_aload_n B 2 dL_law_896 rfl ?_
  refine i_aload_n B 0 dL_law_897 rfl ?_
  refine i_iload_n B 3 dL_law_898 rfl ?_
  refine i_iconst (v := 1) B dL_law_899 (by decide) ?_
  refine i_iadd B dL_law_900 ?_
  refine i_sld B hX (6 * k + 1) (nI_add (6 * k) 1) (by omega) hL dL_law_901 ?_
  refine i_aload_n B 0 dL_law_902 rfl ?_
  refine i_iload_n B 3 dL_law_903 rfl ?_
  refine i_iconst (v := 2) B dL_law_904 (by decide) ?_
  refine i_iadd B dL_law_905 ?_
  refine i_sld B hX (6 * k + 2) (nI_add (6 * k) 2) (by omega) hL dL_law_906 ?_
  refine i_aload_n B 0 dL_law_907 rfl ?_
  refine i_iload_n B 3 dL_law_908 rfl ?_
  refine i_iconst (v := 3) B dL_law_909 (by decide) ?_
  refine i_iadd B dL_law_910 ?_
  refine i_sld B hX (6 * k + 3) (nI_add (6 * k) 3) (by omega) hL dL_law_911 ?_
  refine i_aload_n B 0 dL_law_912 rfl ?_
  refine i_iload_n B 3 dL_law_913 rfl ?_
  refine i_iconst (v := 4) B dL_law_914 (by decide) ?_
  refine i_iadd B dL_law_915 ?_
  refine i_sld B hX (6 * k + 4) (nI_add (6 * k) 4) (by omega) hL dL_law_916 ?_
  refine c_wiV (rest := [.int r1]) (As := [.int (xs (6 * k + 1)), .int (xs (6 * k + 2)), .int (xs (6 * k + 3)), .int (xs (6 * k + 4))]) B (k_X9_mark l E mo qm g a nm hm hnm (xs (6 * k + 1)) (xs (6 * k + 2)) (xs (6 * k + 3)) (xs (6 * k + 4))) cal_yX9_mark iv_yX9_mark mlL_109 rfl 0 rfl (by decide) ⟨by show _ ≤ 203390; omega, by show _ ≤ 8492080; omega⟩ rfl (Nat.le_of_ble_eq_true rfl) [] (cW E q u1.1 u1.2 s t RV X) rfl _ rfl dL_law_917 (fun r2 u2 h2 => ?_)
  refine i_world (ws' := mW E mo qm u2.1 u2.2 ++ cW E q u1.1 u1.2 s t RV X) rfl ?_
  obtain ⟨rfl, rfl⟩ := Prod.mk.inj (Eq.trans h1 (Eq.symm h2))
  obtain ⟨nm9, hI9⟩ := IV_mark hI h1
  refine i_icmp_eq B 1109 dL_law_920 (by decide) (fun _ => ?_) (fun h => absurd rfl h)
  refine i_widen (k := 100 + 5 * (k + 1)) (n := 20000 + 12418 * (k + 1)) (by omega) (by omega) ?_
  exact NX q u1.1 u1.2 s t RV X _ _ _ _ _ rfl hI9 ((KP_mark h1).md hM)

set_option maxHeartbeats 4000000 in
set_option maxRecDepth 100000 in
theorem lw_c23 {Z : CX} {l : Launch} {E : ED} {b L : Nat} {xs : Nat → Int32} (B : OK Z cL_law 4 RL room_1 E false l) (hX : ZX Z b L xs) (hL : L ≤ 3072) {mo qc : Nat} {qm : Nat → Nat} {k : Nat} (hk : 6 * k + 6 ≤ L) (hp : PUREs) (NX : LJ Z E mo qc qm b (k + 1) k 1109) : LJ Z E mo qc qm b k k 925 := by
  intro q g a s t RV X np nv nc nl nm hq hI hM
  subst hq
  obtain ⟨hve, hle, hok, p5, p6, p7, p13, p16, p17, p20, p21, p25⟩ := hp g a np nv nc nl nm hI
  obtain ⟨⟨hn, hnp, hv, hnv, hc, hnc, hl, hnl, hm, hnm⟩, ip, ie1, ie2, hpt, ic, iw, ilog, imk, hb1, hb2⟩ := id hI
  refine i_aload_n B 1 dL_law_925 rfl ?_
  refine i_aload_n B 0 dL_law_926 rfl ?_
  refine i_iload_n B 3 dL_law_927 rfl ?_
  refine i_iconst (v := 1) B dL_law_928 (by decide) ?_
  refine i_iadd B dL_law_929 ?_
  refine i_sld B hX (6 * k + 1) (nI_add (6 * k) 1) (by omega) hL dL_law_930 ?_
  refine c_wiV (rest := []) (As := [.int (xs (6 * k + 1))]) B (k_X8_wipe l E q g a s t RV X nm hm hnm (xs (6 * k + 1))) cal_yX8_wipe iv_yX8_wipe mlL_110 rfl 27 rfl (by decide) ⟨by show _ ≤ 203390; omega, by show _ ≤ 8492080; omega⟩ rfl (Nat.le_of_ble_eq_true rfl) (mW E mo qm g a) [] (by rw [List.append_nil]) _ rfl dL_law_931 (fun r1 u1 h1 => ?_)
  refine i_world (ws' := mW E mo qm g a ++ cW E q g u1 s t RV X) (congrArg (mW E mo qm g a ++ ·) (List.append_nil _)) ?_
  refine i_aload_n B 2 dL_law_934 rfl ?_
  refine i_aload_n B 0 dL_law_935 rfl ?_
  refine i_iload_n B 3 dL_law_936 rfl ?_
  refine i_iconst (v := 1) B dL_law_937 (by decide) ?_
  refine i_iadd B dL_law_938 ?_
  refine i_sld B hX (6 * k + 1) (nI_add (6 * k) 1) (by omega) hL dL_law_939 ?_
  refine c_wiV (rest := [.int r1]) (As := [.int (xs (6 * k + 1))]) B (k_X9_wipe l E mo qm g a nm hm hnm (xs (6 * k + 1))) cal_yX9_wipe iv_yX9_wipe mlL_113 rfl 0 rfl (by decide) ⟨by show _ ≤ 203390; omega, by show _ ≤ 8492080; omega⟩ rfl (Nat.le_of_ble_eq_true rfl) [] (cW E q g u1 s t RV X) rfl _ rfl dL_law_940 (fun r2 u2 h2 => ?_)
  refine i_world (ws' := mW E mo qm g u2 ++ cW E q g u1 s t RV X) rfl ?_
  obtain ⟨rfl, rfl⟩ := Prod.mk.inj (Eq.trans h1 (Eq.symm h2))
  refine i_icmp_eq B 1109 dL_law_943 (by decide) (fun _ => ?_) (fun h => absurd rfl h)
  refine i_widen (k := 100 + 5 * (k + 1)) (n := 20000 + 12418 * (k + 1)) (by omega) (by omega) ?_
  exact NX q g u1 s t RV X _ _ _ _ _ rfl (IV_wipe hI h1) ((KP_wipe h1).md hM)

set_option maxHeartbeats 4000000 in
set_option maxRecDepth 100000 in
theorem lw_c24 {Z : CX} {l : Launch} {E : ED} {b L : Nat} {xs : Nat → Int32} (B : OK Z cL_law 4 RL room_1 E false l) (hX : ZX Z b L xs) (hL : L ≤ 3072) {mo qc : Nat} {qm : Nat → Nat} {k : Nat} (hk : 6 * k + 6 ≤ L) (hp : PUREs) (NX : LJ Z E mo qc qm b (k + 1) k 1109) : LJ Z E mo qc qm b k k 948 := by
  intro q g a s t RV X np nv nc nl nm hq hI hM
  subst hq
  obtain ⟨hve, hle, hok, p5, p6, p7, p13, p16, p17, p20, p21, p25⟩ := hp g a np nv nc nl nm hI
  obtain ⟨⟨hn, hnp, hv, hnv, hc, hnc, hl, hnl, hm, hnm⟩, ip, ie1, ie2, hpt, ic, iw, ilog, imk, hb1, hb2⟩ := id hI
  refine i_aload_n B 1 dL_law_948 rfl ?_
  refine i_aload_n B 0 dL_law_949 rfl ?_
  refine i_iload_n B 3 dL_law_950 rfl ?_
  refine i_iconst (v := 1) B dL_law_951 (by decide) ?_
  refine i_iadd B dL_law_952 ?_
  refine i_sld B hX (6 * k + 1) (nI_add (6 * k) 1) (by omega) hL dL_law_953 ?_
  refine i_aload_n B 0 dL_law_954 rfl ?_
  refine i_iload_n B 3 dL_law_955 rfl ?_
  refine i_iconst (v := 2) B dL_law_956 (by decide) ?_
  refine i_iadd B dL_law_957 ?_
  refine i_sld B hX (6 * k + 2) (nI_add (6 * k) 2) (by omega) hL dL_law_958 ?_
  refine i_aload_n B 0 dL_law_959 rfl ?_
  refine i_iload_n B 3 dL_law_960 rfl ?_
  refine i_iconst (v := 3) B dL_law_961 (by decide) ?_
  refine i_iadd B dL_law_962 ?_
  refine i_sld B hX (6 * k + 3) (nI_add (6 * k) 3) (by omega) hL dL_law_963 ?_
  refine i_if_eq B 971 dL_law_964 (by decide) (fun hz => ?_) (fun hz => ?_)
  · refine i_iconst (v := 0) B dL_law_971 (by decide) ?_
    refine c_roV (rest := []) (As := [.int (xs (6 * k + 1)), .int (xs (6 * k + 2)), .int 0]) B (k_X8_marks l E q g a s t RV X np hn hnp nm hm hnm (xs (6 * k + 1)) (xs (6 * k + 2)) 0) cal_yX8_marks iv_yX8_marks mlL_114 rfl 27 rfl (by decide) ⟨by show _ ≤ 203390; omega, by show _ ≤ 8492080; omega⟩ rfl (Nat.le_of_ble_eq_true rfl) (Has.mid (mW E mo qm g a) [] (by rw [List.append_nil])) _ rfl dL_law_972 (fun r1 h1 => ?_)
    refine i_aload_n B 2 dL_law_975 rfl ?_
    refine i_aload_n B 0 dL_law_976 rfl ?_
    refine i_iload_n B 3 dL_law_977 rfl ?_
    refine i_iconst (v := 1) B dL_law_978 (by decide) ?_
    refine i_iadd B dL_law_979 ?_
    refine i_sld B hX (6 * k + 1) (nI_add (6 * k) 1) (by omega) hL dL_law_980 ?_
    refine i_aload_n B 0 dL_law_981 rfl ?_
    refine i_iload_n B 3 dL_law_982 rfl ?_
    refine i_iconst (v := 2) B dL_law_983 (by decide) ?_
    refine i_iadd B dL_law_984 ?_
    refine i_sld B hX (6 * k + 2) (nI_add (6 * k) 2) (by omega) hL dL_law_985 ?_
    refine i_aload_n B 0 dL_law_986 rfl ?_
    refine i_iload_n B 3 dL_law_987 rfl ?_
    refine i_iconst (v := 3) B dL_law_988 (by decide) ?_
    refine i_iadd B dL_law_989 ?_
    refine i_sld B hX (6 * k + 3) (nI_add (6 * k) 3) (by omega) hL dL_law_990 ?_
    refine i_if_eq B 998 dL_law_991 (by decide) (fun _ => ?_) (fun h => absurd hz h)
    refine i_iconst (v := 0) B dL_law_998 (by decide) ?_
    refine c_wiV (rest := [.int r1]) (As := [.int (xs (6 * k + 1)), .int (xs (6 * k + 2)), .int 0]) B (k_X9_marks l E mo qm g a nm hm hnm (xs (6 * k + 1)) (xs (6 * k + 2)) 0) cal_yX9_marks iv_yX9_marks mlL_118 rfl 0 rfl (by decide) ⟨by show _ ≤ 203390; omega, by show _ ≤ 8492080; omega⟩ rfl (Nat.le_of_ble_eq_true rfl) [] (cW E q g a s t RV X) rfl _ rfl dL_law_999 (fun r2 _ h2 => ?_)
    refine i_world (ws' := mW E mo qm g a ++ cW E q g a s t RV X) rfl ?_
    have e9 := Eq.trans h1 (Eq.symm h2)
    subst e9
    refine i_icmp_eq B 1109 dL_law_1002 (by decide) (fun _ => ?_) (fun h => absurd rfl h)
    refine i_widen (k := 100 + 5 * (k + 1)) (n := 20000 + 12418 * (k + 1)) (by omega) (by omega) ?_
    exact NX q g a s t RV X _ _ _ _ _ rfl hI hM
  · refine i_iconst (v := 1) B dL_law_967 (by decide) ?_
    refine i_goto B 972 dL_law_968 (by decide) ?_
    refine c_roV (rest := []) (As := [.int (xs (6 * k + 1)), .int (xs (6 * k + 2)), .int 1]) B (k_X8_marks l E q g a s t RV X np hn hnp nm hm hnm (xs (6 * k + 1)) (xs (6 * k + 2)) 1) cal_yX8_marks iv_yX8_marks mlL_114 rfl 27 rfl (by decide) ⟨by show _ ≤ 203390; omega, by show _ ≤ 8492080; omega⟩ rfl (Nat.le_of_ble_eq_true rfl) (Has.mid (mW E mo qm g a) [] (by rw [List.append_nil])) _ rfl dL_law_972 (fun r1 h1 => ?_)
    refine i_aload_n B 2 dL_law_975 rfl ?_
    refine i_aload_n B 0 dL_law_976 rfl ?_
    refine i_iload_n B 3 dL_law_977 rfl ?_
    refine i_iconst (v := 1) B dL_law_978 (by decide) ?_
    refine i_iadd B dL_law_979 ?_
    refine i_sld B hX (6 * k + 1) (nI_add (6 * k) 1) (by omega) hL dL_law_980 ?_
    refine i_aload_n B 0 dL_law_981 rfl ?_
    refine i_iload_n B 3 dL_law_982 rfl ?_
    refine i_iconst (v := 2) B dL_law_983 (by decide) ?_
    refine i_iadd B dL_law_984 ?_
    refine i_sld B hX (6 * k + 2) (nI_add (6 * k) 2) (by omega) hL dL_law_985 ?_
    refine i_aload_n B 0 dL_law_986 rfl ?_
    refine i_iload_n B 3 dL_law_987 rfl ?_
    refine i_iconst (v := 3) B dL_law_988 (by decide) ?_
    refine i_iadd B dL_law_989 ?_
    refine i_sld B hX (6 * k + 3) (nI_add (6 * k) 3) (by omega) hL dL_law_990 ?_
    refine i_if_eq B 998 dL_law_991 (by decide) (fun h => absurd h hz) (fun _ => ?_)
    refine i_iconst (v := 1) B dL_law_994 (by decide) ?_
    refine i_goto B 999 dL_law_995 (by decide) ?_
    refine c_wiV (rest := [.int r1]) (As := [.int (xs (6 * k + 1)), .int (xs (6 * k + 2)), .int 1]) B (k_X9_marks l E mo qm g a nm hm hnm (xs (6 * k + 1)) (xs (6 * k + 2)) 1) cal_yX9_marks iv_yX9_marks mlL_118 rfl 0 rfl (by decide) ⟨by show _ ≤ 203390; omega, by show _ ≤ 8492080; omega⟩ rfl (Nat.le_of_ble_eq_true rfl) [] (cW E q g a s t RV X) rfl _ rfl dL_law_999 (fun r2 _ h2 => ?_)
    refine i_world (ws' := mW E mo qm g a ++ cW E q g a s t RV X) rfl ?_
    have e9 := Eq.trans h1 (Eq.symm h2)
    subst e9
    refine i_icmp_eq B 1109 dL_law_1002 (by decide) (fun _ => ?_) (fun h => absurd rfl h)
    refine i_widen (k := 100 + 5 * (k + 1)) (n := 20000 + 12418 * (k + 1)) (by omega) (by omega) ?_
    exact NX q g a s t RV X _ _ _ _ _ rfl hI hM

set_option maxHeartbeats 4000000 in
set_option maxRecDepth 100000 in
theorem lw_c25 {Z : CX} {l : Launch} {E : ED} {b L : Nat} {xs : Nat → Int32} (B : OK Z cL_law 4 RL room_1 E false l) (hX : ZX Z b L xs) (hL : L ≤ 3072) {mo qc : Nat} {qm : Nat → Nat} {k : Nat} (hk : 6 * k + 6 ≤ L) (hp : PUREs) (NX : LJ Z E mo qc qm b (k + 1) k 1109) : LJ Z E mo qc qm b k k 1007 := by
  intro q g a s t RV X np nv nc nl nm hq hI hM
  subst hq
  obtain ⟨hve, hle, hok, p5, p6, p7, p13, p16, p17, p20, p21, p25⟩ := hp g a np nv nc nl nm hI
  obtain ⟨⟨hn, hnp, hv, hnv, hc, hnc, hl, hnl, hm, hnm⟩, ip, ie1, ie2, hpt, ic, iw, ilog, imk, hb1, hb2⟩ := id hI
  refine i_aload_n B 1 dL_law_1007 rfl ?_
  refine i_aload_n B 0 dL_law_1008 rfl ?_
  refine i_iload_n B 3 dL_law_1009 rfl ?_
  refine i_iconst (v := 1) B dL_law_1010 (by decide) ?_
  refine i_iadd B dL_law_1011 ?_
  refine i_sld B hX (6 * k + 1) (nI_add (6 * k) 1) (by omega) hL dL_law_1012 ?_
  refine i_aload_n B 0 dL_law_1013 rfl ?_
  refine i_iload_n B 3 dL_law_1014 rfl ?_
  refine i_iconst (v := 2) B dL_law_1015 (by decide) ?_
  refine i_iadd B dL_law_1016 ?_
  refine i_sld B hX (6 * k + 2) (nI_add (6 * k) 2) (by omega) hL dL_law_1017 ?_
  refine i_aload_n B 0 dL_law_1018 rfl ?_
  refine i_iload_n B 3 dL_law_1019 rfl ?_
  refine i_iconst (v := 3) B dL_law_1020 (by decide) ?_
  refine i_iadd B dL_law_1021 ?_
  refine i_sld B hX (6 * k + 3) (nI_add (6 * k) 3) (by omega) hL dL_law_1022 ?_
  refine i_aload_n B 0 dL_law_1023 rfl ?_
  refine i_iload_n B 3 dL_law_1024 rfl ?_
  refine i_iconst (v := 4) B dL_law_1025 (by decide) ?_
  refine i_iadd B dL_law_1026 ?_
  refine i_sld B hX (6 * k + 4) (nI_add (6 * k) 4) (by omega) hL dL_law_1027 ?_
  refine i_aload_n B 0 dL_law_1028 rfl ?_
  refine i_iload_n B 3 dL_law_1029 rfl ?_
  refine i_iconst (v := 5) B dL_law_1030 (by decide) ?_
  refine i_iadd B dL_law_1031 ?_
  refine i_sld B hX (6 * k + 5) (nI_add (6 * k) 5) (by omega) hL dL_law_1032 ?_
  refine i_if_eq B 1040 dL_law_1033 (by decide) (fun hz => ?_) (fun hz => ?_)
  · refine i_iconst (v := 0) B dL_law_1040 (by decide) ?_
    refine c_wiV (rest := []) (As := [.int (xs (6 * k + 1)), .int (xs (6 * k + 2)), .int (xs (6 * k + 3)), .int (xs (6 * k + 4)), .int 0]) B (k_X8_match l E q g a s t RV X np hn hnp nm hm hnm (xs (6 * k + 1)) (xs (6 * k + 2)) (xs (6 * k + 3)) (xs (6 * k + 4)) 0) cal_yX8_match iv_yX8_match mlL_119 rfl 27 rfl (by decide) ⟨by show _ ≤ 203390; omega, by show _ ≤ 8492080; omega⟩ rfl (Nat.le_of_ble_eq_true rfl) (mW E mo qm g a) [] (by rw [List.append_nil]) _ rfl dL_law_1041 (fun r1 u1 h1 => ?_)
    refine i_world (ws' := mW E mo qm g a ++ cW E q g a (upd (upd s 61 u1.1.1) 62 u1.1.2) (va_up (va_up (va_up t 51 u1.2.1) 52 u1.2.2.1) 53 u1.2.2.2) RV X) (congrArg (mW E mo qm g a ++ ·) (List.append_nil _)) ?_
    refine i_aload_n B 2 dL_law_1044 rfl ?_
    refine i_aload_n B 0 dL_law_1045 rfl ?_
    refine i_iload_n B 3 dL_law_1046 rfl ?_
    refine i_iconst (v := 1) B dL_law_1047 (by decide) ?_
    refine i_iadd B dL_law_1048 ?_
    refine i_sld B hX (6 * k + 1) (nI_add (6 * k) 1) (by omega) hL dL_law_1049 ?_
    refine i_aload_n B 0 dL_law_1050 rfl ?_
    refine i_iload_n B 3 dL_law_1051 rfl ?_
    refine i_iconst (v := 2) B dL_law_1052 (by decide) ?_
    refine i_iadd B dL_law_1053 ?_
    refine i_sld B hX (6 * k + 2) (nI_add (6 * k) 2) (by omega) hL dL_law_1054 ?_
    refine i_aload_n B 0 dL_law_1055 rfl ?_
    refine i_iload_n B 3 dL_law_1056 rfl ?_
    refine i_iconst (v := 3) B dL_law_1057 (by decide) ?_
    refine i_iadd B dL_law_1058 ?_
    refine i_sld B hX (6 * k + 3) (nI_add (6 * k) 3) (by omega) hL dL_law_1059 ?_
    refine i_aload_n B 0 dL_law_1060 rfl ?_
    refine i_iload_n B 3 dL_law_1061 rfl ?_
    refine i_iconst (v := 4) B dL_law_1062 (by decide) ?_
    refine i_iadd B dL_law_1063 ?_
    refine i_sld B hX (6 * k + 4) (nI_add (6 * k) 4) (by omega) hL dL_law_1064 ?_
    refine i_aload_n B 0 dL_law_1065 rfl ?_
    refine i_iload_n B 3 dL_law_1066 rfl ?_
    refine i_iconst (v := 5) B dL_law_1067 (by decide) ?_
    refine i_iadd B dL_law_1068 ?_
    refine i_sld B hX (6 * k + 5) (nI_add (6 * k) 5) (by omega) hL dL_law_1069 ?_
    refine i_if_eq B 1077 dL_law_1070 (by decide) (fun _ => ?_) (fun h => absurd hz h)
    refine i_iconst (v := 0) B dL_law_1077 (by decide) ?_
    refine c_wiV (rest := [.int r1]) (As := [.int (xs (6 * k + 1)), .int (xs (6 * k + 2)), .int (xs (6 * k + 3)), .int (xs (6 * k + 4)), .int 0]) B (k_X9_match l E mo qm g a np hn hnp nm hm hnm (xs (6 * k + 1)) (xs (6 * k + 2)) (xs (6 * k + 3)) (xs (6 * k + 4)) 0) cal_yX9_match iv_yX9_match mlL_123 rfl 0 rfl (by decide) ⟨by show _ ≤ 203390; omega, by show _ ≤ 8492080; omega⟩ rfl (Nat.le_of_ble_eq_true rfl) [] (cW E q g a (upd (upd s 61 u1.1.1) 62 u1.1.2) (va_up (va_up (va_up t 51 u1.2.1) 52 u1.2.2.1) 53 u1.2.2.2) RV X) rfl _ rfl dL_law_1078 (fun r2 u2 h2 => ?_)
    refine i_world (ws' := mW E mo qm g (va_up (va_up (va_up (va_up a 34 u2.1) 35 u2.2.1) 36 u2.2.2.1) 37 u2.2.2.2) ++ cW E q g a (upd (upd s 61 u1.1.1) 62 u1.1.2) (va_up (va_up (va_up t 51 u1.2.1) 52 u1.2.2.1) 53 u1.2.2.2) RV X) rfl ?_
    have e9 := Eq.trans h1 (Eq.trans (p25 _ _ _ _ _) (Eq.symm h2))
    subst e9
    refine i_world (ws' := mW E mo qm g (va_up (va_up (va_up (va_up a 34 u2.1) 35 u2.2.1) 36 u2.2.2.1) 37 u2.2.2.2) ++ cW E q g (va_up (va_up (va_up (va_up a 34 u2.1) 35 u2.2.1) 36 u2.2.2.1) 37 u2.2.2.2) (upd (upd s 61 u1.1.1) 62 u1.1.2) (va_up (va_up (va_up t 51 u1.2.1) 52 u1.2.2.1) 53 u1.2.2.2) RV X) rfl ?_
    refine i_icmp_eq B 1109 dL_law_1081 (by decide) (fun _ => ?_) (fun h => absurd rfl h)
    refine i_widen (k := 100 + 5 * (k + 1)) (n := 20000 + 12418 * (k + 1)) (by omega) (by omega) ?_
    exact NX q g (va_up (va_up (va_up (va_up a 34 u2.1) 35 u2.2.1) 36 u2.2.2.1) 37 u2.2.2.2) (upd (upd s 61 u1.1.1) 62 u1.1.2) (va_up (va_up (va_up t 51 u1.2.1) 52 u1.2.2.1) 53 u1.2.2.2) RV X _ _ _ _ _ rfl (show IV g (va_up (va_up (va_up (va_up a 34 u2.1) 35 u2.2.1) 36 u2.2.2.1) 37 u2.2.2.2) np nv nc nl nm from hI) (MD_cg (MD_st hM rfl rfl rfl rfl rfl rfl) rfl rfl rfl rfl rfl rfl rfl rfl rfl rfl)
  · refine i_iconst (v := 1) B dL_law_1036 (by decide) ?_
    refine i_goto B 1041 dL_law_1037 (by decide) ?_
    refine c_wiV (rest := []) (As := [.int (xs (6 * k + 1)), .int (xs (6 * k + 2)), .int (xs (6 * k + 3)), .int (xs (6 * k + 4)), .int 1]) B (k_X8_match l E q g a s t RV X np hn hnp nm hm hnm (xs (6 * k + 1)) (xs (6 * k + 2)) (xs (6 * k + 3)) (xs (6 * k + 4)) 1) cal_yX8_match iv_yX8_match mlL_119 rfl 27 rfl (by decide) ⟨by show _ ≤ 203390; omega, by show _ ≤ 8492080; omega⟩ rfl (Nat.le_of_ble_eq_true rfl) (mW E mo qm g a) [] (by rw [List.append_nil]) _ rfl dL_law_1041 (fun r1 u1 h1 => ?_)
    refine i_world (ws' := mW E mo qm g a ++ cW E q g a (upd (upd s 61 u1.1.1) 62 u1.1.2) (va_up (va_up (va_up t 51 u1.2.1) 52 u1.2.2.1) 53 u1.2.2.2) RV X) (congrArg (mW E mo qm g a ++ ·) (List.append_nil _)) ?_
    refine i_aload_n B 2 dL_law_1044 rfl ?_
    refine i_aload_n B 0 dL_law_1045 rfl ?_
    refine i_iload_n B 3 dL_law_1046 rfl ?_
    refine i_iconst (v := 1) B dL_law_1047 (by decide) ?_
    refine i_iadd B dL_law_1048 ?_
    refine i_sld B hX (6 * k + 1) (nI_add (6 * k) 1) (by omega) hL dL_law_1049 ?_
    refine i_aload_n B 0 dL_law_1050 rfl ?_
    refine i_iload_n B 3 dL_law_1051 rfl ?_
    refine i_iconst (v := 2) B dL_law_1052 (by decide) ?_
    refine i_iadd B dL_law_1053 ?_
    refine i_sld B hX (6 * k + 2) (nI_add (6 * k) 2) (by omega) hL dL_law_1054 ?_
    refine i_aload_n B 0 dL_law_1055 rfl ?_
    refine i_iload_n B 3 dL_law_1056 rfl ?_
    refine i_iconst (v := 3) B dL_law_1057 (by decide) ?_
    refine i_iadd B dL_law_1058 ?_
    refine i_sld B hX (6 * k + 3) (nI_add (6 * k) 3) (by omega) hL dL_law_1059 ?_
    refine i_aload_n B 0 dL_law_1060 rfl ?_
    refine i_iload_n B 3 dL_law_1061 rfl ?_
    refine i_iconst (v := 4) B dL_law_1062 (by decide) ?_
    refine i_iadd B dL_law_1063 ?_
    refine i_sld B hX (6 * k + 4) (nI_add (6 * k) 4) (by omega) hL dL_law_1064 ?_
    refine i_aload_n B 0 dL_law_1065 rfl ?_
    refine i_iload_n B 3 dL_law_1066 rfl ?_
    refine i_iconst (v := 5) B dL_law_1067 (by decide) ?_
    refine i_iadd B dL_law_1068 ?_
    refine i_sld B hX (6 * k + 5) (nI_add (6 * k) 5) (by omega) hL dL_law_1069 ?_
    refine i_if_eq B 1077 dL_law_1070 (by decide) (fun h => absurd h hz) (fun _ => ?_)
    refine i_iconst (v := 1) B dL_law_1073 (by decide) ?_
    refine i_goto B 1078 dL_law_1074 (by decide) ?_
    refine c_wiV (rest := [.int r1]) (As := [.int (xs (6 * k + 1)), .int (xs (6 * k + 2)), .int (xs (6 * k + 3)), .int (xs (6 * k + 4)), .int 1]) B (k_X9_match l E mo qm g a np hn hnp nm hm hnm (xs (6 * k + 1)) (xs (6 * k + 2)) (xs (6 * k + 3)) (xs (6 * k + 4)) 1) cal_yX9_match iv_yX9_match mlL_123 rfl 0 rfl (by decide) ⟨by show _ ≤ 203390; omega, by show _ ≤ 8492080; omega⟩ rfl (Nat.le_of_ble_eq_true rfl) [] (cW E q g a (upd (upd s 61 u1.1.1) 62 u1.1.2) (va_up (va_up (va_up t 51 u1.2.1) 52 u1.2.2.1) 53 u1.2.2.2) RV X) rfl _ rfl dL_law_1078 (fun r2 u2 h2 => ?_)
    refine i_world (ws' := mW E mo qm g (va_up (va_up (va_up (va_up a 34 u2.1) 35 u2.2.1) 36 u2.2.2.1) 37 u2.2.2.2) ++ cW E q g a (upd (upd s 61 u1.1.1) 62 u1.1.2) (va_up (va_up (va_up t 51 u1.2.1) 52 u1.2.2.1) 53 u1.2.2.2) RV X) rfl ?_
    have e9 := Eq.trans h1 (Eq.trans (p25 _ _ _ _ _) (Eq.symm h2))
    subst e9
    refine i_world (ws' := mW E mo qm g (va_up (va_up (va_up (va_up a 34 u2.1) 35 u2.2.1) 36 u2.2.2.1) 37 u2.2.2.2) ++ cW E q g (va_up (va_up (va_up (va_up a 34 u2.1) 35 u2.2.1) 36 u2.2.2.1) 37 u2.2.2.2) (upd (upd s 61 u1.1.1) 62 u1.1.2) (va_up (va_up (va_up t 51 u1.2.1) 52 u1.2.2.1) 53 u1.2.2.2) RV X) rfl ?_
    refine i_icmp_eq B 1109 dL_law_1081 (by decide) (fun _ => ?_) (fun h => absurd rfl h)
    refine i_widen (k := 100 + 5 * (k + 1)) (n := 20000 + 12418 * (k + 1)) (by omega) (by omega) ?_
    exact NX q g (va_up (va_up (va_up (va_up a 34 u2.1) 35 u2.2.1) 36 u2.2.2.1) 37 u2.2.2.2) (upd (upd s 61 u1.1.1) 62 u1.1.2) (va_up (va_up (va_up t 51 u1.2.1) 52 u1.2.2.1) 53 u1.2.2.2) RV X _ _ _ _ _ rfl (show IV g (va_up (va_up (va_up (va_up a 34 u2.1) 35 u2.2.1) 36 u2.2.2.1) 37 u2.2.2.2) np nv nc nl nm from hI) (MD_cg (MD_st hM rfl rfl rfl rfl rfl rfl) rfl rfl rfl rfl rfl rfl rfl rfl rfl rfl)

set_option maxHeartbeats 4000000 in
set_option maxRecDepth 100000 in
theorem lw_c26 {Z : CX} {l : Launch} {E : ED} {b L : Nat} {xs : Nat → Int32} (B : OK Z cL_law 4 RL room_1 E false l) (hX : ZX Z b L xs) (hL : L ≤ 3072) {mo qc : Nat} {qm : Nat → Nat} {k : Nat} (hk : 6 * k + 6 ≤ L) (hp : PUREs) (NX : LJ Z E mo qc qm b (k + 1) k 1109) : LJ Z E mo qc qm b k k 1086 := by
  intro q g a s t RV X np nv nc nl nm hq hI hM
  subst hq
  obtain ⟨hve, hle, hok, p5, p6, p7, p13, p16, p17, p20, p21, p25⟩ := hp g a np nv nc nl nm hI
  obtain ⟨⟨hn, hnp, hv, hnv, hc, hnc, hl, hnl, hm, hnm⟩, ip, ie1, ie2, hpt, ic, iw, ilog, imk, hb1, hb2⟩ := id hI
  refine i_aload_n B 1 dL_law_1086 rfl ?_
  refine i_aload_n B 0 dL_law_1087 rfl ?_
  refine i_iload_n B 3 dL_law_1088 rfl ?_
  refine i_iconst (v := 1) B dL_law_1089 (by decide) ?_
  refine i_iadd B dL_law_1090 ?_
  refine i_sld B hX (6 * k + 1) (nI_add (6 * k) 1) (by omega) hL dL_law_1091 ?_
  refine c_roV (rest := []) (As := [.int (xs (6 * k + 1))]) B (k_X8_count l E q g a s t RV X nm hm hnm (xs (6 * k + 1))) cal_yX8_count iv_yX8_count mlL_124 rfl 27 rfl (by decide) ⟨by show _ ≤ 203390; omega, by show _ ≤ 8492080; omega⟩ rfl (Nat.le_of_ble_eq_true rfl) (Has.mid (mW E mo qm g a) [] (by rw [List.append_nil])) _ rfl dL_law_1092 (fun r1 h1 => ?_)
  refine i_aload_n B 2 dL_law_1095 rfl ?_
  refine i_aload_n B 0 dL_law_1096 rfl ?_
  refine i_iload_n B 3 dL_law_1097 rfl ?_
  refine i_iconst (v := 1) B dL_law_1098 (by decide) ?_
  refine i_iadd B dL_law_1099 ?_
  refine i_sld B hX (6 * k + 1) (nI_add (6 * k) 1) (by omega) hL dL_law_1100 ?_
  refine c_wiV (rest := [.int r1]) (As := [.int (xs (6 * k + 1))]) B (k_X9_count l E mo qm g a nm hm hnm (xs (6 * k + 1))) cal_yX9_count iv_yX9_count mlL_127 rfl 0 rfl (by decide) ⟨by show _ ≤ 203390; omega, by show _ ≤ 8492080; omega⟩ rfl (Nat.le_of_ble_eq_true rfl) [] (cW E q g a s t RV X) rfl _ rfl dL_law_1101 (fun r2 _ h2 => ?_)
  refine i_world (ws' := mW E mo qm g a ++ cW E q g a s t RV X) rfl ?_
  have e9 := Eq.trans h1 (Eq.symm h2)
  subst e9
  refine i_icmp_eq B 1109 dL_law_1104 (by decide) (fun _ => ?_) (fun h => absurd rfl h)
  refine i_widen (k := 100 + 5 * (k + 1)) (n := 20000 + 12418 * (k + 1)) (by omega) (by omega) ?_
  exact NX q g a s t RV X _ _ _ _ _ rfl hI hM
