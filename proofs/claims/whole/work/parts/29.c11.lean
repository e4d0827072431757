def WQ {S : Type} (l : Launch) (E : ED) (y : MethodName) (bytes : ByteArray) (maxL : Nat) (cls : String) (F Lc mc ms : Nat) (As : List Value) (wi : va_W) (post : S → Prop) (ad : S → Nat) (wo : S → va_W) : Prop := ∀ sz : Nat, Met l y (Cond.code y bytes maxL (some (.object cls)) :: WS) { frames := F, cells := mc, slots := ms, locals := Lc } (va_Pc As (fun U => U.heap.size = sz ∧ EV E U ∧ va_P E.1 vwCl wi U.heap ∧ va_D (fun _ => True) wi)) (va_Qr post (fun u a t => a = ad u ∧ va_P E.1 vwCl (wo u) t.heap ∧ va_D (va_A wi sz) (wo u)) (va_A wi sz)) mc ms (va_A wi sz)
theorem WQ.mk {S : Type} {l : Launch} {E : ED} {y : MethodName} {bytes : ByteArray} {maxL : Nat} {cls : String} {F Lc mc ms : Nat} {As : List Value} {wi : va_W} {post : S → Prop} {ad : S → Nat} {wo : S → va_W} (hy : plainName y.cls = true) (hm : (lg_sl As).length ≤ maxL) (L0 : List (Nat × Value)) (hL0 : lv_args 0 As = L0)
    (body : ∀ Z : CX, OK Z bytes maxL y.cls { frames := F, cells := mc, slots := ms, locals := Lc } E false l → (∀ (pc : Nat) (L : List (Nat × Value)) (u : S), decode bytes pc = .ok (.areturn, 1) → post u → J Z mc ms (wo u) pc L [.ref (ad u)]) → J Z 0 0 wi 0 L0 []) : WQ l E y bytes maxL cls F Lc mc ms As wi post ad wo := by
  subst hL0
  intro sz
  refine Met.ofW (cc := bytes) (maxL := maxL) (ret := some (.object cls)) hy rfl ?_
  intro p e s m args below meth c s₁ B hml hv
  obtain ⟨rfl, rfl, hE, hP, hD⟩ := hv
  have hl := lv_entry As hm
  rw [lg_entry_eq]
  have hr := B.returns
  have hlk := B.notSynchronized
  have hts := atoms_spec (ws := Cond.code y bytes maxL (some (.object cls)) :: WS) B.pre
  have hfix : CallFix p m c bytes maxL s As.toArray WS y.cls := ⟨B.exec, B.bytes, hml, findClass_of_methodNamed B.named, fun w h => hts w (List.mem_cons_of_mem _ h)⟩
  refine body (p, l, e, _, s, m, As.toArray, below, meth, c, _, E, maxL, va_A wi s.heap.size, false) ⟨hfix, hE, fun q h => Or.inr h, rfl, rfl, rfl, rfl, rfl⟩ ?_ s.heap [] _ hP hD.self va_S.rf (fun h => by cases h) hl
  intro pc L u hdg hpost H locs ls hP hD hS hmd hl
  exact W.aret hfix.1 hfix.2.1 hr (Or.inl ⟨cls, rfl⟩) (Or.inr ⟨_, rfl⟩) (fun t ht hW => ⟨⟨u, ad u, rfl, hpost, rfl, by rw [ht]; exact hP, hD⟩, hS.F ht⟩) hS.2.2 hdg hlk
theorem c_wqV {Z : CX} {cc : ByteArray} {nL : Nat} {own : String} {R : Room} {E : ED} {l : Launch} {cells slots pc : Nat} {ws : va_W} {L : List (Nat × Value)} {rest : List Value} {y : MethodName} {bytes : ByteArray} {maxL n F Lc mc ms ix : Nat} {cls : String} {As : List Value} (B : OK Z cc nL own R E false l) {b : Nat} {S : Type} {wi : va_W} {post : S → Prop} {ad : S → Nat} {wo : S → va_W} (hM : WQ l E y bytes maxL cls F Lc mc ms (.ref b :: As) wi post ad wo) (K : Cal y bytes maxL (some (.object cls)) n) (hst : Cond.instanceMethod y ∈ WS ∧ Cond.selects y.cls y y ∈ WS) (hlk : Cond.methodLink own ix y ∈ WS) {ci N : Nat} {T : u_T} {fs : List Value} (hc : vwCl[ci]? = some (y.cls, T, N)) (q0 : Nat) (he : ws[q0]? = some (b, .inr (ci, fs))) (hR : F + 1 ≤ R.frames ∧ 8 + (maxL + 11) + Lc ≤ R.locals) (hC : cells + mc ≤ R.cells ∧ slots + ms ≤ R.slots) (hn : As.length = n) (hcat : (rest.map fun v => v.category).sum ≤ 8) (X Y : va_W) (hw : ws = X ++ (wi ++ Y)) (st : List Value) (hstk : As.reverse ++ .ref b :: rest = st) (hdg : decode cc pc = .ok (.invokevirtual ix, 3)) (kk : ∀ u : S, post u → J Z (cells + mc) (slots + ms) (X ++ (wo u ++ Y)) (pc + 3) L (.ref (ad u) :: rest)) : J Z cells slots ws pc L st := by
  subst hstk
  subst hw
  obtain ⟨p, l', e, R', s, m, args, below, meth, c, Q, E', nL', A, md'⟩ := Z
  obtain ⟨⟨hx, hb, hml, hown, hts⟩, hE, hA, rfl, rfl, rfl, rfl, rfl⟩ := B
  intro H locs ls hP hD hS hmd hl
  obtain ⟨k1, k2, k3⟩ := K
  have hF := fr hD hS hA
  refine va_callr (va_runV (As := As) (rest := rest) (b := b) (C := y.cls) (g := F0 m pc ls _) ⟨hx, hb, hml, hown, hts⟩ (hM H.size) ⟨callB_of (ws' := WS) n hts (WS_in k1) rfl rfl rfl (hts _ k2) (hts _ hlk) k3 hR, hts _ hst.1, hts _ hst.2⟩ ⟨FB_wr, va_recv hE.1 hP hc he, fun U hU hW => ⟨rfl, by rw [hU], hE.warm hW, by rw [hU]; exact p_l (p_r hP), (d_l (d_r hD)).weaken (fun _ _ _ _ => trivial)⟩⟩ rfl hn hl.1 rfl (by show 2 * 0 + _ ≤ 8; omega) hdg hC) hS (fun q _ h => hF q h) hF (fun u ra t H1 locs1 ht hvm hpost hB hz hk hS1 => ?_)
  obtain ⟨ha, hP1, hD1⟩ := hB
  subst ha
  rw [ht] at hP1
  obtain ⟨hP2, hD2⟩ := jn hP hD hk hF hP1 hD1
  exact kk u hpost H1 locs1 ls hP2 hD2 hS1 (fun h => by cases h) hl
theorem i_tabI {Z : CX} {cc : ByteArray} {nL : Nat} {own : String} {R : Room} {E : ED} {md : Bool} {l : Launch} {cells slots pc : Nat} {ws : va_W} {L : List (Nat × Value)} {rest : List Value} (B : OK Z cc nL own R E md l) {dflt lo hi : Int} {offs : Array Int} {len : Nat} {x : Int32} {off : Int} (tgt : Nat) (hdg : decode cc pc = .ok (.tableswitch dflt lo hi offs, len)) (h1 : ¬ x.toInt < lo) (h2 : ¬ hi < x.toInt) (ho : offs[(x.toInt - lo).toNat]? = some off) (ht : (pc : Int) + off = (tgt : Int)) (k : J Z cells slots ws tgt L rest) : J Z cells slots ws pc L (.int x :: rest) := by
  obtain ⟨p, l', e, R', s, m, args, below, meth, c, Q, E', nL', A, md'⟩ := Z
  obtain ⟨⟨hx, hb, hml, hown, hts⟩, hE, hA, rfl, rfl, rfl, rfl, rfl⟩ := B
  intro H locs ls hP hD hS hmd hl
  exact lv_tableIn hx hb hdg h1 h2 ho ht (k H locs ls hP hD hS hmd hl)
theorem i_tabO {Z : CX} {cc : ByteArray} {nL : Nat} {own : String} {R : Room} {E : ED} {md : Bool} {l : Launch} {cells slots pc : Nat} {ws : va_W} {L : List (Nat × Value)} {rest : List Value} (B : OK Z cc nL own R E md l) {dflt lo hi : Int} {offs : Array Int} {len : Nat} {x : Int32} (tgt : Nat) (hdg : decode cc pc = .ok (.tableswitch dflt lo hi offs, len)) (h : x.toInt < lo ∨ hi < x.toInt) (ht : (pc : Int) + dflt = (tgt : Int)) (k : J Z cells slots ws tgt L rest) : J Z cells slots ws pc L (.int x :: rest) := by
  obtain ⟨p, l', e, R', s, m, args, below, meth, c, Q, E', nL', A, md'⟩ := Z
  obtain ⟨⟨hx, hb, hml, hown, hts⟩, hE, hA, rfl, rfl, rfl, rfl, rfl⟩ := B
  intro H locs ls hP hD hS hmd hl
  exact lv_tableOut hx hb hdg h ht (k H locs ls hP hD hS hmd hl)
/-- an array's contents beyond its length are nothing -/
theorem i_fn {Z : CX} {cells slots pc : Nat} {ws : va_W} {L : List (Nat × Value)} {rest : List Value} {a : Nat} {cA : ClassId} {n : Nat} {f f' : Nat → Int32} (q0 : Nat) (he : ws[q0]? = some (a, .inl (cA, n, .inl f))) (h : ∀ j, j < n → f j = f' j) (kk : J Z cells slots (ws.set q0 (a, .inl (cA, n, .inl f'))) pc L rest) : J Z cells slots ws pc L rest := by
  obtain ⟨p, l', e, R', s, m, args, below, meth, c, Q, E', nL', A, md'⟩ := Z
  intro H locs ls hP hD hS hmd hl
  have e1 : vp_cell cA (n, .inl f) = vp_cell cA (n, .inl f') := by
    rw [vp_cell_i, vp_cell_i]
    unfold arrV
    congr 2
    funext j
    show Value.int (f j.val) = Value.int (f' j.val)
    rw [h j.val j.isLt]
  refine kk H locs ls ?_ (hD.set he) hS hmd hl
  exact hP.set hD he (by show H[a]? = some (vp_cell cA (n, .inl f')); rw [← e1]; exact hP q0 _ he) (fun q _ => rfl)
theorem wit_cl {p : Int32} {n : Nat} (hn : n ≤ 100) : (!decide (p < 0) && decide (p < nI n)) = wit p 0 (nI n - 1) := by
  by_cases h0 : p < 0
  · rw [wit_lo h0, decide_eq_true h0]; rfl
  · by_cases h : p < nI n
    · obtain ⟨j, hj, rfl⟩ := lt_ix hn h0 h
      rw [ix_wit hn hj, decide_eq_false h0, decide_eq_true h]; rfl
    · rw [wit_hi hn h0 h, decide_eq_false h0, decide_eq_false h]; rfl
theorem hi_bits : ∀ n, n ≤ 10 → ∀ i, i < 32 → n ≤ i → (4294967296 - 2 ^ n).testBit i = true := by decide
theorem of32 (x : Int32) : ∃ n : Nat, n < 4294967296 ∧ x = nI n := ⟨x.toBitVec.toNat, x.toBitVec.isLt, by
  apply Int32.toBitVec_inj.1
  show x.toBitVec = BitVec.ofNat 32 x.toBitVec.toNat
  rw [BitVec.ofNat_toNat, BitVec.setWidth_eq]⟩
theorem set_iff {x : Int32} {n : Nat} (hn : n ≤ 10) : (x &&& -(1 <<< (nI n &&& 31)) = 0) ↔ nset (nI n) x = false := by
  have hpw := pow_le n hn
  rw [shl1 n hn, neg_nI (by omega)]
  obtain ⟨m, hm, rfl⟩ := of32 x
  rw [nx_and]
  constructor
  · intro h
    have hz : m &&& (4294967296 - 2 ^ n) = 0 := by
      have h1 : m &&& (4294967296 - 2 ^ n) ≤ m := Nat.and_le_left
      have h2 := congrArg (fun z : Int32 => z.toBitVec.toNat) h
      have h3 : (nI (m &&& (4294967296 - 2 ^ n))).toBitVec.toNat = m &&& (4294967296 - 2 ^ n) := pk_tn (by omega)
      have h4 : (0 : Int32).toBitVec.toNat = 0 := rfl
      rw [h3, h4] at h2
      exact h2
    have hlt : m < 2 ^ n := by
      by_cases e : m < 2 ^ n
      · exact e
      · obtain ⟨i, hi, hb⟩ := Nat.exists_ge_and_testBit_of_ge_two_pow (by omega : m ≥ 2 ^ n)
        have hi32 : i < 32 := by
          by_cases q : i < 32
          · exact q
          · have : m.testBit i = false := Nat.testBit_lt_two_pow (Nat.lt_of_lt_of_le hm (Nat.pow_le_pow_right (n := 2) (i := 32) (by omega) (by omega)))
            rw [this] at hb; cases hb
        have e2 : (m &&& (4294967296 - 2 ^ n)).testBit i = true := by rw [Nat.testBit_and, hb, hi_bits n hn i hi32 hi]; rfl
        rw [hz, Nat.zero_testBit] at e2
        cases e2
    rw [nset, decide_eq_false (nI_pos (by omega)), pk_shrN (by omega) _ n (sm31 n (by omega)), Nat.div_eq_of_lt hlt]
    rfl
  · intro h
    obtain ⟨S, hS, e⟩ := nset_ix hn h
    have e2 : m = S := by
      have h2 := congrArg (fun z : Int32 => z.toBitVec.toNat) e
      rw [pk_tn (by omega), pk_tn (by omega)] at h2
      exact h2
    subst e2
    have : m &&& (4294967296 - 2 ^ n) = 0 := by
      apply Nat.eq_of_testBit_eq
      intro i
      rw [Nat.testBit_and, Nat.zero_testBit]
      by_cases q : i < n
      · have hl : ∀ n, n ≤ 10 → ∀ i, i < n → (4294967296 - 2 ^ n).testBit i = false := by decide
        rw [hl n hn i q, Bool.and_false]
      · rw [Nat.testBit_lt_two_pow (Nat.lt_of_lt_of_le hS (Nat.pow_le_pow_right (by omega) (by omega))), Bool.false_and]
    rw [this]; rfl
