def KP (g : Nat → Int32) (a : Nat → Nat → Int32) (u : GA) : Prop := u.1 16 = g 16 ∧ u.1 17 = g 17 ∧ u.1 18 = g 18 ∧ u.1 19 = g 19 ∧ u.2 9 = a 9 ∧ u.2 10 = a 10 ∧ u.2 12 = a 12 ∧ u.2 13 = a 13 ∧ u.2 14 = a 14 ∧ u.2 15 = a 15
theorem KP.md {E : ED} {q : Nat → Nat} {g : Nat → Int32} {a : Nat → Nat → Int32} {u : GA} {nc nv : Nat} {s : Nat → Int32} {t : Nat → Nat → Int32} {RV : Value} {X : va_W} (k : KP g a u) (h : MD E q g a nc nv s t RV X) : MD E q u.1 u.2 nc nv s t RV X := by
  obtain ⟨k1, k2, k3, k4, k5, k6, k7, k8, k9, k10⟩ := k
  exact MD_cg h k1 k2 k3 k4 k5 k6 k7 k8 k9 k10
theorem KP_panel {g : Nat → Int32} {a : Nat → Nat → Int32} {np : Nat} {x1 y1 x2 y2 r : Int32} {u : GA} (e : (r, u) = panelF g a np x1 y1 x2 y2) : KP g a u := by
  unfold panelF at e
  (repeat' split at e) <;> (obtain ⟨-, rfl⟩ := Prod.mk.inj e; exact ⟨rfl, rfl, rfl, rfl, rfl, rfl, rfl, rfl, rfl, rfl⟩)
theorem KP_log {g : Nat → Int32} {a : Nat → Nat → Int32} {nl : Nat} {x y z r : Int32} {u : GA} (e : (r, u) = logF g a nl x y z) : KP g a u := by
  unfold logF at e
  (repeat' split at e) <;> (obtain ⟨-, rfl⟩ := Prod.mk.inj e; exact ⟨rfl, rfl, rfl, rfl, rfl, rfl, rfl, rfl, rfl, rfl⟩)
theorem KP_mark {g : Nat → Int32} {a : Nat → Nat → Int32} {nm : Nat} {p at_ len yr r : Int32} {u : GA} (e : (r, u) = markF g a nm p at_ len yr) : KP g a u := by
  unfold markF at e
  (repeat' split at e) <;> (obtain ⟨-, rfl⟩ := Prod.mk.inj e; exact ⟨rfl, rfl, rfl, rfl, rfl, rfl, rfl, rfl, rfl, rfl⟩)
theorem KP_eye {g : Nat → Int32} {a : Nat → Nat → Int32} {w v r : Int32} {u : Nat → Int32} (e : (r, u) = eyeF g w v) : KP g a (u, a) := by
  unfold eyeF at e
  (repeat' split at e) <;> (obtain ⟨-, rfl⟩ := Prod.mk.inj e; exact ⟨rfl, rfl, rfl, rfl, rfl, rfl, rfl, rfl, rfl, rfl⟩)
theorem KP_wipe {g : Nat → Int32} {a : Nat → Nat → Int32} {m r : Int32} {u : Nat → Nat → Int32} (e : (r, u) = wipeF g a m) : KP g a (g, u) := by
  unfold wipeF at e
  (repeat' split at e) <;> (obtain ⟨-, rfl⟩ := Prod.mk.inj e; exact ⟨rfl, rfl, rfl, rfl, rfl, rfl, rfl, rfl, rfl, rfl⟩)
theorem Rr_ext {lg lg' : Nat → Nat → Int32} {hov : Int32} {nv nv' : Nat} (hn : nv ≤ nv') (h : ∀ x y, thr nv x = true → thr nv y = true → lg' x y = lg x y) : ∀ S, S < 2 ^ nv → ∀ x, thr nv x = true → Rr lg' hov nv' S x = Rr lg hov nv S x := by
  intro S
  induction S using Nat.strongRecOn with
  | _ S ih =>
    intro hS x hx
    rw [Rr_eq, Rr_eq, bst_top hS hn]
    have hb : ∀ b, S.testBit b = true → thr nv b = true := fun b hb => by
      unfold thr
      by_cases e : b < nv
      · simp [e]
      · rw [Nat.testBit_lt_two_pow (Nat.lt_of_lt_of_le hS (Nat.pow_le_pow_right (by omega) (by omega)))] at hb
        cases hb
    exact bst_cg (fun _ => h x 10 hx (by simp [thr])) (fun b _ hbt => ⟨h x b hx (hb b hbt), ih _ (bit_lt hbt) (Nat.lt_trans (bit_lt hbt) hS) b (hb b hbt)⟩)
theorem SPL_cg {bat : Int32} {rn rn' : Nat → Int32} {nv : Nat} (hn : nv ≤ 10) (h : ∀ T, T < 2 ^ nv → T ≠ 0 → rn T = rn' T) : ∀ S, S < 2 ^ nv → SPL bat rn S = SPL bat rn' S := by
  intro S
  induction S using Nat.strongRecOn with
  | _ S ih =>
    intro hS
    by_cases e : S = 0
    · subst e; rw [SPL_0, SPL_0]
    · have hp := pow_le nv hn
      rw [SPL_eq (by omega) e, SPL_eq (by omega) e]
      exact bsf_cg (by omega) e (fun T hT h0 => h T (Nat.lt_of_le_of_lt (sub_le hT) hS) h0) (fun T hT hl => ih T hl (by omega))
theorem thr_mono {nv nv' x : Nat} (h : nv ≤ nv') (hx : thr nv x = true) : thr nv' x = true := by
  unfold thr at *
  simp only [Bool.or_eq_true, decide_eq_true_eq] at *
  omega
theorem thr_bit {S nv b : Nat} (hS : S < 2 ^ nv) (hb : S.testBit b = true) : thr nv b = true := by
  unfold thr
  by_cases e : b < nv
  · simp [e]
  · rw [Nat.testBit_lt_two_pow (Nat.lt_of_lt_of_le hS (Nat.pow_le_pow_right (by omega) (by omega)))] at hb
    cases hb
theorem legF_gg {g g' : Nat → Int32} {a : Nat → Nat → Int32} (h16 : g' 16 = g 16) (h17 : g' 17 = g 17) (nc : Nat) (ax ay bx by_ : Int32) : legF g' a nc ax ay bx by_ = legF g a nc ax ay bx by_ := by rw [legF, legF, alF, alF, h16, h17]
/-- a new VIEW changes no old way -/
theorem MD_view {E : ED} {q : Nat → Nat} {g : Nat → Int32} {a : Nat → Nat → Int32} {nc nv : Nat} {s : Nat → Int32} {t : Nat → Nat → Int32} {RV : Value} {X : va_W} (x y : Int32) (hnv : nv < 10) (h : MD E q g a nc nv s t RV X) : MD E q (upd g 8 (nI (nv + 1))) (va_up (va_up a 9 (upd (a 9) nv x)) 10 (upd (a 10) nv y)) nc (nv + 1) s t RV X := by
  rcases h with h | ⟨h1, h2', RS, SS, k1, k2, k3, k4, k5, k6, k7⟩
  · exact Or.inl h
  · have hl : ∀ x9 y9, thr nv x9 = true → thr nv y9 = true → lgm (upd g 8 (nI (nv + 1))) (va_up (va_up a 9 (upd (a 9) nv x)) 10 (upd (a 10) nv y)) nc (nv + 1) x9 y9 = lgm g a nc nv x9 y9 := by
      intro x9 y9 hx hy
      have ne : ∀ z, thr nv z = true → z ≠ nv := fun z hz e => by
        subst e
        unfold thr at hz
        simp only [Bool.or_eq_true, decide_eq_true_eq] at hz
        omega
      rw [lgm, lgm, thr_mono (Nat.le_succ nv) hx, thr_mono (Nat.le_succ nv) hy, hx, hy]
      show (if (true && true) = true then legF _ _ nc (upd (a 9) nv x x9) (upd (a 10) nv y x9) (upd (a 9) nv x y9) (upd (a 10) nv y y9) else _) = _
      rw [pk_un (ne _ hx), pk_un (ne _ hx), pk_un (ne _ hy), pk_un (ne _ hy)]
      show (if (true && true) = true then legF (upd g 8 (nI (nv + 1))) (va_up (va_up a 9 (upd (a 9) nv x)) 10 (upd (a 10) nv y)) nc (a 9 x9) (a 10 x9) (a 9 y9) (a 10 y9) else _) = _
      rw [legF_cg (a := a) (b := va_up (va_up a 9 (upd (a 9) nv x)) 10 (upd (a 10) nv y)) rfl rfl rfl rfl, legF_gg (g := g) (g' := upd g 8 (nI (nv + 1))) rfl rfl]
    have hR := Rr_ext (hov := g 19) (nv := nv) (nv' := nv + 1) (by omega) hl
    refine Or.inr ⟨h1, h2', RS, SS, ?_, ?_, k3, k4, k5, ⟨fun x9 y9 hx hy hne b1 b2 => ?_, fun S v hs hv hb => ?_, fun S hs h0 => ?_⟩, fun T hT => ?_⟩
    · have := Nat.pow_le_pow_right (n := 2) (by omega) (Nat.le_succ nv); omega
    · have := Nat.pow_le_pow_right (n := 2) (by omega) (Nat.le_succ nv); omega
    · rw [hl x9 y9 (thr_of k1 hx b1) (thr_of k1 hy b2)]
      exact k6.1 x9 y9 hx hy hne b1 b2
    · have hS : S < 2 ^ nv := Nat.lt_of_le_of_lt (sub_le hs) k1
      show _ = g 19 + Rr _ (g 19) (nv + 1) (S ^^^ 2 ^ v) v
      rw [hR _ (Nat.lt_trans (bit_lt hb) hS) v (thr_bit hS hb)]
      exact k6.2.1 S v hs hv hb
    · have hS : S < 2 ^ nv := Nat.lt_of_le_of_lt (sub_le hs) k1
      show _ = Rr _ (g 19) (nv + 1) S 10
      rw [hR S hS 10 (by simp [thr])]
      exact k6.2.2 S hs h0
    · have hS : T < 2 ^ nv := Nat.lt_of_le_of_lt (sub_le hT) k2
      rw [k7 T hT]
      refine SPL_cg (by omega) (fun T9 h9 z9 => ?_) T hS
      rw [rnd, rnd]
      show _ = if decide (T9 = 0) = true then 1000000 else Rr _ (g 19) (nv + 1) T9 10
      rw [hR T9 h9 10 (by simp [thr])]
theorem LR_of {a : Nat → Nat → Int32} {nl : Nat} (h : ∀ i, i < nl → pt (a 21 i) (a 22 i) = true ∧ wit (a 23 i) 0 5 = true) : ∀ i, i < nl → inr (a 21 i - a 23 i) = true ∧ inr (a 21 i + a 23 i) = true ∧ inr (a 22 i - a 23 i) = true ∧ inr (a 22 i + a 23 i) = true := by
  intro i hi
  obtain ⟨h1, h2⟩ := h i hi
  obtain ⟨x, y, hx, hy, e1, e2⟩ := pt_ij h1
  have h3 : ∃ z : Nat, z ≤ 5 ∧ a 23 i = nI z := by
    unfold wit at h2
    simp only [Bool.and_eq_true, Bool.not_eq_true', decide_eq_false_iff_not] at h2
    exact nI_of2 (M := 5) (n := 5) rfl h2.1 (q_n32.mp h2.2)
  obtain ⟨z, hz, e3⟩ := h3
  rw [e1, e2, e3]
  have key : ∀ x, x ≤ 60 → ∀ z, z ≤ 5 → inr (nI x - nI z) = true ∧ inr (nI x + nI z) = true := by decide +kernel
  exact ⟨(key x hx z hz).1, (key x hx z hz).2, (key y hy z hz).1, (key y hy z hz).2⟩
/-- all that the two sides must agree on, of numbers alone -/
def PUREs : Prop := ∀ (g : Nat → Int32) (a : Nat → Nat → Int32) (np nv nc nl nm : Nat), IV g a np nv nc nl nm →
  VEq g a np ∧ LegEq g a nc ∧ (∀ S, S < 2 ^ nv → rnd (lgm g a nc nv) (g 19) nv S < 1000000 → StOK (lgm g a nc nv) (g 19) nv S) ∧
  (∀ k, covC g a np nv k = covF g a np nv k) ∧ (∀ x k, covsC g a np nv x k = covsF g a np nv x k) ∧ (∀ x, timC g a np nv x = timF g a np nv x) ∧
  (∀ ax ay bx by_, legC g a nc ax ay bx by_ = legA g a nc ax ay bx by_) ∧
  (∀ x, fliC (g 18) (rnd (lgm g a nc nv) (g 19) nv) (g 8) x = fliF g a nc nv x) ∧ (∀ x, eneC (g 18) (rnd (lgm g a nc nv) (g 19) nv) (g 8) x = eneF g a nc nv x) ∧
  (∀ p, prdC g a np nl p = prdF g a np nl p) ∧ (∀ i k, misC g a np nl i k = misF g a np nl i k) ∧ (∀ p y1 y2 tol z, matC g a nm p y1 y2 tol z = matF g a nm p y1 y2 tol z)
