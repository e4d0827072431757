/-- pairs and apart as one number -/
def Me (k : Nat) (st : Int32 × Int32) (w : Int32) : Prop := ∃ n d : Nat, n ≤ k ∧ d ≤ 1000 * n ∧ st = (nI n, nI d) ∧ w = nI (n * 100000 - d)
theorem Me_up {k k' : Nat} {st : Int32 × Int32} {w : Int32} (h : Me k st w) (hk : k ≤ k') : Me k' st w := by
  obtain ⟨n, d, h1, h2, h3, h4⟩ := h
  exact ⟨n, d, by omega, h2, h3, h4⟩
theorem Me_0 (k : Nat) : Me k (0, 0) 0 := ⟨0, 0, by omega, by omega, rfl, rfl⟩
theorem Me_bet {k : Nat} (hk : k ≤ 40) {c n : Int32 × Int32} {u w : Int32} (h1 : Me k c u) (h2 : Me k n w) : Me k (bet c n) (mx u w) := by
  obtain ⟨n1, d1, a1, a2, rfl, rfl⟩ := h1
  obtain ⟨n2, d2, b1, b2, rfl, rfl⟩ := h2
  rw [bet, mx]
  show Me k (if (decide (nI n1 < nI n2) || (decide (nI n2 = nI n1) && decide (nI d2 < nI d1))) = true then _ else _) _
  have q : (decide (nI n1 < nI n2) || (decide (nI n2 = nI n1) && decide (nI d2 < nI d1))) = decide (nI (n1 * 100000 - d1) < nI (n2 * 100000 - d2)) := by
    rw [Bool.eq_iff_iff]
    simp only [Bool.or_eq_true, Bool.and_eq_true, decide_eq_true_eq]
    rw [nI_lt' (by omega) (by omega), nI_eq' (by omega) (by omega), nI_lt' (by omega) (by omega), nI_lt' (by omega) (by omega)]
    omega
  rw [q]
  by_cases h : nI (n1 * 100000 - d1) < nI (n2 * 100000 - d2)
  · rw [if_pos (by simp [h]), if_pos h]; exact ⟨n2, d2, b1, b2, rfl, rfl⟩
  · rw [if_neg (by simp [h]), if_neg h]; exact ⟨n1, d1, a1, a2, rfl, rfl⟩
theorem Me_add {k : Nat} (hk : k ≤ 40) {c : Int32 × Int32} {u : Int32} {z : Nat} (hz : z ≤ 1000) (h : Me k c u) : Me (k + 1) (c.1 + 1, c.2 + nI z) (u + 100000 - nI z) := by
  obtain ⟨n, d, a1, a2, rfl, rfl⟩ := h
  refine ⟨n + 1, d + z, by omega, by omega, ?_, ?_⟩
  · rw [nI_add', nI_add']; rfl
  · rw [show (100000 : Int32) = nI 100000 from rfl, ← nI_add', nI_sub' (by omega)]
    exact congrArg nI (by omega)
theorem abz_apa (u v : Int32) : abz (u - v) = apa u v := by
  rw [abz, apa]
  by_cases h : u - v < 0
  · rw [if_pos h, if_neg (by rw [Int32.le_iff_toInt_le]; rw [Int32.lt_iff_toInt_lt] at h; omega), Int32.zero_sub]
  · rw [if_neg h, if_pos (by rw [Int32.le_iff_toInt_le]; rw [Int32.lt_iff_toInt_lt] at h; omega)]
theorem apa_v {u v : Nat} (hu : u ≤ 1000) (hv : v ≤ 1000) : ∃ z : Nat, z ≤ 1000 ∧ apa (nI u) (nI v) = nI z := by
  rw [apa]
  by_cases h : v ≤ u
  · rw [nI_sub' h, show (0 : Int32) = nI 0 from rfl, if_neg (by rw [nI_lt' (by omega) (by omega)]; omega)]
    exact ⟨_, by omega, rfl⟩
  · have e : nI u - nI v = -nI (v - u) := by rw [← nI_sub' (by omega), Int32.neg_sub]
    have hz : (-nI (v - u)).toInt = -((v - u : Nat) : Int) := by
      rw [Int32.toInt_neg, nI_toI (by omega), Int.bmod_eq_of_le (by omega) (by omega)]
    rw [e, if_pos (by rw [Int32.lt_iff_toInt_lt, hz, show (0 : Int32).toInt = 0 by decide]; omega), Int32.neg_neg]
    exact ⟨_, by omega, rfl⟩
theorem mt_main {x y : Nat → Int32} {tol : Int32} {I Jn : Nat} (hI : I ≤ 40) (hx : ∀ k, k < I → ∃ v : Nat, v ≤ 1000 ∧ x k = nI v) (hy : ∀ k, k < Jn → ∃ v : Nat, v ≤ 1000 ∧ y k = nI v) : ∀ i, i ≤ I → ∀ j, j ≤ Jn → Me i (MT x y tol i j) (wrr x y tol i j) := by
  have m0 : ∀ {k u st}, k ≤ 40 → Me k st u → mx 0 u = u := by
    intro k u st hk h
    obtain ⟨n, d, a1, a2, rfl, rfl⟩ := h
    rw [mx]
    by_cases h : 0 < nI (n * 100000 - d)
    · rw [if_pos h]
    · rw [if_neg h]
      rw [show (0 : Int32) = nI 0 from rfl, nI_lt' (by omega) (by omega)] at h
      rw [show n * 100000 - d = 0 by omega]; rfl
  intro i
  induction i with
  | zero =>
    intro _ j
    induction j with
    | zero => intro _; rw [MT, wrr]; exact Me_0 0
    | succ j ih =>
      intro hj
      rw [MT, wrr]
      have := Me_bet (by omega) (Me_0 0) (ih (by omega))
      rw [wrr] at this
      exact this
  | succ i ihi =>
    intro hi j
    have hi' := ihi (by omega)
    induction j with
    | zero =>
      intro hj
      have h1 := Me_up (hi' 0 (by omega)) (Nat.le_succ i)
      have := Me_bet (by omega) (Me_0 (i + 1)) h1
      rw [m0 (by omega) h1] at this
      rw [MT, wrr, nwr]
      exact this
    | succ j ihj =>
      intro hj
      have h1 := Me_up (hi' (j + 1) hj) (Nat.le_succ i)
      have h2 := ihj (by omega)
      have h3 := Me_bet (by omega) (Me_0 (i + 1)) h1
      rw [m0 (by omega) h1] at h3
      have h4 := Me_bet (by omega) h3 h2
      rw [MT, wrr, nwr, abz_apa]
      rw [wrr] at h4
      by_cases c : tol < apa (x i) (y j)
      · rw [if_pos c, if_pos c]
        exact h4
      · rw [if_neg c, if_neg c]
        obtain ⟨u, hu, eu⟩ := hx i (by omega)
        obtain ⟨v, hv, ev⟩ := hy j (by omega)
        obtain ⟨z, hz, ez⟩ := apa_v hu hv
        rw [eu, ev, ez]
        rw [eu] at h4
        have h5 := Me_add (by omega) hz (hi' j (by omega))
        exact Me_bet (by omega) h4 h5
theorem insr_v {at_ : Int32} {P : Int32 → Prop} (hP : P at_) : ∀ (k : Nat) (r : Nat → Int32), (∀ j, j < k → P (r j)) → ∀ j, j < k + 1 → P (insr at_ k r j) := by
  have hi : ∀ (k : Nat) (r : Nat → Int32) (j : Nat), k < j → insr at_ k r j = r j := by
    intro k
    induction k with
    | zero => intro r j hj; rw [insr, pk_un (by omega)]
    | succ k ih2 =>
      intro r j hj
      rw [insr]
      split
      · rw [ih2 _ _ (by omega), pk_un (by omega)]
      · rw [pk_un (by omega)]
  intro k
  induction k with
  | zero => intro r _ j hj; rw [insr, show j = 0 by omega, pk_us]; exact hP
  | succ k ih =>
    intro r h j hj
    rw [insr]
    by_cases e : at_ < r k
    · rw [if_pos e]
      by_cases z : j = k + 1
      · subst z
        rw [hi _ _ _ (by omega), pk_us]
        exact h k (by omega)
      · exact ih _ (fun i hi => by rw [pk_un (by omega)]; exact h i (by omega)) j (by omega)
    · rw [if_neg e]
      by_cases z : j = k + 1
      · subst z; rw [pk_us]; exact hP
      · rw [pk_un z]; exact h j (by omega)
theorem plc_v {a : Nat → Nat → Int32} {P : Int32 → Prop} (r0 : Nat → Int32) (p y : Int32) : ∀ m, (∀ i, i < m → P (a 26 i)) → ∀ k, k < (plc a r0 p y m).1 → P ((plc a r0 p y m).2 k) := by
  intro m
  induction m with
  | zero => intro _ k hk; exact absurd hk (Nat.not_lt_zero k)
  | succ m ih =>
    intro h k hk
    rw [plc] at hk ⊢
    by_cases e : onF a m p y = true
    · rw [if_pos e] at hk ⊢
      exact insr_v (h m (by omega)) _ _ (ih (fun i hi => h i (by omega))) k hk
    · rw [if_neg e] at hk ⊢
      exact ih (fun i hi => h i (by omega)) k hk
theorem prs_ok {k : Nat} (hk : k ≤ 40) {st : Int32 × Int32} {w : Int32} (h : Me k st w) : prs w = st.1 ∧ drs w = st.2 := by
  obtain ⟨n, d, a1, a2, rfl, rfl⟩ := h
  have h1 : prs (nI (n * 100000 - d)) = nI n := by
    rw [prs, show (100000 : Int32) = nI 100000 from rfl, show (1 : Int32) = nI 1 from rfl, ← nI_add', nI_sub' (by omega), nI_div (by omega) (by omega) (by omega)]
    exact congrArg nI (by omega)
  refine ⟨h1, ?_⟩
  have hm : nI n * 100000 = nI (n * 100000) := (Int32.ofNat_mul n 100000).symm
  rw [drs, h1, hm, nI_sub' (by omega)]
  exact congrArg nI (by omega)
theorem mres_ok {a : Nat → Nat → Int32} {nm : Nat} (hnm : nm ≤ 40) (hm : ∀ m, m < nm → ∃ v : Nat, v ≤ 1000 ∧ a 26 m = nI v) (p y1 y2 tol : Int32) : prs (wres a nm p y1 y2 tol) = (mres a nm p y1 y2 tol).1 ∧ drs (wres a nm p y1 y2 tol) = (mres a nm p y1 y2 tol).2 := by
  have l1 := plc_le a (fun _ => 0) p y1 nm
  rw [wres, mres, srt, srt]
  exact prs_ok (by omega) (mt_main (by omega) (plc_v (P := fun z => ∃ v : Nat, v ≤ 1000 ∧ z = nI v) _ p y1 nm hm) (plc_v (P := fun z => ∃ v : Nat, v ≤ 1000 ∧ z = nI v) _ p y2 nm hm) _ (Nat.le_refl _) _ (Nat.le_refl _))
theorem mat_ok {g : Nat → Int32} {a : Nat → Nat → Int32} {nm : Nat} (hnm : nm ≤ 40) (hm : ∀ m, m < nm → wit (a 26 m) 0 1000 = true) (p y1 y2 tol z : Int32) : matC g a nm p y1 y2 tol z = matF g a nm p y1 y2 tol z := by
  obtain ⟨h1, h2⟩ := mres_ok hnm (fun m hm' => wit_nI (H := 1000) (by decide) (hm m hm')) p y1 y2 tol
  unfold matC matF
  rw [h1, h2]
/-- all that is said of numbers alone -/
theorem pures_ok : PUREs := by
  intro g a np nv nc nl nm h
  obtain ⟨⟨hn, hnp, hv, hnv, hc, hnc, hl, hnl, hm, hnm⟩, ip, ie1, ie2, hpt, ic, ⟨iw16, iw17, iw18, iw19⟩, ilog, imk, hb1, hb2⟩ := h
  have hs := lgm_sm (nv := nv) ic iw16 iw17 hpt
  exact ⟨veq_ok ip ie1 ie2, legeq_ok ic iw16 iw17, st_ok hs hnv iw19, cov_ok hnp hnv, covs_ok hv hnp hnv, tim_ok hv hnp hnv, legC_ok ic iw16 iw17, fun x => (flen_ok hs hv hnv iw18 iw19 x).1, fun x => (flen_ok hs hv hnv iw18 iw19 x).2, prd_ok hnl, mis_ok hnl, mat_ok hnm imk⟩
theorem whole_start {p : Program} {e : Env} {s : State} {m : MethodId} {below : List Frame} {meth : Method} {c : Code} (l : Launch) {b L : Nat} {xs : Nat → Int32} (hL : L ≤ 3072) (C0 : lw_At p s m meth c b L xs) : W p l e room_1 s m #[Value.ref b] below meth c s.heap [] 0 0 (lw_Z below #[Value.ref b] s) (entryFrame m ([Value.ref b] : List Value).toArray 4) := whole_open pures_ok l hL C0
