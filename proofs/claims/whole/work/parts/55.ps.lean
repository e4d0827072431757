/-- the costs of LEGS are small numbers -/
def smL (lg : Nat → Nat → Int32) : Prop := ∀ x y, ∃ v : Nat, v ≤ 1000000 ∧ lg x y = nI v
theorem nI_lt' {a b : Nat} (ha : a < 2 ^ 31) (hb : b < 2 ^ 31) : nI a < nI b ↔ a < b := by
  rw [(r3_nI ha).lt (r3_nI hb)]; omega
theorem nI_eq' {a b : Nat} (ha : a < 2 ^ 31) (hb : b < 2 ^ 31) : nI a = nI b ↔ a = b := by
  rw [(r3_nI ha).eq (r3_nI hb)]; omega
theorem bst_sm {lg : Nat → Nat → Int32} {h : Nat} (hl : smL lg) (hh : h ≤ 500) {T : Nat → Nat → Int32} {S x : Nat} (hT : ∀ b, S.testBit b = true → ∃ v : Nat, v ≤ 1000000 ∧ T (S ^^^ 2 ^ b) b = nI v) : ∀ n, ∃ v : Nat, v ≤ 1000000 ∧ bst lg (nI h) T S x n = nI v := by
  intro n
  induction n with
  | zero =>
    rw [bst]
    by_cases e : S = 0
    · rw [if_pos (by simp [e])]; exact hl x 10
    · rw [if_neg (by simp [e])]; exact ⟨1000000, Nat.le_refl _, rfl⟩
  | succ n ih =>
    rw [bst]
    by_cases e : S.testBit n = true
    · rw [if_pos e]
      obtain ⟨v, hv, ev⟩ := ih
      obtain ⟨w, hw, ew⟩ := hl x n
      obtain ⟨u, hu, eu⟩ := hT n e
      rw [ev, ew, eu, ← nI_add', ← nI_add']
      by_cases c : nI (w + h + u) < nI v
      · rw [if_pos c]
        rw [nI_lt' (by omega) (by omega)] at c
        exact ⟨_, by omega, rfl⟩
      · rw [if_neg c]; exact ⟨v, hv, rfl⟩
    · rw [if_neg e]; exact ih
theorem xor_bit_lt {S b : Nat} (h : S.testBit b = true) : S ^^^ 2 ^ b < S := by
  refine sub_lt ?_ (Nat.ne_of_gt (Nat.two_pow_pos b))
  apply Nat.eq_of_testBit_eq
  intro i
  rw [Nat.testBit_and, Nat.testBit_two_pow]
  by_cases e : b = i
  · subst e; rw [h]; simp
  · simp [e]
theorem Rr_sm {lg : Nat → Nat → Int32} {h nv : Nat} (hl : smL lg) (hh : h ≤ 500) : ∀ n S, S < n → ∀ x, ∃ v : Nat, v ≤ 1000000 ∧ Rr lg (nI h) nv S x = nI v := by
  intro n
  induction n with
  | zero => intro S hS; omega
  | succ n ih =>
    intro S hS x
    rw [Rr_eq]
    exact bst_sm hl hh (fun b hb => ih _ (by have := xor_bit_lt hb; omega) b) nv
/-- a way that is no sentinel goes on with one of the set -/
theorem bst_at {lg : Nat → Nat → Int32} {hov : Int32} {T : Nat → Nat → Int32} {S x : Nat} (h0 : S ≠ 0) : ∀ n, bst lg hov T S x n < 1000000 → ∃ b, b < n ∧ S.testBit b = true ∧ lg x b + hov + T (S ^^^ 2 ^ b) b = bst lg hov T S x n := by
  intro n
  induction n with
  | zero =>
    intro h
    rw [bst, if_neg (by simp [h0])] at h
    exact absurd h (i_lt_irr _)
  | succ n ih =>
    rw [bst]
    intro h
    by_cases e : S.testBit n = true
    · rw [if_pos e] at h ⊢
      by_cases c : lg x n + hov + T (S ^^^ 2 ^ n) n < bst lg hov T S x n
      · rw [if_pos c] at h ⊢; exact ⟨n, by omega, e, rfl⟩
      · rw [if_neg c] at h ⊢
        obtain ⟨b, h1, h2, h3⟩ := ih h
        exact ⟨b, by omega, h2, h3⟩
    · rw [if_neg e] at h ⊢
      obtain ⟨b, h1, h2, h3⟩ := ih h
      exact ⟨b, by omega, h2, h3⟩
theorem low_le {P : Nat → Bool} : ∀ (n b c : Nat), b ≤ c → c < b + n → P c = true → low P n b ≤ c := by
  intro n
  induction n with
  | zero => intro b c h1 h2; omega
  | succ n ih =>
    intro b c h1 h2 h3
    rw [low]
    by_cases e : P b = true
    · rw [if_pos e]; exact h1
    · rw [if_neg e]
      refine ih (b + 1) c ?_ (by omega) h3
      by_cases z : b = c
      · subst z; exact absurd h3 e
      · omega
theorem pcn_x {S b : Nat} (hb : S.testBit b = true) : ∀ n, pcn (S ^^^ 2 ^ b) n + (if b < n then 1 else 0) = pcn S n := by
  intro n
  induction n with
  | zero => rw [pcn, pcn, if_neg (by omega)]
  | succ n ih =>
    have tb : (S ^^^ 2 ^ b).testBit n = (S.testBit n ^^ decide (b = n)) := by rw [Nat.testBit_xor, Nat.testBit_two_pow]
    rw [pcn, pcn, tb]
    by_cases e : b = n
    · subst e
      rw [if_neg (Nat.lt_irrefl b)] at ih
      have q : (if b < b + 1 then 1 else 0) = 1 := if_pos (Nat.lt_succ_self b)
      rw [hb, decide_eq_true rfl, q, if_neg (by decide), if_pos rfl]
      omega
    · rw [decide_eq_false e, Bool.xor_false]
      by_cases l : b < n
      · rw [if_pos l] at ih
        have q : (if b < n + 1 then 1 else 0) = 1 := if_pos (by omega)
        rw [q]
        omega
      · rw [if_neg l] at ih
        have q : (if b < n + 1 then 1 else 0) = 0 := if_neg (by omega)
        rw [q]
        omega
theorem pcn_0 : ∀ n, pcn 0 n = 0 := by
  intro n
  induction n with
  | zero => rfl
  | succ n ih => rw [pcn, ih]; simp
theorem xor_pl {S b nv : Nat} (hS : S < 2 ^ nv) (hb : b < nv) : S ^^^ 2 ^ b < 2 ^ nv := Nat.xor_lt_two_pow hS (Nat.pow_lt_pow_right (by omega) hb)
theorem stp_ok {lg : Nat → Nat → Int32} {h nv : Nat} (hl : smL lg) (hh : h ≤ 500) (hnv : nv ≤ 10) {S : Nat} (hS : S < 2 ^ nv) (h0 : Rr lg (nI h) nv S 10 < 1000000) : ∀ k, k ≤ pcn S 10 → (stp lg (nI h) nv S k).1 < 2 ^ nv ∧ thr nv (stp lg (nI h) nv S k).2 = true ∧ Rr lg (nI h) nv (stp lg (nI h) nv S k).1 (stp lg (nI h) nv S k).2 < 1000000 ∧ pcn (stp lg (nI h) nv S k).1 10 + k = pcn S 10 ∧ (k < pcn S 10 → low (nxP lg (nI h) nv (stp lg (nI h) nv S k).1 (stp lg (nI h) nv S k).2) nv 0 < nv) := by
  have ex : ∀ T x, T < 2 ^ nv → T ≠ 0 → Rr lg (nI h) nv T x < 1000000 → low (nxP lg (nI h) nv T x) nv 0 < nv := by
    intro T x hT hT0 hr
    rw [Rr_eq] at hr
    obtain ⟨b, h1, h2, h3⟩ := bst_at hT0 nv hr
    rw [← Rr_eq] at h3
    have := low_le (P := nxP lg (nI h) nv T x) nv 0 b (by omega) (by omega) (by unfold nxP; rw [h2, h3]; simp)
    omega
  intro k
  induction k with
  | zero =>
    intro hk
    refine ⟨hS, by rw [stp]; simp [thr], h0, rfl, fun q => ex S 10 hS ?_ h0⟩
    intro e
    subst e
    rw [pcn_0] at q
    omega
  | succ k ih =>
    intro hk
    obtain ⟨i1, i2, i3, i4, i5⟩ := ih (by omega)
    have l := i5 (by omega)
    have hP := low_P (P := nxP lg (nI h) nv (stp lg (nI h) nv S k).1 (stp lg (nI h) nv S k).2) nv 0 (by omega) (by omega)
    rw [stp]
    generalize (stp lg (nI h) nv S k).1 = T at *
    generalize (stp lg (nI h) nv S k).2 = x at *
    generalize low (nxP lg (nI h) nv T x) nv 0 = b at *
    unfold nxP at hP
    rw [Bool.and_eq_true, decide_eq_true_eq] at hP
    obtain ⟨w, hw, ew⟩ := hl x b
    obtain ⟨u, hu, eu⟩ := Rr_sm (nv := nv) hl hh _ (T ^^^ 2 ^ b) (Nat.lt_succ_self _) b
    have hr : Rr lg (nI h) nv (T ^^^ 2 ^ b) b < 1000000 := by
      have e2 := hP.2
      rw [← e2, ew, eu, ← nI_add', ← nI_add'] at i3
      have e3 : (1000000 : Int32) = nI 1000000 := rfl
      rw [e3, nI_lt' (by omega) (by omega)] at i3
      rw [eu, e3, nI_lt' (by omega) (by omega)]
      omega
    have hx := xor_pl i1 l
    have hc := pcn_x hP.1 10
    rw [if_pos (by omega)] at hc
    refine ⟨hx, by simp [thr, l], hr, show pcn (T ^^^ 2 ^ b) 10 + (k + 1) = pcn S 10 by omega, fun q => ex _ _ hx (fun e => ?_) hr⟩
    have e' : T ^^^ 2 ^ b = 0 := e
    rw [e', pcn_0] at hc
    omega
theorem lgm_sm {g : Nat → Int32} {a : Nat → Nat → Int32} {nc nv : Nat} (hc : ∀ c, c < nc → pt (a 12 c) (a 13 c) = true ∧ pt (a 14 c) (a 15 c) = true ∧ a 12 c < a 14 c ∧ a 13 c < a 15 c) (h16 : wit (g 16) (-9) 9 = true) (h17 : wit (g 17) (-9) 9 = true) (hpt : ∀ v, thr nv v = true → pt (a 9 v) (a 10 v) = true) : smL (lgm g a nc nv) := by
  intro x y
  rw [lgm]
  by_cases e : (thr nv x && thr nv y) = true
  · rw [if_pos e]
    rw [Bool.and_eq_true] at e
    rcases legF_v hc h16 h17 (hpt x e.1) (hpt y e.2) with ⟨h1, h2⟩ | ⟨h1, v, hv, h2, h3⟩
    · exact ⟨1000000, Nat.le_refl _, h2⟩
    · exact ⟨v, by omega, h3⟩
  · rw [if_neg e]; exact ⟨1000000, Nat.le_refl _, rfl⟩
theorem wit_nI {x hi : Int32} {H : Nat} (hh : hi.toInt = H) (h : wit x 0 hi = true) : ∃ v : Nat, v ≤ H ∧ x = nI v := by
  obtain ⟨h1, h2⟩ := wit_I (L := 0) (H := H) (by decide) hh h
  have hb := Int32.toInt_lt x
  refine ⟨x.toInt.toNat, by omega, ?_⟩
  rw [(R3.of (M := x.toInt.natAbs) (Nat.le_refl _)).eq (r3_nI (by omega))]
  omega
theorem st_ok {g : Nat → Int32} {a : Nat → Nat → Int32} {nc nv : Nat} (hl : smL (lgm g a nc nv)) (hnv : nv ≤ 10) (h19 : wit (g 19) 0 500 = true) (S : Nat) (hS : S < 2 ^ nv) (hr : rnd (lgm g a nc nv) (g 19) nv S < 1000000) : StOK (lgm g a nc nv) (g 19) nv S := by
  obtain ⟨h, hh, e⟩ := wit_nI (H := 500) (by decide) h19
  rw [e] at hr ⊢
  rw [rnd] at hr
  by_cases z : S = 0
  · rw [if_pos (by simp [z])] at hr
    exact absurd hr (i_lt_irr _)
  · rw [if_neg (by simp [z])] at hr
    intro k hk
    obtain ⟨i1, i2, i3, i4, i5⟩ := stp_ok hl hh hnv hS hr k (by omega)
    exact ⟨i1, i2, i5 hk, i3⟩
