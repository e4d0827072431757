theorem and_2 (x y p q : Nat) (hp : p < 2) (hq : q < 2) : (2 * x + p) &&& (2 * y + q) = 2 * (x &&& y) + (p &&& q) := by
  have h1 : ((2 * x + p) &&& (2 * y + q)) / 2 = x &&& y := by
    rw [Nat.and_div_two, show (2 * x + p) / 2 = x by omega, show (2 * y + q) / 2 = y by omega]
  have h2 : ((2 * x + p) &&& (2 * y + q)) % 2 = p &&& q := by
    have e := Nat.and_mod_two_pow (a := 2 * x + p) (b := 2 * y + q) (n := 1)
    rw [Nat.pow_one] at e
    rw [e, show (2 * x + p) % 2 = p by omega, show (2 * y + q) % 2 = q by omega]
  omega
theorem sub_2 {x y p q : Nat} (hp : p < 2) (hq : q < 2) (h : (2 * x + p) &&& (2 * y + q) = 2 * x + p) : x &&& y = x ∧ p ≤ q := by
  rw [and_2 x y p q hp hq] at h
  have h3 : p &&& q ≤ p := Nat.and_le_left
  have h4 : p &&& q ≤ q := Nat.and_le_right
  have : x &&& y ≤ x := Nat.and_le_left
  omega
/-- the next part of a set, as a number of K bits -/
def nxK (K o m : Nat) : Nat := (m + 2 ^ K - o) &&& o
/-- the c-th part of a set -/
def dep : Nat → Nat → Nat → Nat
  | 0, _, _ => 0
  | n + 1, o, c => if o % 2 = 1 then 2 * dep n (o / 2) (c / 2) + c % 2 else 2 * dep n (o / 2) c
theorem dep_sub : ∀ n o c, dep n o c &&& o = dep n o c := by
  intro n
  induction n with
  | zero => intro o c; rw [dep, Nat.zero_and]
  | succ n ih =>
    intro o c
    rw [dep]
    by_cases e : o % 2 = 1
    · rw [if_pos e]
      have e2 : o = 2 * (o / 2) + 1 := by omega
      have k := and_2 (dep n (o / 2) (c / 2)) (o / 2) (c % 2) 1 (by omega) (by omega)
      rw [← e2, ih] at k
      rw [k, Nat.and_one_is_mod, Nat.mod_mod]
    · rw [if_neg e]
      have e2 : o = 2 * (o / 2) + 0 := by omega
      have k := and_2 (dep n (o / 2) c) (o / 2) 0 0 (by omega) (by omega)
      rw [← e2, ih] at k
      exact k
theorem cmp_b : ∀ K o m, o < 2 ^ K → m &&& o = m → (m + (2 ^ K - 1 - o)) &&& o = m := by
  intro K
  induction K with
  | zero =>
    intro o m ho hm
    have : o = 0 := by simpa using ho
    subst this
    rw [Nat.and_zero] at hm
    rw [Nat.and_zero]; exact hm
  | succ K ih =>
    intro o m ho hm
    have ho2 : o / 2 < 2 ^ K := by rw [Nat.pow_succ] at ho; omega
    have eo : o = 2 * (o / 2) + o % 2 := by omega
    have em : m = 2 * (m / 2) + m % 2 := by omega
    have hs : m / 2 &&& o / 2 = m / 2 ∧ m % 2 ≤ o % 2 := by
      apply sub_2 (by omega) (by omega)
      rw [← eo, ← em]; exact hm
    have k := ih _ _ ho2 hs.1
    generalize hN : 2 ^ K - 1 - o / 2 = N at k
    have hz : m + (2 ^ (K + 1) - 1 - o) = 2 * (m / 2 + N) + (m % 2 + 1 - o % 2) := by rw [Nat.pow_succ] at *; omega
    have z := and_2 (m / 2 + N) (o / 2) (m % 2 + 1 - o % 2) (o % 2) (by omega) (by omega)
    rw [← eo, ← hz, k] at z
    rw [z]
    have : (m % 2 + 1 - o % 2) &&& (o % 2) = m % 2 := by
      rcases Nat.mod_two_eq_zero_or_one o with h | h <;> rcases Nat.mod_two_eq_zero_or_one m with h' | h' <;> rw [h, h'] <;> first | rfl | omega
    omega
theorem nxK_dep : ∀ n K o c, n ≤ K → o < 2 ^ n → nxK K o (dep n o c) = dep n o (c + 1) := by
  intro n
  induction n with
  | zero =>
    intro K o c _ ho
    have : o = 0 := by simpa using ho
    subst this
    rw [nxK, Nat.and_zero, dep]
  | succ n ih =>
    intro K o c hK ho
    obtain ⟨K, rfl⟩ : ∃ K', K = K' + 1 := ⟨K - 1, by omega⟩
    have ho2 : o / 2 < 2 ^ n := by rw [Nat.pow_succ] at ho; omega
    have hKn : 2 ^ n ≤ 2 ^ K := Nat.pow_le_pow_right (by omega) (by omega)
    rw [dep, dep, nxK]
    by_cases e : o % 2 = 1
    · rw [if_pos e, if_pos e]
      have e2 : o = 2 * (o / 2) + 1 := by omega
      have hs := dep_sub n (o / 2) (c / 2)
      have hl := sub_le hs
      have i := ih K (o / 2) (c / 2) (by omega) ho2
      rcases Nat.mod_two_eq_zero_or_one c with hc | hc
      · rw [show (c + 1) / 2 = c / 2 by omega, show (c + 1) % 2 = 1 by omega, hc]
        have k := cmp_b K (o / 2) _ (by omega) hs
        generalize dep n (o / 2) (c / 2) = D at *
        have z := and_2 (D + (2 ^ K - 1 - o / 2)) (o / 2) 1 1 (by omega) (by omega)
        rw [k, ← e2, show 2 * (D + (2 ^ K - 1 - o / 2)) + 1 = 2 * D + 0 + 2 ^ (K + 1) - o by rw [Nat.pow_succ]; omega] at z
        exact z
      · rw [show (c + 1) / 2 = c / 2 + 1 by omega, show (c + 1) % 2 = 0 by omega, hc, ← i, nxK]
        generalize dep n (o / 2) (c / 2) = D at *
        have z := and_2 (D + 2 ^ K - o / 2) (o / 2) 0 1 (by omega) (by omega)
        rw [← e2, show 2 * (D + 2 ^ K - o / 2) + 0 = 2 * D + 1 + 2 ^ (K + 1) - o by rw [Nat.pow_succ]; omega] at z
        exact z
    · rw [if_neg e, if_neg e]
      have e2 : o = 2 * (o / 2) + 0 := by omega
      have hl := sub_le (dep_sub n (o / 2) c)
      have i := ih K (o / 2) c (by omega) ho2
      rw [← i, nxK]
      generalize dep n (o / 2) c = D at *
      have z := and_2 (D + 2 ^ K - o / 2) (o / 2) 0 0 (by omega) (by omega)
      rw [← e2, show 2 * (D + 2 ^ K - o / 2) + 0 = 2 * D + 2 ^ (K + 1) - o by rw [Nat.pow_succ]; omega] at z
      exact z
theorem pcn_lo (o : Nat) : ∀ n, pcn o (n + 1) = pcn (o / 2) n + o % 2 := by
  intro n
  induction n with
  | zero =>
    rw [pcn, pcn, pcn, Nat.testBit_zero]
    rcases Nat.mod_two_eq_zero_or_one o with h | h <;> simp [h]
  | succ n ih =>
    rw [pcn, ih, pcn, Nat.testBit_succ]
    omega
theorem dep_all : ∀ n o m, o < 2 ^ n → m &&& o = m → ∃ c, c < 2 ^ pcn o n ∧ dep n o c = m := by
  intro n
  induction n with
  | zero =>
    intro o m ho hm
    have : o = 0 := by simpa using ho
    subst this
    rw [Nat.and_zero] at hm
    exact ⟨0, Nat.two_pow_pos _, hm⟩
  | succ n ih =>
    intro o m ho hm
    have ho2 : o / 2 < 2 ^ n := by rw [Nat.pow_succ] at ho; omega
    have eo : o = 2 * (o / 2) + o % 2 := by omega
    have em : m = 2 * (m / 2) + m % 2 := by omega
    have hs : m / 2 &&& o / 2 = m / 2 ∧ m % 2 ≤ o % 2 := by
      apply sub_2 (by omega) (by omega)
      rw [← eo, ← em]; exact hm
    obtain ⟨c, hc, hd⟩ := ih _ _ ho2 hs.1
    rw [pcn_lo]
    by_cases e : o % 2 = 1
    · refine ⟨2 * c + m % 2, ?_, ?_⟩
      · rw [e, Nat.pow_succ]; omega
      · rw [dep, if_pos e, show (2 * c + m % 2) / 2 = c by omega, show (2 * c + m % 2) % 2 = m % 2 by omega, hd]; omega
    · refine ⟨c, ?_, ?_⟩
      · rw [show o % 2 = 0 by omega]; exact hc
      · rw [dep, if_neg e, hd]; omega
/-- a part below another is not below the next one down -/
theorem dn_le : ∀ n sub t S : Nat, sub < n → sub &&& S = sub → t &&& S = t → t < sub → t ≤ (sub - 1) &&& S := by
  intro n
  induction n with
  | zero => intro sub t S h; omega
  | succ n ih =>
    intro sub t S hn h1 h2 h3
    have eS : S = 2 * (S / 2) + S % 2 := by omega
    have es : sub = 2 * (sub / 2) + sub % 2 := by omega
    have et : t = 2 * (t / 2) + t % 2 := by omega
    have a1 : sub / 2 &&& S / 2 = sub / 2 ∧ sub % 2 ≤ S % 2 := by
      apply sub_2 (by omega) (by omega)
      rw [← eS, ← es]; exact h1
    have a2 : t / 2 &&& S / 2 = t / 2 ∧ t % 2 ≤ S % 2 := by
      apply sub_2 (by omega) (by omega)
      rw [← eS, ← et]; exact h2
    by_cases d : sub % 2 = 1
    · have z := and_2 (sub / 2) (S / 2) 0 (S % 2) (by omega) (by omega)
      rw [← eS, a1.1, show 2 * (sub / 2) + 0 = sub - 1 by omega] at z
      rw [z]
      omega
    · have z := and_2 (sub / 2 - 1) (S / 2) 1 (S % 2) (by omega) (by omega)
      rw [← eS, show 2 * (sub / 2 - 1) + 1 = sub - 1 by omega] at z
      rw [z]
      have k := ih (sub / 2) (t / 2) (S / 2) (by omega) a1.1 a2.1 (by omega)
      have : 1 &&& S % 2 = S % 2 := by
        rcases Nat.mod_two_eq_zero_or_one S with h | h <;> rw [h] <;> rfl
      omega
