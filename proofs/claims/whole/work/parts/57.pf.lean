/-- number and energy as one number -/
def Ee (k : Nat) (st : Int32 × Int32) (v : Nat) : Prop := (st = (1000000, 0) ∧ v = 100000000) ∨ ∃ n e : Nat, st = (nI n, nI e) ∧ n ≤ k ∧ e ≤ 30000 * n ∧ v = n * 1000000 + e
theorem Ee_le {k : Nat} {st : Int32 × Int32} {v : Nat} (hk : k ≤ 10) (h : Ee k st v) : v ≤ 100000000 := by
  rcases h with ⟨_, h⟩ | ⟨n, e, _, h1, h2, h3⟩ <;> omega
theorem Ee_up {k k' : Nat} {st : Int32 × Int32} {v : Nat} (hk : k ≤ k') (h : Ee k st v) : Ee k' st v := by
  rcases h with h | ⟨n, e, h0, h1, h2, h3⟩
  · exact Or.inl h
  · exact Or.inr ⟨n, e, h0, by omega, h2, h3⟩
theorem lo_bit : ∀ S, S < 1024 → S ≠ 0 → ∃ b, b < 10 ∧ lo S = 2 ^ b ∧ S.testBit b = true ∧ ot S = S ^^^ 2 ^ b := by decide +kernel
theorem and_bit0 {t b : Nat} : t &&& 2 ^ b = 0 ↔ t.testBit b = false := by
  constructor
  · intro h
    have e : (t &&& 2 ^ b).testBit b = false := by rw [h, Nat.zero_testBit]
    rw [Nat.testBit_and, Nat.testBit_two_pow_self, Bool.and_true] at e
    exact e
  · intro h
    apply Nat.eq_of_testBit_eq
    intro i
    rw [Nat.testBit_and, Nat.testBit_two_pow, Nat.zero_testBit]
    by_cases z : b = i
    · subst z; rw [h]; rfl
    · simp [z]
theorem pst_E {bat : Int32} {rn : Nat → Int32} {T : Nat → Int32 × Int32} {S sub B b k v w r : Nat} {st : Int32 × Int32} (hS : S < 1024) (hsub : sub &&& S = sub) (hb : lo S = 2 ^ b) (hB : B ≤ 30000) (eB : bat = nI B) (hr : rn sub = nI r) (hr2 : r ≤ 1000000) (hk : k + 1 ≤ 10) (hst : Ee (k + 1) st v) (hT : Ee k (T (S ^^^ sub)) w) : Ee (k + 1) (pst bat rn T S sub st) (if sub.testBit b = true ∧ r ≤ B ∧ 1000000 + r + w < v then 1000000 + r + w else v) := by
  have hsl := sub_le hsub
  have c1 : (nI sub &&& (nI S &&& -nI S) = 0) ↔ sub.testBit b = false := by
    rw [lo_nI (by omega), hb, nx_and, show (0 : Int32) = nI 0 from rfl, nI_eq' (Nat.lt_of_le_of_lt Nat.and_le_left (by omega)) (by omega), and_bit0]
  have hv := Ee_le hk hst
  rw [pst]
  by_cases h1 : sub.testBit b = true
  · rw [decide_eq_false (by rw [c1, h1]; decide), Bool.not_false, Bool.true_and]
    by_cases h2 : r ≤ B
    · rw [decide_eq_false (by rw [eB, hr, nI_lt' (by omega) (by omega)]; omega), Bool.not_false, Bool.true_and]
      rcases hT with ⟨t1, t2⟩ | ⟨n, e, t1, t2, t3, t4⟩
      · rw [t1, if_neg (by decide), if_neg (by omega)]
        exact hst
      · have e6 : (1000000 : Int32) = nI 1000000 := rfl
        have e1 : (1 : Int32) = nI 1 := rfl
        rw [t1]
        rw [if_pos (by show decide (nI n < 1000000) = true; rw [decide_eq_true_eq, e6, nI_lt' (by omega) (by omega)]; omega)]
        show Ee (k + 1) (if (decide (nI n + 1 < st.1) || (decide (nI n + 1 = st.1) && decide (nI e + rn sub < st.2))) = true then (nI n + 1, nI e + rn sub) else st) _
        rw [hr, e1, ← nI_add', ← nI_add']
        have fin : Ee (k + 1) (nI (n + 1), nI (e + r)) (1000000 + r + w) := Or.inr ⟨n + 1, e + r, rfl, by omega, by omega, by omega⟩
        rcases hst with ⟨s1, s2⟩ | ⟨n', e', s1, s2, s3, s4⟩
        · rw [s1, if_pos (by show (decide (nI (n + 1) < 1000000) || _) = true; rw [decide_eq_true (by rw [e6, nI_lt' (by omega) (by omega)]; omega)]; rfl), if_pos ⟨h1, h2, by omega⟩]
          exact fin
        · rw [s1]
          show Ee (k + 1) (if (decide (nI (n + 1) < nI n') || (decide (nI (n + 1) = nI n') && decide (nI (e + r) < nI e'))) = true then _ else _) _
          have q : (decide (nI (n + 1) < nI n') || (decide (nI (n + 1) = nI n') && decide (nI (e + r) < nI e'))) = decide (1000000 + r + w < v) := by
            rw [Bool.eq_iff_iff]
            simp only [Bool.or_eq_true, Bool.and_eq_true, decide_eq_true_eq]
            rw [nI_lt' (by omega) (by omega), nI_eq' (by omega) (by omega), nI_lt' (by omega) (by omega)]
            omega
          rw [q]
          by_cases h3 : 1000000 + r + w < v
          · rw [if_pos (by simp [h3]), if_pos ⟨h1, h2, h3⟩]; exact fin
          · rw [if_neg (by simp [h3]), if_neg (fun z => h3 z.2.2)]
            exact Or.inr ⟨n', e', rfl, s2, s3, s4⟩
    · rw [decide_eq_true (by rw [eB, hr, nI_lt' (by omega) (by omega)]; omega), Bool.not_true, Bool.false_and, if_neg (by decide), if_neg (fun z => h2 z.2.1)]
      exact hst
  · have h1' : sub.testBit b = false := by simpa using h1
    rw [decide_eq_true (c1.mpr h1'), Bool.not_true, Bool.false_and, if_neg (by decide), if_neg (fun z => h1 z.1)]
    exact hst
theorem and_xor_sub {S t : Nat} (h : t &&& S = t) : (S ^^^ t) &&& S = S ^^^ t := by
  apply Nat.eq_of_testBit_eq
  intro i
  have e : (t &&& S).testBit i = t.testBit i := by rw [h]
  rw [Nat.testBit_and] at e
  rw [Nat.testBit_and, Nat.testBit_xor]
  cases h1 : S.testBit i <;> cases h2 : t.testBit i <;> simp_all
theorem pcn_mono {P S : Nat} (h : P &&& S = P) : ∀ n, pcn P n ≤ pcn S n := by
  intro n
  induction n with
  | zero => exact Nat.le_refl _
  | succ n ih =>
    rw [pcn, pcn]
    by_cases e : P.testBit n = true
    · rw [if_pos e, if_pos (part_bit h e)]; omega
    · rw [if_neg e]; omega
theorem pcn_dec {S t b : Nat} (h : t &&& S = t) (hb : t.testBit b = true) (hb2 : b < 10) : pcn (S ^^^ t) 10 + 1 ≤ pcn S 10 := by
  have h1 := pcn_x (part_bit h hb) 10
  rw [if_pos hb2] at h1
  have h2 : (S ^^^ t) &&& (S ^^^ 2 ^ b) = S ^^^ t := by
    apply Nat.eq_of_testBit_eq
    intro i
    have e : (t &&& S).testBit i = t.testBit i := by rw [h]
    rw [Nat.testBit_and] at e
    rw [Nat.testBit_and, Nat.testBit_xor, Nat.testBit_xor, Nat.testBit_two_pow]
    by_cases z : b = i
    · subst z; rw [hb] at e ⊢; simp_all
    · simp [z]
      cases h1 : S.testBit i <;> cases h2 : t.testBit i <;> simp_all
  have := pcn_mono h2 10
  omega
theorem t_bit {t b : Nat} (h : t.testBit b = true) : t ≠ 0 := fun e => by rw [e, Nat.zero_testBit] at h; cases h
theorem pfo_E {bat : Int32} {rn : Nat → Int32} {T : Nat → Int32 × Int32} {V r : Nat → Nat} {S B b : Nat} (hS : S < 1024) (hb : lo S = 2 ^ b) (hb2 : b < 10) (hB : B ≤ 30000) (eB : bat = nI B) (hr : ∀ t, rn t = nI (r t) ∧ r t ≤ 1000000) (hT : ∀ t, t < S → Ee (pcn t 10) (T t) (V t)) : ∀ n sub st v, sub ≤ n → sub &&& S = sub → Ee (pcn S 10) st v → ∃ v', Ee (pcn S 10) (pfo bat rn T S n sub st) v' ∧ v' ≤ v ∧ (∀ t, t &&& S = t → t.testBit b = true → t ≤ sub → r t ≤ B → v' ≤ 1000000 + r t + V (S ^^^ t)) ∧ (v' = v ∨ ∃ t, t &&& S = t ∧ t.testBit b = true ∧ r t ≤ B ∧ v' = 1000000 + r t + V (S ^^^ t)) := by
  have hpc := pcn_le S 10
  intro n
  induction n with
  | zero =>
    intro sub st v h1 h2 h3
    rw [pfo]
    refine ⟨v, h3, Nat.le_refl _, fun t _ a2 a3 _ => ?_, Or.inl rfl⟩
    exact absurd (show t = 0 by omega) (t_bit a2)
  | succ n ih =>
    intro sub st v h1 h2 h3
    rw [pfo]
    by_cases e : sub = 0
    · rw [if_pos e]
      refine ⟨v, h3, Nat.le_refl _, fun t _ a2 a3 _ => ?_, Or.inl rfl⟩
      exact absurd (show t = 0 by omega) (t_bit a2)
    · rw [if_neg e]
      have hp : (sub - 1) &&& S ≤ sub - 1 := Nat.and_le_left
      have hx := sub_lt h2 e
      have key : ∃ w, Ee (pcn S 10) (pst bat rn T S sub st) w ∧ w ≤ v ∧ (sub.testBit b = true → r sub ≤ B → w ≤ 1000000 + r sub + V (S ^^^ sub)) ∧ (w = v ∨ (sub.testBit b = true ∧ r sub ≤ B ∧ w = 1000000 + r sub + V (S ^^^ sub))) := by
        by_cases hbt : sub.testBit b = true
        · have hd := pcn_dec h2 hbt hb2
          obtain ⟨k, hk⟩ : ∃ k, pcn S 10 = k + 1 := ⟨pcn S 10 - 1, by omega⟩
          rw [hk] at h3 hd ⊢
          have z := pst_E (bat := bat) (T := T) hS h2 hb hB eB (hr sub).1 (hr sub).2 (by omega) h3 (Ee_up (by omega) (hT _ hx))
          refine ⟨_, z, ?_, ?_, ?_⟩
          · split <;> omega
          · intro _ a
            split
            · exact Nat.le_refl _
            · rename_i q
              have : ¬ 1000000 + r sub + V (S ^^^ sub) < v := fun z => q ⟨hbt, a, z⟩
              omega
          · split
            · rename_i q; exact Or.inr ⟨hbt, q.2.1, rfl⟩
            · exact Or.inl rfl
        · refine ⟨v, ?_, Nat.le_refl _, fun q => absurd q hbt, Or.inl rfl⟩
          have hsl := sub_le h2
          have c1 : nI sub &&& (nI S &&& -nI S) = 0 := by
            rw [lo_nI (by omega), hb, nx_and, show (0 : Int32) = nI 0 from rfl, nI_eq' (Nat.lt_of_le_of_lt Nat.and_le_left (by omega)) (by omega), and_bit0]
            simpa using hbt
          rw [pst, decide_eq_true c1, Bool.not_true, Bool.false_and, if_neg (by decide)]
          exact h3
      obtain ⟨w, k1, k2, k3, k4⟩ := key
      obtain ⟨v', i1, i2, i3, i4⟩ := ih ((sub - 1) &&& S) _ w (by omega) (sub_and _ _) k1
      refine ⟨v', i1, by omega, fun t a1 a2 a3 a4 => ?_, ?_⟩
      · by_cases q : t = sub
        · subst q
          have := k3 a2 a4
          omega
        · exact i3 t a1 a2 (dn_le _ sub t S (Nat.lt_succ_self _) h2 a1 (by omega)) a4
      · rcases i4 with i4 | i4
        · rcases k4 with k4 | k4
          · exact Or.inl (by omega)
          · exact Or.inr ⟨sub, h2, k4.1, k4.2.1, by omega⟩
        · exact Or.inr i4
theorem bsm_1 (bat : Int32) (rn sp : Nat → Int32) (u : Nat) {o : Nat} (ho : o < 1024) : ∀ c, (bsm bat rn sp u o c).1 = dep 10 o c := by
  intro c
  induction c with
  | zero =>
    have : ∀ n o, dep n o 0 = 0 := by
      intro n
      induction n with
      | zero => intro o; rfl
      | succ n ih => intro o; rw [dep]; split <;> rw [ih]
    rw [this]; rfl
  | succ c ih =>
    rw [bsm, ih]
    exact nxK_dep 10 32 o c (by omega) ho
/-- what is left: as the reference says it -/
theorem rest_x {S b m : Nat} (hS : S < 1024) (hb : S.testBit b = true) (hm : m &&& (S ^^^ 2 ^ b) = m) : (S ^^^ 2 ^ b) &&& (m ^^^ ff) = S ^^^ (2 ^ b ||| m) ∧ (2 ^ b ||| m) &&& S = 2 ^ b ||| m ∧ (2 ^ b ||| m).testBit b = true := by
  have h2 : ∀ i, m.testBit i = true → S.testBit i = true ∧ b ≠ i := by
    intro i hi
    have e := part_bit hm hi
    rw [Nat.testBit_xor, Nat.testBit_two_pow] at e
    by_cases z : b = i
    · subst z; rw [hb] at e; simp at e
    · simp [z] at e; exact ⟨e, z⟩
  have hx : S ^^^ 2 ^ b < 2 ^ 31 := by
    have : S ^^^ 2 ^ b < S := by
      refine sub_lt ?_ (Nat.ne_of_gt (Nat.two_pow_pos b))
      apply Nat.eq_of_testBit_eq
      intro i
      rw [Nat.testBit_and, Nat.testBit_two_pow]
      by_cases e : b = i
      · subst e; rw [hb]; simp
      · simp [e]
    omega
  refine ⟨?_, ?_, by rw [Nat.testBit_or, Nat.testBit_two_pow_self]; rfl⟩
  · apply Nat.eq_of_testBit_eq
    intro i
    rw [andn_bits hx, Nat.testBit_xor, Nat.testBit_xor, Nat.testBit_or, Nat.testBit_two_pow]
    have := h2 i
    by_cases z : b = i
    · subst z
      have m0 : m.testBit b = false := by
        cases q : m.testBit b
        · rfl
        · exact absurd rfl (h2 b q).2
      rw [hb, m0]; simp
    · cases h1 : S.testBit i <;> cases h3 : m.testBit i <;> simp_all
  · apply Nat.eq_of_testBit_eq
    intro i
    rw [Nat.testBit_and, Nat.testBit_or, Nat.testBit_two_pow]
    have := h2 i
    by_cases z : b = i
    · subst z; rw [hb]; simp
    · cases h1 : S.testBit i <;> cases h3 : m.testBit i <;> simp_all
theorem bsm_E {bat : Int32} {rn sp : Nat → Int32} {V r : Nat → Nat} {S B b : Nat} (hS : S < 1024) (hbt : S.testBit b = true) (hB : B ≤ 30000) (eB : bat = nI B) (hr : ∀ t, rn t = nI (r t) ∧ r t ≤ 1000000) (hT : ∀ t, t < S → sp t = nI (V t) ∧ V t ≤ 100000000) : ∀ c, ∃ v, (bsm bat rn sp (2 ^ b) (S ^^^ 2 ^ b) c).2 = nI v ∧ v ≤ 100000000 ∧ (∀ c', c' < c → r (2 ^ b ||| dep 10 (S ^^^ 2 ^ b) c') ≤ B → v ≤ 1000000 + r (2 ^ b ||| dep 10 (S ^^^ 2 ^ b) c') + V (S ^^^ (2 ^ b ||| dep 10 (S ^^^ 2 ^ b) c'))) ∧ (v = 100000000 ∨ ∃ t, t &&& S = t ∧ t.testBit b = true ∧ r t ≤ B ∧ v = 1000000 + r t + V (S ^^^ t)) := by
  have ho : S ^^^ 2 ^ b < 1024 := by
    have : b < 10 := by
      by_cases z : b < 10
      · exact z
      · rw [Nat.testBit_lt_two_pow (Nat.lt_of_lt_of_le hS (show 1024 ≤ 2 ^ b from Nat.pow_le_pow_right (n := 2) (i := 10) (by omega) (by omega)))] at hbt
        cases hbt
    exact Nat.xor_lt_two_pow (n := 10) hS (Nat.pow_lt_pow_right (by omega) this)
  intro c
  induction c with
  | zero => exact ⟨100000000, rfl, Nat.le_refl _, fun _ h => absurd h (Nat.not_lt_zero _), Or.inl rfl⟩
  | succ c ih =>
    obtain ⟨v, i1, i2, i3, i4⟩ := ih
    obtain ⟨x1, x2, x3⟩ := rest_x hS hbt (dep_sub 10 (S ^^^ 2 ^ b) c)
    rw [bsm, bsm_1 _ _ _ _ ho, i1, x1]
    show ∃ v_1, (if bat < rn (2 ^ b ||| dep 10 (S ^^^ 2 ^ b) c) then nI v else mn (nI v) (1000000 + rn (2 ^ b ||| dep 10 (S ^^^ 2 ^ b) c) + sp (S ^^^ (2 ^ b ||| dep 10 (S ^^^ 2 ^ b) c)))) = nI v_1 ∧ _
    have ext : ∀ v', v' ≤ v → (r (2 ^ b ||| dep 10 (S ^^^ 2 ^ b) c) ≤ B → v' ≤ 1000000 + r (2 ^ b ||| dep 10 (S ^^^ 2 ^ b) c) + V (S ^^^ (2 ^ b ||| dep 10 (S ^^^ 2 ^ b) c))) → ∀ c', c' < c + 1 → r (2 ^ b ||| dep 10 (S ^^^ 2 ^ b) c') ≤ B → v' ≤ 1000000 + r (2 ^ b ||| dep 10 (S ^^^ 2 ^ b) c') + V (S ^^^ (2 ^ b ||| dep 10 (S ^^^ 2 ^ b) c')) := by
      intro v' h1 h2 c' hc' h3
      by_cases z : c' = c
      · subst z; exact h2 h3
      · have := i3 c' (by omega) h3
        omega
    generalize 2 ^ b ||| dep 10 (S ^^^ 2 ^ b) c = t at *
    have hlt := sub_lt x2 (t_bit x3)
    obtain ⟨t1, t2⟩ := hT _ hlt
    obtain ⟨r1, r2⟩ := hr t
    rw [t1, r1, eB, show (1000000 : Int32) = nI 1000000 from rfl, ← nI_add', ← nI_add', mn]
    by_cases h2 : r t ≤ B
    · rw [if_neg (by rw [nI_lt' (by omega) (by omega)]; omega)]
      by_cases h3 : 1000000 + r t + V (S ^^^ t) < v
      · rw [if_pos (by rw [nI_lt' (by omega) (by omega)]; exact h3)]
        exact ⟨_, rfl, by omega, ext _ (by omega) (fun _ => Nat.le_refl _), Or.inr ⟨t, x2, x3, h2, rfl⟩⟩
      · rw [if_neg (by rw [nI_lt' (by omega) (by omega)]; exact h3)]
        exact ⟨v, rfl, i2, ext _ (by omega) (fun _ => by omega), i4⟩
    · rw [if_pos (by rw [nI_lt' (by omega) (by omega)]; omega)]
      exact ⟨v, rfl, i2, ext _ (by omega) (fun q => absurd q h2), i4⟩
theorem bsf_E {bat : Int32} {rn sp : Nat → Int32} {V r : Nat → Nat} {S B b : Nat} (hS : S < 1024) (hb : lo S = 2 ^ b) (hbt : S.testBit b = true) (hot : ot S = S ^^^ 2 ^ b) (hB : B ≤ 30000) (eB : bat = nI B) (hr : ∀ t, rn t = nI (r t) ∧ r t ≤ 1000000) (hT : ∀ t, t < S → sp t = nI (V t) ∧ V t ≤ 100000000) : ∃ v, bsf bat rn sp S = nI v ∧ v ≤ 100000000 ∧ (∀ t, t &&& S = t → t.testBit b = true → r t ≤ B → v ≤ 1000000 + r t + V (S ^^^ t)) ∧ (v = 100000000 ∨ ∃ t, t &&& S = t ∧ t.testBit b = true ∧ r t ≤ B ∧ v = 1000000 + r t + V (S ^^^ t)) := by
  obtain ⟨v, i1, i2, i3, i4⟩ := bsm_E hS hbt hB eB hr hT (2 ^ pcn (S ^^^ 2 ^ b) 10)
  refine ⟨v, by rw [bsf, hb, hot]; exact i1, i2, fun t h1 h2 h3 => ?_, i4⟩
  have ho : S ^^^ 2 ^ b < 1024 := by
    have : b < 10 := by
      by_cases z : b < 10
      · exact z
      · rw [Nat.testBit_lt_two_pow (Nat.lt_of_lt_of_le hS (show 1024 ≤ 2 ^ b from Nat.pow_le_pow_right (n := 2) (i := 10) (by omega) (by omega)))] at hbt
        cases hbt
    exact Nat.xor_lt_two_pow (n := 10) hS (Nat.pow_lt_pow_right (by omega) this)
  have hm : (t ^^^ 2 ^ b) &&& (S ^^^ 2 ^ b) = t ^^^ 2 ^ b := by
    apply Nat.eq_of_testBit_eq
    intro i
    have e : (t &&& S).testBit i = t.testBit i := by rw [h1]
    rw [Nat.testBit_and] at e
    rw [Nat.testBit_and, Nat.testBit_xor, Nat.testBit_xor, Nat.testBit_two_pow]
    by_cases z : b = i
    · subst z; rw [hbt, h2]; simp
    · simp [z]
      cases q1 : S.testBit i <;> cases q2 : t.testBit i <;> simp_all
  obtain ⟨c, hc, ec⟩ := dep_all 10 _ _ ho hm
  have et : 2 ^ b ||| dep 10 (S ^^^ 2 ^ b) c = t := by
    rw [ec]
    apply Nat.eq_of_testBit_eq
    intro i
    rw [Nat.testBit_or, Nat.testBit_xor, Nat.testBit_two_pow]
    by_cases z : b = i
    · subst z; rw [h2]; simp
    · simp [z]
  have := i3 c hc
  rw [et] at this
  exact this h3
theorem fl_main {bat : Int32} {rn : Nat → Int32} {r : Nat → Nat} {B : Nat} (hB : B ≤ 30000) (eB : bat = nI B) (hr : ∀ t, rn t = nI (r t) ∧ r t ≤ 1000000) : ∀ n S, S < n → S < 1024 → Ee (pcn S 10) (PT bat rn S) (ix (SPL bat rn S)) ∧ SPL bat rn S = nI (ix (SPL bat rn S)) ∧ ix (SPL bat rn S) ≤ 100000000 := by
  intro n
  induction n with
  | zero => intro S h; omega
  | succ n ih =>
    intro S hn hS
    by_cases h0 : S = 0
    · subst h0
      refine ⟨?_, rfl, show 0 ≤ 100000000 from Nat.zero_le _⟩
      rw [PT_eq]
      exact Or.inr ⟨0, 0, rfl, by omega, by omega, rfl⟩
    · obtain ⟨b, hb2, hb, hbt, hot⟩ := lo_bit S hS h0
      have hT : ∀ t, t < S → SPL bat rn t = nI (ix (SPL bat rn t)) ∧ ix (SPL bat rn t) ≤ 100000000 := fun t ht => (ih t (by omega) (by omega)).2
      have hT2 : ∀ t, t < S → Ee (pcn t 10) (PT bat rn t) (ix (SPL bat rn t)) := fun t ht => (ih t (by omega) (by omega)).1
      obtain ⟨v, a1, a2, a3, a4⟩ := bsf_E (sp := SPL bat rn) (V := fun t => ix (SPL bat rn t)) hS hb hbt hot hB eB hr hT
      have hp0 : p0 S = (1000000, 0) := by rw [p0, if_neg (by simp [h0])]
      obtain ⟨w, b1, b2, b3, b4⟩ := pfo_E (T := PT bat rn) (V := fun t => ix (SPL bat rn t)) hS hb hb2 hB eB hr hT2 S S (1000000, 0) 100000000 (Nat.le_refl _) (Nat.and_self S) (Or.inl ⟨rfl, rfl⟩)
      have evw : v = w := by
        apply Nat.le_antisymm
        · rcases b4 with b4 | ⟨t, t1, t2, t3, t4⟩
          · omega
          · have := a3 t t1 t2 t3
            omega
        · rcases a4 with a4 | ⟨t, t1, t2, t3, t4⟩
          · omega
          · have := b3 t t1 t2 (sub_le t1) t3
            omega
      subst evw
      rw [SPL_eq hS h0, a1, ix_nI (by omega), PT_eq, hp0]
      exact ⟨b1, rfl, a2⟩
theorem div_R {x y : Int32} (hx : 0 ≤ x.toInt) (hy : 0 < y.toInt) : (x / y).toInt = x.toInt / y.toInt := by
  have h1 := Int32.toInt_lt x
  have h2 : x.toInt / y.toInt ≤ x.toInt := Int.ediv_le_self _ hx
  have h3 : 0 ≤ x.toInt / y.toInt := Int.ediv_nonneg hx (by omega)
  rw [Int32.toInt_div, Int.tdiv_eq_ediv_of_nonneg hx, Int.bmod_eq_of_le (by omega) (by omega)]
theorem nI_toI {n : Nat} (h : n < 2 ^ 31) : (nI n).toInt = n := Int32.toInt_ofNat_of_lt h
theorem nI_div {a b : Nat} (ha : a < 2 ^ 31) (hb : b < 2 ^ 31) (h0 : 0 < b) : nI a / nI b = nI (a / b) := by
  have hd := Nat.div_le_self a b
  rw [← Int32.toInt_inj, div_R (by rw [nI_toI ha]; omega) (by rw [nI_toI hb]; omega), nI_toI ha, nI_toI hb, nI_toI (by omega)]
  rfl
theorem nI_sub' {a b : Nat} (h : b ≤ a) : nI a - nI b = nI (a - b) := by
  rw [show nI a = nI (a - b) + nI b by rw [← nI_add', Nat.sub_add_cancel h], Int32.add_sub_cancel]
/-- both sides tell the same FLIGHTS and the same ENERGY -/
theorem fl_ok {bat : Int32} {rn : Nat → Int32} {r : Nat → Nat} {B : Nat} (hB : B ≤ 30000) (eB : bat = nI B) (hr : ∀ t, rn t = nI (r t) ∧ r t ≤ 1000000) (S : Nat) (hS : S < 1024) : (if SPL bat rn S < 100000000 then SPL bat rn S / 1000000 else -9) = (if (PT bat rn S).1 < 1000000 then (PT bat rn S).1 else -9) ∧ (if SPL bat rn S < 100000000 then SPL bat rn S - SPL bat rn S / 1000000 * 1000000 else -9) = (if (PT bat rn S).1 < 1000000 then (PT bat rn S).2 else -9) := by
  obtain ⟨h1, h2, h3⟩ := fl_main hB eB hr _ S (Nat.lt_succ_self S) hS
  generalize ix (SPL bat rn S) = v at *
  have hpc := pcn_le S 10
  have e6 : (1000000 : Int32) = nI 1000000 := rfl
  have e8 : (100000000 : Int32) = nI 100000000 := rfl
  rw [h2]
  rcases h1 with ⟨k1, k2⟩ | ⟨n, e, k1, k2, k3, k4⟩
  · rw [k1, k2]; decide
  · rw [k1]
    show (if nI v < 100000000 then nI v / 1000000 else -9) = (if nI n < 1000000 then nI n else -9) ∧ (if nI v < 100000000 then nI v - nI v / 1000000 * 1000000 else -9) = (if nI n < 1000000 then nI e else -9)
    have hn : nI n < 1000000 := by rw [e6, nI_lt' (by omega) (by omega)]; omega
    have hv : nI v < 100000000 := by rw [e8, nI_lt' (by omega) (by omega)]; omega
    have hd : nI v / 1000000 = nI n := by rw [e6, nI_div (by omega) (by omega) (by omega), show v / 1000000 = n by omega]
    rw [if_pos hn, if_pos hn, if_pos hv, if_pos hv, hd]
    refine ⟨rfl, ?_⟩
    have hm : nI n * 1000000 = nI (n * 1000000) := (Int32.ofNat_mul n 1000000).symm
    rw [hm, nI_sub' (by omega), show v - n * 1000000 = e by omega]
theorem nI_of_I {x : Int32} {L H : Int} (h0 : 0 ≤ L) (h : L ≤ x.toInt ∧ x.toInt ≤ H) : ∃ v : Nat, (v : Int) ≤ H ∧ x = nI v := by
  have hb := Int32.toInt_lt x
  refine ⟨x.toInt.toNat, by omega, ?_⟩
  rw [← Int32.toInt_inj, nI_toI (by omega)]
  omega
theorem rnd_sm {lg : Nat → Nat → Int32} {h nv : Nat} (hl : smL lg) (hh : h ≤ 500) (t : Nat) : rnd lg (nI h) nv t = nI (ix (rnd lg (nI h) nv t)) ∧ ix (rnd lg (nI h) nv t) ≤ 1000000 := by
  have : ∃ v : Nat, v ≤ 1000000 ∧ rnd lg (nI h) nv t = nI v := by
    rw [rnd]
    by_cases e : t = 0
    · rw [if_pos (by simp [e])]; exact ⟨1000000, Nat.le_refl _, rfl⟩
    · rw [if_neg (by simp [e])]; exact Rr_sm hl hh _ t (Nat.lt_succ_self t) 10
  obtain ⟨v, hv, e⟩ := this
  rw [e, ix_nI (by omega)]
  exact ⟨rfl, hv⟩
theorem flen_ok {g : Nat → Int32} {a : Nat → Nat → Int32} {nc nv : Nat} (hl : smL (lgm g a nc nv)) (hv : g 8 = nI nv) (hnv : nv ≤ 10) (h18 : wit (g 18) 1 30000 = true) (h19 : wit (g 19) 0 500 = true) (x : Int32) : fliC (g 18) (rnd (lgm g a nc nv) (g 19) nv) (g 8) x = fliF g a nc nv x ∧ eneC (g 18) (rnd (lgm g a nc nv) (g 19) nv) (g 8) x = eneF g a nc nv x := by
  obtain ⟨h, hh, e⟩ := wit_nI (H := 500) (by decide) h19
  obtain ⟨B, hB, eB⟩ := nI_of_I (L := 1) (H := 30000) (by omega) (wit_I (by decide) (by decide) h18)
  unfold fliC fliF eneC eneF PTg
  cases z : nset (g 8) x
  · rw [if_neg (show ¬ (false = true) by decide), if_neg (show ¬ (false = true) by decide), if_neg (show ¬ (false = true) by decide), if_neg (show ¬ (false = true) by decide)]
    rw [hv] at z
    obtain ⟨S, hS, rfl⟩ := nset_ix hnv z
    have hp := pow_le nv hnv
    rw [ix_nI (by omega)]
    rw [e]
    exact fl_ok (by omega) eB (rnd_sm hl hh) S (by omega)
  · rw [if_pos rfl, if_pos rfl, if_pos rfl, if_pos rfl]
    exact ⟨rfl, rfl⟩
