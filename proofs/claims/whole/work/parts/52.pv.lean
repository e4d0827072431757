/-- a number of the machine and what it is, with a bound -/
def R3 (x : Int32) (z : Int) (M : Nat) : Prop := x.toInt = z ∧ z.natAbs ≤ M
def R6 (x : Int64) (z : Int) (M : Nat) : Prop := x.toInt = z ∧ z.natAbs ≤ M
theorem bm3 {z : Int} (h : z.natAbs < 2 ^ 31) : z.bmod (2 ^ 32) = z := Int.bmod_eq_of_le (by omega) (by omega)
theorem bm6 {z : Int} (h : z.natAbs < 2 ^ 63) : z.bmod (2 ^ 64) = z := Int.bmod_eq_of_le (by omega) (by omega)
theorem nab_mul {a b : Int} {M N : Nat} (h : a.natAbs ≤ M) (k : b.natAbs ≤ N) : (a * b).natAbs ≤ M * N := by
  rw [Int.natAbs_mul]
  exact Nat.mul_le_mul h k
section
variable {x y : Int32} {u v : Int64} {a b : Int} {M N : Nat}
theorem R3.add (h : R3 x a M) (k : R3 y b N) (hb : M + N < 2 ^ 31) : R3 (x + y) (a + b) (M + N) := by
  obtain ⟨h1, h2⟩ := h
  obtain ⟨k1, k2⟩ := k
  refine ⟨?_, by omega⟩
  rw [Int32.toInt_add, h1, k1]
  exact bm3 (by omega)
theorem R3.sub (h : R3 x a M) (k : R3 y b N) (hb : M + N < 2 ^ 31) : R3 (x - y) (a - b) (M + N) := by
  obtain ⟨h1, h2⟩ := h
  obtain ⟨k1, k2⟩ := k
  refine ⟨?_, by omega⟩
  rw [Int32.toInt_sub, h1, k1]
  exact bm3 (by omega)
theorem R3.neg (h : R3 x a M) (hb : M < 2 ^ 31) : R3 (-x) (-a) M := by
  obtain ⟨h1, h2⟩ := h
  refine ⟨?_, by omega⟩
  rw [Int32.toInt_neg, h1]
  exact bm3 (by omega)
theorem R3.mul (h : R3 x a M) (k : R3 y b N) (hb : M * N < 2 ^ 31) : R3 (x * y) (a * b) (M * N) := by
  obtain ⟨h1, h2⟩ := h
  obtain ⟨k1, k2⟩ := k
  have hm := nab_mul h2 k2
  refine ⟨?_, hm⟩
  rw [Int32.toInt_mul, h1, k1]
  exact bm3 (by omega)
theorem R6.add (h : R6 u a M) (k : R6 v b N) (hb : M + N < 2 ^ 63) : R6 (u + v) (a + b) (M + N) := by
  obtain ⟨h1, h2⟩ := h
  obtain ⟨k1, k2⟩ := k
  refine ⟨?_, by omega⟩
  rw [Int64.toInt_add, h1, k1]
  exact bm6 (by omega)
theorem R6.mul (h : R6 u a M) (k : R6 v b N) (hb : M * N < 2 ^ 63) : R6 (u * v) (a * b) (M * N) := by
  obtain ⟨h1, h2⟩ := h
  obtain ⟨k1, k2⟩ := k
  have hm := nab_mul h2 k2
  refine ⟨?_, hm⟩
  rw [Int64.toInt_mul, h1, k1]
  exact bm6 (by omega)
theorem R3.up (h : R3 x a M) : R6 x.toInt64 a M := ⟨by rw [Int32.toInt_toInt64]; exact h.1, h.2⟩
theorem R3.wk (h : R3 x a M) (hn : M ≤ N) : R3 x a N := ⟨h.1, Nat.le_trans h.2 hn⟩
theorem R3.lt (h : R3 x a M) (k : R3 y b N) : x < y ↔ a < b := by rw [Int32.lt_iff_toInt_lt, h.1, k.1]
theorem R3.le (h : R3 x a M) (k : R3 y b N) : x ≤ y ↔ a ≤ b := by rw [Int32.le_iff_toInt_le, h.1, k.1]
theorem R3.eq (h : R3 x a M) (k : R3 y b N) : x = y ↔ a = b := by rw [← Int32.toInt_inj, h.1, k.1]
theorem R6.lt (h : R6 u a M) (k : R6 v b N) : u < v ↔ a < b := by rw [Int64.lt_iff_toInt_lt, h.1, k.1]
theorem R6.eq (h : R6 u a M) (k : R6 v b N) : u = v ↔ a = b := by rw [← Int64.toInt_inj, h.1, k.1]
theorem R3.of (h : x.toInt.natAbs ≤ M) : R3 x x.toInt M := ⟨rfl, h⟩
end
theorem r3l (x : Int32) (z : Int) (h : x.toInt = z) : R3 x z z.natAbs := ⟨h, Nat.le_refl _⟩
theorem r6l (x : Int64) (z : Int) (h : x.toInt = z) : R6 x z z.natAbs := ⟨h, Nat.le_refl _⟩
theorem r3_2 : R3 2 2 2 := ⟨by decide, by decide⟩
/-- c lies between a and b -/
def bt (a b c : Int) : Prop := (a ≤ c ∧ c ≤ b) ∨ (b ≤ c ∧ c ≤ a)
/-- not on one side -/
def ns (c d : Int) : Prop := ¬ (0 < c ∧ 0 < d) ∧ ¬ (c < 0 ∧ d < 0)
theorem ns_mul {c d : Int} (h : c * d ≤ 0) : ns c d := by
  refine ⟨fun k => ?_, fun k => ?_⟩
  · have := Int.mul_pos k.1 k.2; omega
  · have := Int.mul_pos_of_neg_of_neg k.1 k.2; omega
theorem mul_ns {c d : Int} (h : ns c d) : c * d ≤ 0 := by
  obtain ⟨h1, h2⟩ := h
  rcases Int.lt_trichotomy c 0 with k | k | k
  · exact Int.mul_nonpos_of_nonpos_of_nonneg (by omega) (by omega)
  · subst k; simp
  · exact Int.mul_nonpos_of_nonneg_of_nonpos (by omega) (by omega)
theorem bt_mul {a b c : Int} : bt a b c ↔ (a - c) * (b - c) ≤ 0 := by
  constructor
  · intro h
    rcases h with h | h
    · exact Int.mul_nonpos_of_nonpos_of_nonneg (by omega) (by omega)
    · exact Int.mul_nonpos_of_nonneg_of_nonpos (by omega) (by omega)
  · intro h
    obtain ⟨h1, h2⟩ := ns_mul h
    unfold bt
    omega
theorem sq_nn (x : Int) : 0 ≤ x * x := by
  rcases Int.le_total 0 x with h | h
  · exact Int.mul_nonneg h h
  · exact Int.mul_nonneg_of_nonpos_of_nonpos h h
theorem sq_0 {x : Int} (h : x * x ≤ 0) : x = 0 := by
  have h1 := sq_nn x
  have h2 : x * x = 0 := by omega
  rcases Int.mul_eq_zero.mp h2 with h | h <;> exact h
/-- a point on a line, in the box: the two ends aren't on one side of any line through it -/
theorem L_on {p1 p2 q1 q2 u1 u2 : Int} (h : p1 * q2 = p2 * q1) (h1 : p1 * q1 ≤ 0) (h2 : p2 * q2 ≤ 0) : ns (u1 * p2 - u2 * p1) (u1 * q2 - u2 * q1) := by
  apply ns_mul
  by_cases k : p2 * q2 = 0
  · have e : p1 * q2 = 0 := by
      have : (p1 * q2) * (p1 * q2) = 0 := by grind
      exact sq_0 (by omega)
    have e2 : p2 * q1 = 0 := by omega
    have e3 : (u1 * p2 - u2 * p1) * (u1 * q2 - u2 * q1) = (u2 * u2) * (p1 * q1) := by grind
    rw [e3]
    exact Int.mul_nonpos_of_nonneg_of_nonpos (sq_nn _) h1
  · have e : (p2 * q2) * ((u1 * p2 - u2 * p1) * (u1 * q2 - u2 * q1)) = (u1 * p2 * q2 - u2 * p1 * q2) * (u1 * p2 * q2 - u2 * p1 * q2) := by grind
    have e2 := sq_nn (u1 * p2 * q2 - u2 * p1 * q2)
    rw [← e] at e2
    refine Int.not_lt.mp fun z => ?_
    have := Int.mul_neg_of_neg_of_pos (show p2 * q2 < 0 by omega) z
    omega
theorem L_off {p1 p2 q1 q2 u1 u2 : Int} (h : p1 * q2 = p2 * q1) (hn : ns (u1 * p2 - u2 * p1) (u1 * q2 - u2 * q1)) (hd : u1 * p2 - u2 * p1 ≠ u1 * q2 - u2 * q1) : p1 * q1 ≤ 0 ∧ p2 * q2 ≤ 0 := by
  have hm := mul_ns hn
  constructor
  · refine Int.not_lt.mp fun z => ?_
    have e : (p1 * q1) * ((u1 * p2 - u2 * p1) * (u1 * q2 - u2 * q1)) = (u1 * p1 * q2 - u2 * p1 * q1) * (u1 * p1 * q2 - u2 * p1 * q1) := by grind
    have e2 := Int.mul_nonpos_of_nonneg_of_nonpos (Int.le_of_lt z) hm
    rw [e] at e2
    have e3 := sq_0 e2
    have e4 : p1 * (u1 * q2 - u2 * q1) = 0 := by grind
    have e5 : q1 * (u1 * p2 - u2 * p1) = 0 := by grind
    have z1 : p1 ≠ 0 := fun k => by subst k; simp at z
    have z2 : q1 ≠ 0 := fun k => by subst k; simp at z
    rcases Int.mul_eq_zero.mp e4 with k | k
    · exact z1 k
    · rcases Int.mul_eq_zero.mp e5 with k' | k'
      · exact z2 k'
      · omega
  · refine Int.not_lt.mp fun z => ?_
    have e : (p2 * q2) * ((u1 * p2 - u2 * p1) * (u1 * q2 - u2 * q1)) = (u1 * p2 * q2 - u2 * p1 * q2) * (u1 * p2 * q2 - u2 * p1 * q2) := by grind
    have e2 := Int.mul_nonpos_of_nonneg_of_nonpos (Int.le_of_lt z) hm
    rw [e] at e2
    have e3 := sq_0 e2
    have e4 : p2 * (u1 * q2 - u2 * q1) = 0 := by grind
    have e5 : q2 * (u1 * p2 - u2 * p1) = 0 := by grind
    have z1 : p2 ≠ 0 := fun k => by subst k; simp at z
    have z2 : q2 ≠ 0 := fun k => by subst k; simp at z
    rcases Int.mul_eq_zero.mp e4 with k | k
    · exact z1 k
    · rcases Int.mul_eq_zero.mp e5 with k' | k'
      · exact z2 k'
      · omega
/-- the spans of two ways share a number -/
def ov (u p q : Int) : Prop := ¬ (0 < p ∧ 0 < q ∧ u < p ∧ u < q) ∧ ¬ (p < 0 ∧ q < 0 ∧ p < u ∧ q < u)
theorem L_box1 {a b c d u p q : Int} (ha : 0 < a) (hb : b < 0) (hc : c < 0) (hd : 0 < d) (e1 : a - b = d - c) (e2 : a * u = d * p - c * q) : ov u p q := by
  refine ⟨fun ⟨h1, h2, h3, h4⟩ => ?_, fun ⟨h1, h2, h3, h4⟩ => ?_⟩
  · rcases Int.le_total p q with k | k
    · have f1 := Int.mul_pos ha (show 0 < p - u by omega)
      have f2 := Int.mul_pos (show 0 < -b by omega) h1
      have f3 := Int.mul_nonneg (show 0 ≤ -c by omega) (show 0 ≤ q - p by omega)
      have f4 : a * (p - u) + -b * p + -c * (q - p) = 0 := by grind
      omega
    · have f1 := Int.mul_pos ha (show 0 < q - u by omega)
      have f2 := Int.mul_pos (show 0 < -b by omega) h2
      have f3 := Int.mul_nonneg (show 0 ≤ d by omega) (show 0 ≤ p - q by omega)
      have f4 : a * (q - u) + -b * q + d * (p - q) = 0 := by grind
      omega
  · rcases Int.le_total p q with k | k
    · have f1 := Int.mul_pos ha (show 0 < u - q by omega)
      have f2 := Int.mul_pos (show 0 < -b by omega) (show 0 < -q by omega)
      have f3 := Int.mul_nonneg (show 0 ≤ d by omega) (show 0 ≤ q - p by omega)
      have f4 : a * (u - q) + -b * -q + d * (q - p) = 0 := by grind
      omega
    · have f1 := Int.mul_pos ha (show 0 < u - p by omega)
      have f2 := Int.mul_pos (show 0 < -b by omega) (show 0 < -p by omega)
      have f3 := Int.mul_nonneg (show 0 ≤ -c by omega) (show 0 ≤ p - q by omega)
      have f4 : a * (u - p) + -b * -p + -c * (p - q) = 0 := by grind
      omega
def tchI (u1 u2 p1 p2 q1 q2 : Int) : Prop := ov u1 p1 q1 ∧ ov u2 p2 q2 ∧ ns (u1 * p2 - u2 * p1) (u1 * q2 - u2 * q1) ∧ ns (p1 * q2 - p2 * q1) ((q1 - p1) * (u2 - p2) - (q2 - p2) * (u1 - p1))
def op (c d : Int) : Prop := (0 < c ∧ d < 0) ∨ (c < 0 ∧ 0 < d)
def mtI (u1 u2 p1 p2 q1 q2 : Int) : Prop := (op (p1 * q2 - p2 * q1) ((q1 - p1) * (u2 - p2) - (q2 - p2) * (u1 - p1)) ∧ op (u1 * p2 - u2 * p1) (u1 * q2 - u2 * q1)) ∨ (p1 * q2 - p2 * q1 = 0 ∧ bt p1 q1 0 ∧ bt p2 q2 0) ∨ ((q1 - p1) * (u2 - p2) - (q2 - p2) * (u1 - p1) = 0 ∧ bt p1 q1 u1 ∧ bt p2 q2 u2) ∨ (u1 * p2 - u2 * p1 = 0 ∧ bt 0 u1 p1 ∧ bt 0 u2 p2) ∨ (u1 * q2 - u2 * q1 = 0 ∧ bt 0 u1 q1 ∧ bt 0 u2 q2)
theorem ns0l {d : Int} : ns 0 d := ⟨fun h => by omega, fun h => by omega⟩
theorem ns0r {d : Int} : ns d 0 := ⟨fun h => by omega, fun h => by omega⟩
theorem mt_tch {u1 u2 p1 p2 q1 q2 : Int} (h : mtI u1 u2 p1 p2 q1 q2) : tchI u1 u2 p1 p2 q1 q2 := by
  rcases h with ⟨h1, h2⟩ | ⟨h0, h1, h2⟩ | ⟨h0, h1, h2⟩ | ⟨h0, h1, h2⟩ | ⟨h0, h1, h2⟩
  · generalize ea : p1 * q2 - p2 * q1 = a at *
    generalize eb : (q1 - p1) * (u2 - p2) - (q2 - p2) * (u1 - p1) = b at *
    generalize ec : u1 * p2 - u2 * p1 = c at *
    generalize ed : u1 * q2 - u2 * q1 = d at *
    have e1 : a - b = d - c := by grind
    have e2 : a * u1 = d * p1 - c * q1 := by grind
    have e3 : a * u2 = d * p2 - c * q2 := by grind
    unfold op at h1 h2
    have hab : ns a b := ⟨by omega, by omega⟩
    have hcd : ns c d := ⟨by omega, by omega⟩
    unfold tchI
    rw [ea, eb, ec, ed]
    rcases h1 with h1 | h1
    · exact ⟨L_box1 h1.1 h1.2 (by omega) (by omega) e1 e2, L_box1 h1.1 h1.2 (by omega) (by omega) e1 e3, hcd, hab⟩
    · exact ⟨L_box1 (a := -a) (b := -b) (c := -c) (d := -d) (by omega) (by omega) (by omega) (by omega) (by omega) (by grind), L_box1 (a := -a) (b := -b) (c := -c) (d := -d) (by omega) (by omega) (by omega) (by omega) (by omega) (by grind), hcd, hab⟩
  · unfold tchI
    rw [h0]
    refine ⟨by unfold ov; unfold bt at h1; omega, by unfold ov; unfold bt at h2; omega, ?_, ns0l⟩
    rw [bt_mul] at h1 h2
    exact L_on (by omega) (by simpa using h1) (by simpa using h2)
  · unfold tchI
    rw [h0]
    refine ⟨by unfold ov; unfold bt at h1; omega, by unfold ov; unfold bt at h2; omega, ?_, ns0r⟩
    rw [bt_mul] at h1 h2
    have := L_on (p1 := p1 - u1) (p2 := p2 - u2) (q1 := q1 - u1) (q2 := q2 - u2) (u1 := u1) (u2 := u2) (by grind) h1 h2
    have e1 : u1 * (p2 - u2) - u2 * (p1 - u1) = u1 * p2 - u2 * p1 := by grind
    have e2 : u1 * (q2 - u2) - u2 * (q1 - u1) = u1 * q2 - u2 * q1 := by grind
    rw [e1, e2] at this
    exact this
  · unfold tchI
    rw [h0]
    refine ⟨by unfold ov; unfold bt at h1; omega, by unfold ov; unfold bt at h2; omega, ns0l, ?_⟩
    rw [bt_mul] at h1 h2
    have := L_on (p1 := 0 - p1) (p2 := 0 - p2) (q1 := u1 - p1) (q2 := u2 - p2) (u1 := q1 - p1) (u2 := q2 - p2) (by grind) h1 h2
    have e1 : (q1 - p1) * (0 - p2) - (q2 - p2) * (0 - p1) = p1 * q2 - p2 * q1 := by grind
    rw [e1] at this
    exact this
  · unfold tchI
    rw [h0]
    refine ⟨by unfold ov; unfold bt at h1; omega, by unfold ov; unfold bt at h2; omega, ns0r, ?_⟩
    rw [bt_mul] at h1 h2
    have := L_on (p1 := 0 - q1) (p2 := 0 - q2) (q1 := u1 - q1) (q2 := u2 - q2) (u1 := q1 - p1) (u2 := q2 - p2) (by grind) h1 h2
    have e1 : (q1 - p1) * (0 - q2) - (q2 - p2) * (0 - q1) = p1 * q2 - p2 * q1 := by grind
    have e2 : (q1 - p1) * (u2 - q2) - (q2 - p2) * (u1 - q1) = (q1 - p1) * (u2 - p2) - (q2 - p2) * (u1 - p1) := by grind
    rw [e1, e2] at this
    exact this
/-- on one line: between in one way, so between in the other -/
theorem L_col {w h x y a1 a2 b1 b2 : Int} (hw : w ≠ 0) (e1 : w * (a2 - y) = h * (a1 - x)) (e2 : w * (b2 - y) = h * (b1 - x)) (k : bt a1 b1 x) : bt a2 b2 y := by
  rw [bt_mul] at k ⊢
  have e : (w * w) * ((a2 - y) * (b2 - y)) = (h * h) * ((a1 - x) * (b1 - x)) := by grind
  have f := Int.mul_nonpos_of_nonneg_of_nonpos (sq_nn h) k
  rw [← e] at f
  have g : 0 < w * w := by
    have := sq_nn w
    have : w * w ≠ 0 := fun z => hw (sq_0 (by omega))
    omega
  refine Int.not_lt.mp fun z => ?_
  have := Int.mul_pos g z
  omega
theorem m0 {w c : Int} (hw : w ≠ 0) (h : w * c = 0) : c = 0 := (Int.mul_eq_zero.mp h).resolve_left hw
theorem tch_mt {u1 u2 p1 p2 q1 q2 : Int} (hne : ¬ (p1 = q1 ∧ p2 = q2)) (h : tchI u1 u2 p1 p2 q1 q2) : mtI u1 u2 p1 p2 q1 q2 := by
  obtain ⟨o1, o2, hcd, hab⟩ := h
  by_cases a0 : p1 * q2 - p2 * q1 = 0
  · by_cases b0 : (q1 - p1) * (u2 - p2) - (q2 - p2) * (u1 - p1) = 0
    · by_cases w0 : q1 - p1 = 0
      · have w2 : q2 - p2 ≠ 0 := by omega
        have c0 : u1 * p2 - u2 * p1 = 0 := m0 w2 (by grind)
        have d0 : u1 * q2 - u2 * q1 = 0 := m0 w2 (by grind)
        have : bt p2 q2 0 ∨ bt p2 q2 u2 ∨ bt 0 u2 p2 ∨ bt 0 u2 q2 := by unfold ov at o2; unfold bt; omega
        rcases this with k | k | k | k
        · exact Or.inr (Or.inl ⟨a0, L_col (w := q2 - p2) (h := q1 - p1) w2 (by grind) (by grind) k, k⟩)
        · exact Or.inr (Or.inr (Or.inl ⟨b0, L_col (w := q2 - p2) (h := q1 - p1) w2 (by grind) (by grind) k, k⟩))
        · exact Or.inr (Or.inr (Or.inr (Or.inl ⟨c0, L_col (w := q2 - p2) (h := q1 - p1) w2 (by grind) (by grind) k, k⟩)))
        · exact Or.inr (Or.inr (Or.inr (Or.inr ⟨d0, L_col (w := q2 - p2) (h := q1 - p1) w2 (by grind) (by grind) k, k⟩)))
      · have c0 : u1 * p2 - u2 * p1 = 0 := m0 w0 (by grind)
        have d0 : u1 * q2 - u2 * q1 = 0 := m0 w0 (by grind)
        have : bt p1 q1 0 ∨ bt p1 q1 u1 ∨ bt 0 u1 p1 ∨ bt 0 u1 q1 := by unfold ov at o1; unfold bt; omega
        rcases this with k | k | k | k
        · exact Or.inr (Or.inl ⟨a0, k, L_col (w := q1 - p1) (h := q2 - p2) w0 (by grind) (by grind) k⟩)
        · exact Or.inr (Or.inr (Or.inl ⟨b0, k, L_col (w := q1 - p1) (h := q2 - p2) w0 (by grind) (by grind) k⟩))
        · exact Or.inr (Or.inr (Or.inr (Or.inl ⟨c0, k, L_col (w := q1 - p1) (h := q2 - p2) w0 (by grind) (by grind) k⟩)))
        · exact Or.inr (Or.inr (Or.inr (Or.inr ⟨d0, k, L_col (w := q1 - p1) (h := q2 - p2) w0 (by grind) (by grind) k⟩)))
    · obtain ⟨f1, f2⟩ := L_off (by omega) hcd (fun e => b0 (by grind))
      exact Or.inr (Or.inl ⟨a0, bt_mul.mpr (by simpa using f1), bt_mul.mpr (by simpa using f2)⟩)
  · by_cases b0 : (q1 - p1) * (u2 - p2) - (q2 - p2) * (u1 - p1) = 0
    · have e1 : u1 * (p2 - u2) - u2 * (p1 - u1) = u1 * p2 - u2 * p1 := by grind
      have e2 : u1 * (q2 - u2) - u2 * (q1 - u1) = u1 * q2 - u2 * q1 := by grind
      obtain ⟨f1, f2⟩ := L_off (p1 := p1 - u1) (p2 := p2 - u2) (q1 := q1 - u1) (q2 := q2 - u2) (u1 := u1) (u2 := u2) (by grind) (by rw [e1, e2]; exact hcd) (by rw [e1, e2]; exact fun e => a0 (by grind))
      exact Or.inr (Or.inr (Or.inl ⟨b0, bt_mul.mpr f1, bt_mul.mpr f2⟩))
    · have hcd2 : u1 * p2 - u2 * p1 ≠ u1 * q2 - u2 * q1 := fun e => by
        have e1 : p1 * q2 - p2 * q1 = (q1 - p1) * (u2 - p2) - (q2 - p2) * (u1 - p1) := by grind
        unfold ns at hab
        omega
      by_cases c0 : u1 * p2 - u2 * p1 = 0
      · have e1 : (q1 - p1) * (0 - p2) - (q2 - p2) * (0 - p1) = p1 * q2 - p2 * q1 := by grind
        obtain ⟨f1, f2⟩ := L_off (p1 := 0 - p1) (p2 := 0 - p2) (q1 := u1 - p1) (q2 := u2 - p2) (u1 := q1 - p1) (u2 := q2 - p2) (by grind) (by rw [e1]; exact hab) (by rw [e1]; exact fun e => hcd2 (by grind))
        exact Or.inr (Or.inr (Or.inr (Or.inl ⟨c0, bt_mul.mpr f1, bt_mul.mpr f2⟩)))
      · by_cases d0 : u1 * q2 - u2 * q1 = 0
        · have e1 : (q1 - p1) * (0 - q2) - (q2 - p2) * (0 - q1) = p1 * q2 - p2 * q1 := by grind
          have e2 : (q1 - p1) * (u2 - q2) - (q2 - p2) * (u1 - q1) = (q1 - p1) * (u2 - p2) - (q2 - p2) * (u1 - p1) := by grind
          obtain ⟨f1, f2⟩ := L_off (p1 := 0 - q1) (p2 := 0 - q2) (q1 := u1 - q1) (q2 := u2 - q2) (u1 := q1 - p1) (u2 := q2 - p2) (by grind) (by rw [e1, e2]; exact hab) (by rw [e1, e2]; exact fun e => hcd2 (by grind))
          exact Or.inr (Or.inr (Or.inr (Or.inr ⟨d0, bt_mul.mpr f1, bt_mul.mpr f2⟩)))
        · refine Or.inl ⟨?_, ?_⟩
          · unfold ns at hab; unfold op; omega
          · unfold ns at hcd; unfold op; omega
theorem mxmn (a b c d : Int32) : mx a b < mn c d ↔ a < c ∧ a < d ∧ b < c ∧ b < d := by
  simp only [mx, mn, Int32.lt_iff_toInt_lt]
  split <;> split <;> omega
theorem mn_0 (u v : Int32) : 0 < mn u v ↔ 0 < u ∧ 0 < v := by
  simp only [mn, Int32.lt_iff_toInt_lt]
  split <;> omega
theorem mx_0 (u v : Int32) : mx u v < 0 ↔ u < 0 ∧ v < 0 := by
  simp only [mx, Int32.lt_iff_toInt_lt]
  split <;> omega
theorem r3_0 : R3 0 0 0 := ⟨by decide, by decide⟩
theorem r3_trn {ax ay bx by_ cx cy : Int32} {AX AY BX BY CX CY : Int} (h1 : R3 ax AX 130) (h2 : R3 ay AY 130) (h3 : R3 bx BX 130) (h4 : R3 by_ BY 130) (h5 : R3 cx CX 130) (h6 : R3 cy CY 130) : R3 (trn ax ay bx by_ cx cy) ((BX - AX) * (CY - AY) - (BY - AY) * (CX - AX)) 135200 :=
  (((h3.sub h1 (by decide)).mul (h6.sub h2 (by decide)) (by decide)).sub ((h4.sub h2 (by decide)).mul (h5.sub h1 (by decide)) (by decide)) (by decide))
theorem tch_I {ax ay bx by_ cx cy dx dy : Int32} {AX AY BX BY CX CY DX DY : Int} (h1 : R3 ax AX 130) (h2 : R3 ay AY 130) (h3 : R3 bx BX 130) (h4 : R3 by_ BY 130) (h5 : R3 cx CX 130) (h6 : R3 cy CY 130) (h7 : R3 dx DX 130) (h8 : R3 dy DY 130) : tch ax ay bx by_ cx cy dx dy = true ↔ tchI (BX - AX) (BY - AY) (CX - AX) (CY - AY) (DX - AX) (DY - AY) := by
  have t1 := r3_trn h1 h2 h3 h4 h5 h6
  have t2 := r3_trn h1 h2 h3 h4 h7 h8
  have t3 := r3_trn h5 h6 h7 h8 h1 h2
  have t4 := r3_trn h5 h6 h7 h8 h3 h4
  have e3 : (DX - CX) * (AY - CY) - (DY - CY) * (AX - CX) = (CX - AX) * (DY - AY) - (CY - AY) * (DX - AX) := by grind
  have e4 : (DX - CX) * (BY - CY) - (DY - CY) * (BX - CX) = ((DX - AX) - (CX - AX)) * ((BY - AY) - (CY - AY)) - ((DY - AY) - (CY - AY)) * ((BX - AX) - (CX - AX)) := by grind
  rw [e3] at t3
  rw [e4] at t4
  unfold tch ovl apt
  simp only [Bool.and_eq_true, Bool.not_eq_true', decide_eq_false_iff_not, mxmn, mn_0, mx_0, h1.lt h5, h1.lt h7, h3.lt h5, h3.lt h7, h5.lt h1, h5.lt h3, h7.lt h1, h7.lt h3, h2.lt h6, h2.lt h8, h4.lt h6, h4.lt h8, h6.lt h2, h6.lt h4, h8.lt h2, h8.lt h4, r3_0.lt t1, r3_0.lt t2, r3_0.lt t3, r3_0.lt t4, t1.lt r3_0, t2.lt r3_0, t3.lt r3_0, t4.lt r3_0]
  unfold tchI ov ns
  refine and_congr ?_ (and_congr ?_ Iff.rfl) <;> (clear t1 t2 t3 t4 e3 e4; omega)
theorem sgn_op {x y : Int32} {a b : Int} {M N : Nat} (h : R3 x a M) (k : R3 y b N) : sgn x * sgn y < 0 ↔ op a b := by
  unfold op
  rw [← r3_0.lt h, ← r3_0.lt k, ← h.lt r3_0, ← k.lt r3_0]
  unfold sgn
  have f : ∀ z : Int32, z < 0 → ¬ 0 < z := fun z h1 h2 => by
    rw [Int32.lt_iff_toInt_lt] at h1 h2
    omega
  by_cases h1 : 0 < x <;> by_cases h2 : 0 < y <;> by_cases h3 : x < 0 <;> by_cases h4 : y < 0 <;> simp only [h1, h2, h3, h4, if_true, if_false] <;> first | exact absurd h1 (f _ h3) | exact absurd h2 (f _ h4) | decide
theorem sgn_0 {x : Int32} {a : Int} {M : Nat} (h : R3 x a M) : sgn x = 0 ↔ a = 0 := by
  have e : a = 0 ↔ ¬ 0 < x ∧ ¬ x < 0 := by rw [r3_0.lt h, h.lt r3_0]; omega
  rw [e]
  unfold sgn
  by_cases h1 : 0 < x <;> by_cases h3 : x < 0 <;> simp only [h1, h3, if_true, if_false] <;> decide
theorem bt1_I {a b c : Int32} {A B C : Int} {M N K : Nat} (h : R3 a A M) (k : R3 b B N) (l : R3 c C K) : bt1 a b c = true ↔ bt A B C := by
  unfold bt1 wit bt
  by_cases z : a < b
  · rw [if_pos z]
    simp only [Bool.and_eq_true, Bool.not_eq_true', decide_eq_false_iff_not, l.lt h, k.lt l]
    rw [h.lt k] at z
    omega
  · rw [if_neg z]
    simp only [Bool.and_eq_true, Bool.not_eq_true', decide_eq_false_iff_not, l.lt k, h.lt l]
    rw [h.lt k] at z
    omega
theorem bt_sh {a b c s : Int} : bt a b c ↔ bt (a - s) (b - s) (c - s) := by unfold bt; omega
theorem mt_I {ax ay bx by_ cx cy dx dy : Int32} {AX AY BX BY CX CY DX DY : Int} (h1 : R3 ax AX 130) (h2 : R3 ay AY 130) (h3 : R3 bx BX 130) (h4 : R3 by_ BY 130) (h5 : R3 cx CX 130) (h6 : R3 cy CY 130) (h7 : R3 dx DX 130) (h8 : R3 dy DY 130) : mt ax ay bx by_ cx cy dx dy = true ↔ mtI (BX - AX) (BY - AY) (CX - AX) (CY - AY) (DX - AX) (DY - AY) := by
  have t1 : R3 (crs (bx - ax) (by_ - ay) (cx - ax) (cy - ay)) _ _ := r3_trn h1 h2 h3 h4 h5 h6
  have t2 : R3 (crs (bx - ax) (by_ - ay) (dx - ax) (dy - ay)) _ _ := r3_trn h1 h2 h3 h4 h7 h8
  have t3 : R3 (crs (dx - cx) (dy - cy) (ax - cx) (ay - cy)) _ _ := r3_trn h5 h6 h7 h8 h1 h2
  have t4 : R3 (crs (dx - cx) (dy - cy) (bx - cx) (by_ - cy)) _ _ := r3_trn h5 h6 h7 h8 h3 h4
  have e3 : (DX - CX) * (AY - CY) - (DY - CY) * (AX - CX) = (CX - AX) * (DY - AY) - (CY - AY) * (DX - AX) := by grind
  have e4 : (DX - CX) * (BY - CY) - (DY - CY) * (BX - CX) = ((DX - AX) - (CX - AX)) * ((BY - AY) - (CY - AY)) - ((DY - AY) - (CY - AY)) * ((BX - AX) - (CX - AX)) := by grind
  rw [e3] at t3
  rw [e4] at t4
  unfold mt mtt btw
  simp only [Bool.or_eq_true, Bool.and_eq_true, decide_eq_true_eq, sgn_op t3 t4, sgn_op t1 t2, sgn_0 t1, sgn_0 t2, sgn_0 t3, sgn_0 t4, bt1_I h5 h7 h1, bt1_I h6 h8 h2, bt1_I h5 h7 h3, bt1_I h6 h8 h4, bt1_I h1 h3 h5, bt1_I h2 h4 h6, bt1_I h1 h3 h7, bt1_I h2 h4 h8]
  rw [bt_sh (a := CX) (s := AX), bt_sh (a := CY) (s := AY), bt_sh (a := CX) (c := BX) (s := AX), bt_sh (a := CY) (c := BY) (s := AY), bt_sh (a := AX) (c := CX) (s := AX), bt_sh (a := AY) (c := CY) (s := AY), bt_sh (a := AX) (c := DX) (s := AX), bt_sh (a := AY) (c := DY) (s := AY)]
  simp only [Int.sub_self]
  unfold mtI
  simp only [or_assoc]
/-- the two tests of two ways that meet are one -/
theorem tch_mt32 {ax ay bx by_ cx cy dx dy : Int32} {AX AY BX BY CX CY DX DY : Int} (h1 : R3 ax AX 130) (h2 : R3 ay AY 130) (h3 : R3 bx BX 130) (h4 : R3 by_ BY 130) (h5 : R3 cx CX 130) (h6 : R3 cy CY 130) (h7 : R3 dx DX 130) (h8 : R3 dy DY 130) (hne : ¬ (CX = DX ∧ CY = DY)) : tch ax ay bx by_ cx cy dx dy = mt ax ay bx by_ cx cy dx dy := by
  rw [Bool.eq_iff_iff, tch_I h1 h2 h3 h4 h5 h6 h7 h8, mt_I h1 h2 h3 h4 h5 h6 h7 h8]
  exact ⟨tch_mt (by omega), mt_tch⟩
theorem wit_I {x lo hi : Int32} {L H : Int} (hl : lo.toInt = L) (hh : hi.toInt = H) (h : wit x lo hi = true) : L ≤ x.toInt ∧ x.toInt ≤ H := by
  unfold wit at h
  simp only [Bool.and_eq_true, Bool.not_eq_true', decide_eq_false_iff_not, Int32.lt_iff_toInt_lt] at h
  omega
theorem inr_R {x : Int32} (h : inr x = true) : R3 x x.toInt 65 := by
  have := wit_I (L := -5) (H := 65) (by decide) (by decide) h
  exact R3.of (by omega)
theorem w60_R {x : Int32} (h : wit x 0 60 = true) : R3 x x.toInt 60 := by
  have := wit_I (L := 0) (H := 60) (by decide) (by decide) h
  exact R3.of (by omega)
theorem pt_R {x y : Int32} (h : pt x y = true) : R3 x x.toInt 60 ∧ R3 y y.toInt 60 := by
  unfold pt at h
  rw [Bool.and_eq_true] at h
  exact ⟨w60_R h.1, w60_R h.2⟩
theorem veq_ok {g : Nat → Int32} {a : Nat → Nat → Int32} {np : Nat} (hp : ∀ p, p < np → pt (a 2 p) (a 3 p) = true ∧ pt (a 4 p) (a 5 p) = true ∧ ¬ (a 2 p = a 4 p ∧ a 3 p = a 5 p)) (h6 : wit (g 6) 1 90 = true) (h7 : wit (g 7) 0 100 = true) : VEq g a np := by
  intro p x y hpn hx hy
  have rx := inr_R hx
  have ry := inr_R hy
  obtain ⟨hp1, hp2, hp3⟩ := hp p hpn
  obtain ⟨r2, r3⟩ := pt_R hp1
  obtain ⟨r4, r5⟩ := pt_R hp2
  have r26 : R3 2 2 2 := r3_2
  have rmx : R3 (smx a p) _ 130 := (r2.add r4 (by decide)).wk (by decide)
  have rmy : R3 (smy a p) _ 130 := (r3.add r5 (by decide)).wk (by decide)
  have r2x : R3 (2 * x) _ 130 := r26.mul rx (by decide)
  have r2y : R3 (2 * y) _ 130 := r26.mul ry (by decide)
  have rsx : R3 (sdx a p) _ 120 := r4.sub r2 (by decide)
  have rsy : R3 (sdy a p) _ 120 := r5.sub r3 (by decide)
  have rwx : R3 (swx a x p) _ 260 := rmx.sub r2x (by decide)
  have rwy : R3 (swy a y p) _ 260 := rmy.sub r2y (by decide)
  have rvs : R3 (vsd a x y p) _ 62400 := (rsy.mul rwx (by decide)).sub (rsx.mul rwy (by decide)) (by decide)
  have rc1 : R3 (crs (sdx a p) (sdy a p) (x - a 2 p) (y - a 3 p)) _ 30000 := (rsx.mul (ry.sub r3 (by decide)) (by decide)).sub (rsy.mul (rx.sub r2 (by decide)) (by decide)) (by decide)
  have rc2 : R6 (sacr a x y p) _ 62400 := R3.up (x := crs (sdx a p) (sdy a p) (swx a x p) (swy a y p)) ((rsx.mul rwy (by decide)).sub (rsy.mul rwx (by decide)) (by decide))
  have rvw : R3 (vwy a x y p) _ 135200 := (rwx.mul rwx (by decide)).add (rwy.mul rwy (by decide)) (by decide)
  have rsw : R6 (sway a x y p) _ 135200 := (rwx.up.mul rwx.up (by decide)).add (rwy.up.mul rwy.up (by decide)) (by decide)
  have rvl : R6 (vln a p) _ 28800 := R3.up (x := sdx a p * sdx a p + sdy a p * sdy a p) ((rsx.mul rsx (by decide)).add (rsy.mul rsy (by decide)) (by decide))
  have rsl : R6 (slong a p) _ 28800 := (rsx.up.mul rsx.up (by decide)).add (rsy.up.mul rsy.up (by decide)) (by decide)
  have e6 := wit_I (L := 1) (H := 90) (by decide) (by decide) h6
  have e7 := wit_I (L := 0) (H := 100) (by decide) (by decide) h7
  have rg6 : R3 (g 6) (g 6).toInt 90 := R3.of (by omega)
  have rg7 : R3 (g 7) (g 7).toInt 100 := R3.of (by omega)
  have r4_ : R3 4 4 4 := ⟨by decide, by decide⟩
  have r46 : R6 4 4 4 := ⟨by decide, by decide⟩
  have r100 : R6 100 100 100 := ⟨by decide, by decide⟩
  have l1 := (r4_.mul rg6 (by decide)).mul rg6 (by decide)
  have l2 := (r46.mul rg6.up (by decide)).mul rg6.up (by decide)
  have l3 := (r100.mul rvs.up (by decide)).mul rvs.up (by decide)
  have l4 := (rg7.up.mul rvl (by decide)).mul rvw.up (by decide)
  have l5 := (r100.mul rc2 (by decide)).mul rc2 (by decide)
  have l6 := (rg7.up.mul rsl (by decide)).mul rsw (by decide)
  unfold vs sn
  have e1 : vs1 g a x y p = sn1 g a x y p := by
    unfold vs1 sn1
    rw [Bool.eq_iff_iff]
    simp only [Bool.and_eq_true, Bool.not_eq_true', decide_eq_false_iff_not, decide_eq_true_eq, r3_0.lt rvs, r3_0.lt rc1, l1.lt rvw, l2.lt rsw, l3.lt l4, l5.lt l6]
    generalize (g 6).toInt = G6
    generalize (g 7).toInt = G7
    generalize (a 2 p).toInt = A2
    generalize (a 3 p).toInt = A3
    generalize (a 4 p).toInt = A4
    generalize (a 5 p).toInt = A5
    generalize x.toInt = X
    generalize y.toInt = Y
    have f1 : (A5 - A3) * (A2 + A4 - 2 * X) - (A4 - A2) * (A3 + A5 - 2 * Y) = 2 * ((A4 - A2) * (Y - A3) - (A5 - A3) * (X - A2)) := by grind
    have f2 : (A4 - A2) * (A3 + A5 - 2 * Y) - (A5 - A3) * (A2 + A4 - 2 * X) = -((A5 - A3) * (A2 + A4 - 2 * X) - (A4 - A2) * (A3 + A5 - 2 * Y)) := by grind
    rw [f2]
    generalize (A5 - A3) * (A2 + A4 - 2 * X) - (A4 - A2) * (A3 + A5 - 2 * Y) = V at *
    have f3 : 100 * -V * -V = 100 * V * V := by grind
    rw [f3, f1]
    have f4 : (0 < 2 * ((A4 - A2) * (Y - A3) - (A5 - A3) * (X - A2))) ↔ (0 < (A4 - A2) * (Y - A3) - (A5 - A3) * (X - A2)) := by omega
    rw [f4]
  rw [e1]
  congr 1
  have key : ∀ n, n ≤ np → vcl a x y p n = clr a x y p n := by
    intro n
    induction n with
    | zero => intro _; rfl
    | succ k ih =>
      intro hk
      rw [vcl, clr, ih (by omega)]
      obtain ⟨ho1, ho2, ho3⟩ := hp k (by omega)
      obtain ⟨s2, s3⟩ := pt_R ho1
      obtain ⟨s4, s5⟩ := pt_R ho2
      rw [vto, sno, tch_mt32 r2x r2y rmx rmy ((r26.mul s2 (by decide)).wk (by decide)) ((r26.mul s3 (by decide)).wk (by decide)) ((r26.mul s4 (by decide)).wk (by decide)) ((r26.mul s5 (by decide)).wk (by decide)) (fun e => ho3 ⟨(s2.eq s4).mpr (by omega), (s3.eq s5).mpr (by omega)⟩)]
  exact key np (Nat.le_refl _)
