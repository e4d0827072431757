/-- the greater, the less of two fractions -/
def mxf (n m n' m' : Int) : Int × Int := if n * m' < n' * m then (n', m') else (n, m)
def mnf (n m n' m' : Int) : Int × Int := if n' * m < n * m' then (n', m') else (n, m)
theorem fr_lt {n m n' m' N D : Int} (hm : 0 < m) (hm' : 0 < m') (hD : 0 < D) (h : n * m' < n' * m) (k : n' * D < N * m') : n * D < N * m := by
  have f1 := Int.mul_pos hD (show 0 < n' * m - n * m' by omega)
  have f2 := Int.mul_pos hm (show 0 < N * m' - n' * D by omega)
  have f3 : D * (n' * m - n * m') + m * (N * m' - n' * D) = m' * (N * m - n * D) := by grind
  refine Int.not_le.mp fun z => ?_
  have := Int.mul_nonpos_of_nonneg_of_nonpos (Int.le_of_lt hm') (show N * m - n * D ≤ 0 by omega)
  omega
theorem fr_le {n m n' m' N D : Int} (hm : 0 < m) (hm' : 0 < m') (hD : 0 < D) (h : n * m' ≤ n' * m) (k : n' * D < N * m') : n * D < N * m := by
  have f1 := Int.mul_nonneg (Int.le_of_lt hD) (show 0 ≤ n' * m - n * m' by omega)
  have f2 := Int.mul_pos hm (show 0 < N * m' - n' * D by omega)
  have f3 : D * (n' * m - n * m') + m * (N * m' - n' * D) = m' * (N * m - n * D) := by grind
  refine Int.not_le.mp fun z => ?_
  have := Int.mul_nonpos_of_nonneg_of_nonpos (Int.le_of_lt hm') (show N * m - n * D ≤ 0 by omega)
  omega
theorem mxf_lt {n m n' m' N D : Int} (hm : 0 < m) (hm' : 0 < m') (hD : 0 < D) : (mxf n m n' m').1 * D < N * (mxf n m n' m').2 ↔ n * D < N * m ∧ n' * D < N * m' := by
  unfold mxf
  by_cases h : n * m' < n' * m
  · rw [if_pos h]
    exact ⟨fun k => ⟨fr_lt hm hm' hD h k, k⟩, fun k => k.2⟩
  · rw [if_neg h]
    exact ⟨fun k => ⟨k, fr_le hm' hm hD (show n' * m ≤ n * m' by omega) (show n * D < N * m from k)⟩, fun k => k.1⟩
theorem mnf_lt {n m n' m' N D : Int} (hm : 0 < m) (hm' : 0 < m') (hD : 0 < D) : N * (mnf n m n' m').2 < (mnf n m n' m').1 * D ↔ N * m < n * D ∧ N * m' < n' * D := by
  have e : mnf n m n' m' = (-(mxf (-n) m (-n') m').1, (mxf (-n) m (-n') m').2) := by
    unfold mnf mxf
    have : (-n * m' < -n' * m) ↔ (n' * m < n * m') := by
      have e1 : -n * m' = -(n * m') := by grind
      have e2 : -n' * m = -(n' * m) := by grind
      omega
    by_cases h : n' * m < n * m'
    · rw [if_pos h, if_pos (this.mpr h)]; simp
    · rw [if_neg h, if_neg (fun z => h (this.mp z))]; simp
  have k := mxf_lt (n := -n) (n' := -n') (N := -N) hm hm' hD
  rw [e]
  have e1 : (N * (mxf (-n) m (-n') m').2 < -(mxf (-n) m (-n') m').1 * D) ↔ ((mxf (-n) m (-n') m').1 * D < -N * (mxf (-n) m (-n') m').2) := by
    have e1 : -(mxf (-n) m (-n') m').1 * D = -((mxf (-n) m (-n') m').1 * D) := by grind
    have e2 : -N * (mxf (-n) m (-n') m').2 = -(N * (mxf (-n) m (-n') m').2) := by grind
    omega
  rw [e1, k]
  have e1 : -n * D = -(n * D) := by grind
  have e2 : -N * m = -(N * m) := by grind
  have e3 : -n' * D = -(n' * D) := by grind
  have e4 : -N * m' = -(N * m') := by grind
  rw [e1, e2, e3, e4]
  omega
theorem mxf_p {n m n' m' : Int} (hm : 0 < m) (hm' : 0 < m') : 0 < (mxf n m n' m').2 := by unfold mxf; split <;> assumption
theorem mnf_p {n m n' m' : Int} (hm : 0 < m) (hm' : 0 < m') : 0 < (mnf n m n' m').2 := by unfold mnf; split <;> assumption
/-- two axes -/
theorem ax2 {f1 l1 s1 f2 l2 s2 : Int} (h1 : 0 < s1) (h2 : 0 < s2) (k1 : f1 < l1) (k2 : f2 < l2) : (mxf (mxf 0 1 f1 s1).1 (mxf 0 1 f1 s1).2 f2 s2).1 * (mnf (mnf 1 1 l1 s1).1 (mnf 1 1 l1 s1).2 l2 s2).2 < (mnf (mnf 1 1 l1 s1).1 (mnf 1 1 l1 s1).2 l2 s2).1 * (mxf (mxf 0 1 f1 s1).1 (mxf 0 1 f1 s1).2 f2 s2).2 ↔ (0 < l1 ∧ f1 < s1) ∧ (0 < l2 ∧ f2 < s2) ∧ f1 * s2 < l2 * s1 ∧ f2 * s1 < l1 * s2 := by
  have p0 : (0 : Int) < 1 := by decide
  have p1 := mxf_p (n := 0) (n' := f1) p0 h1
  have p2 := mnf_p (n := 1) (n' := l1) p0 h1
  rw [mxf_lt p1 h2 (mnf_p p2 h2), mnf_lt p2 h2 p1, mnf_lt p2 h2 h2]
  rw [mnf_lt (N := (mxf 0 1 f1 s1).1) p0 h1 p1, mnf_lt (N := f2) p0 h1 h2]
  rw [mxf_lt (N := 1) p0 h1 p0, mxf_lt (N := l1) p0 h1 h1, mxf_lt (N := l2) p0 h1 h2]
  have q1 : f1 * s1 < l1 * s1 := Int.mul_lt_mul_of_pos_right k1 h1
  have q2 : f2 * s2 < l2 * s2 := Int.mul_lt_mul_of_pos_right k2 h2
  simp only [Int.zero_mul, Int.mul_one, Int.one_mul]
  omega
theorem ax1 {f1 l1 s1 : Int} (h1 : 0 < s1) (k1 : f1 < l1) : (mxf 0 1 f1 s1).1 * (mnf 1 1 l1 s1).2 < (mnf 1 1 l1 s1).1 * (mxf 0 1 f1 s1).2 ↔ (0 < l1 ∧ f1 < s1) := by
  have p0 : (0 : Int) < 1 := by decide
  have p1 := mxf_p (n := 0) (n' := f1) p0 h1
  have p2 := mnf_p (n := 1) (n' := l1) p0 h1
  rw [mxf_lt p0 h1 p2, mnf_lt p0 h1 p0, mnf_lt p0 h1 h1]
  have q1 : f1 * s1 < l1 * s1 := Int.mul_lt_mul_of_pos_right k1 h1
  simp only [Int.zero_mul, Int.mul_one, Int.one_mul]
  omega
/-- what an axis leaves, of whole numbers -/
def axN (p d lo hi : Int) : Int × Int × Int := if 0 < d then (lo - p, hi - p, d) else (p - hi, p - lo, -d)
/-- the way about the corners, of whole numbers -/
def tN (ax ay bx b_y cx cy : Int) : Int := (bx - ax) * (cy - ay) - (b_y - ay) * (cx - ax)
def ginN (ax ay bx b_y l1 h1 l2 h2 : Int) : Prop := ((l1 < ax ∨ l1 < bx) ∧ (ax < h1 ∨ bx < h1) ∧ (l2 < ay ∨ l2 < b_y) ∧ (ay < h2 ∨ b_y < h2)) ∧ ((ax = bx ∧ ay = b_y) ∨ ((tN ax ay bx b_y l1 l2 < 0 ∨ tN ax ay bx b_y h1 l2 < 0 ∨ tN ax ay bx b_y h1 h2 < 0 ∨ tN ax ay bx b_y l1 h2 < 0) ∧ (0 < tN ax ay bx b_y l1 l2 ∨ 0 < tN ax ay bx b_y h1 l2 ∨ 0 < tN ax ay bx b_y h1 h2 ∨ 0 < tN ax ay bx b_y l1 h2)))
theorem gin_2 {ax ay bx b_y l1 h1 l2 h2 : Int} (k1 : l1 < h1) (k2 : l2 < h2) (d1 : bx - ax ≠ 0) (d2 : b_y - ay ≠ 0) : ginN ax ay bx b_y l1 h1 l2 h2 ↔ (0 < (axN ax (bx - ax) l1 h1).2.1 ∧ (axN ax (bx - ax) l1 h1).1 < (axN ax (bx - ax) l1 h1).2.2) ∧ (0 < (axN ay (b_y - ay) l2 h2).2.1 ∧ (axN ay (b_y - ay) l2 h2).1 < (axN ay (b_y - ay) l2 h2).2.2) ∧ (axN ax (bx - ax) l1 h1).1 * (axN ay (b_y - ay) l2 h2).2.2 < (axN ay (b_y - ay) l2 h2).2.1 * (axN ax (bx - ax) l1 h1).2.2 ∧ (axN ay (b_y - ay) l2 h2).1 * (axN ax (bx - ax) l1 h1).2.2 < (axN ax (bx - ax) l1 h1).2.1 * (axN ay (b_y - ay) l2 h2).2.2 := by
  unfold ginN axN tN
  generalize e1 : bx - ax = D1 at *
  generalize e2 : b_y - ay = D2 at *
  obtain rfl : bx = ax + D1 := by omega
  obtain rfl : b_y = ay + D2 := by omega
  rcases Int.lt_or_gt_of_ne d1 with z1 | z1 <;> rcases Int.lt_or_gt_of_ne d2 with z2 | z2
  · rw [if_neg (by omega), if_neg (by omega)]
    have f1 := Int.mul_pos (show 0 < -D1 by omega) (show 0 < h2 - l2 by omega)
    have f2 := Int.mul_pos (show 0 < -D2 by omega) (show 0 < h1 - l1 by omega)
    simp only [Int.mul_sub, Int.sub_mul, Int.mul_neg, Int.neg_mul, Int.mul_comm _ D1, Int.mul_comm _ D2] at *
    omega
  · rw [if_neg (by omega), if_pos (by omega)]
    have f1 := Int.mul_pos (show 0 < -D1 by omega) (show 0 < h2 - l2 by omega)
    have f2 := Int.mul_pos (show 0 < D2 by omega) (show 0 < h1 - l1 by omega)
    simp only [Int.mul_sub, Int.sub_mul, Int.mul_neg, Int.neg_mul, Int.mul_comm _ D1, Int.mul_comm _ D2] at *
    omega
  · rw [if_pos (by omega), if_neg (by omega)]
    have f1 := Int.mul_pos (show 0 < D1 by omega) (show 0 < h2 - l2 by omega)
    have f2 := Int.mul_pos (show 0 < -D2 by omega) (show 0 < h1 - l1 by omega)
    simp only [Int.mul_sub, Int.sub_mul, Int.mul_neg, Int.neg_mul, Int.mul_comm _ D1, Int.mul_comm _ D2] at *
    omega
  · rw [if_pos (by omega), if_pos (by omega)]
    have f1 := Int.mul_pos (show 0 < D1 by omega) (show 0 < h2 - l2 by omega)
    have f2 := Int.mul_pos (show 0 < D2 by omega) (show 0 < h1 - l1 by omega)
    simp only [Int.mul_sub, Int.sub_mul, Int.mul_neg, Int.neg_mul, Int.mul_comm _ D1, Int.mul_comm _ D2] at *
    omega
theorem gin_x {ax ay bx b_y l1 h1 l2 h2 : Int} (k1 : l1 < h1) (k2 : l2 < h2) (d1 : bx - ax ≠ 0) (d2 : b_y - ay = 0) : ginN ax ay bx b_y l1 h1 l2 h2 ↔ (0 < (axN ax (bx - ax) l1 h1).2.1 ∧ (axN ax (bx - ax) l1 h1).1 < (axN ax (bx - ax) l1 h1).2.2) ∧ l2 < ay ∧ ay < h2 := by
  unfold ginN axN tN
  generalize e1 : bx - ax = D1 at *
  obtain rfl : bx = ax + D1 := by omega
  obtain rfl : b_y = ay := by omega
  simp only [Int.sub_self, Int.zero_mul, Int.sub_zero]
  rcases Int.lt_or_gt_of_ne d1 with z1 | z1
  · rw [if_neg (by omega)]
    constructor
    · intro h; dsimp only; omega
    · intro h; dsimp only at h
      have f1 := Int.mul_pos (show 0 < -D1 by omega) (show 0 < h2 - b_y by omega)
      have f2 := Int.mul_pos (show 0 < -D1 by omega) (show 0 < b_y - l2 by omega)
      simp only [Int.mul_sub, Int.neg_mul] at *
      omega
  · rw [if_pos (by omega)]
    constructor
    · intro h; dsimp only; omega
    · intro h; dsimp only at h
      have f1 := Int.mul_pos (show 0 < D1 by omega) (show 0 < h2 - b_y by omega)
      have f2 := Int.mul_pos (show 0 < D1 by omega) (show 0 < b_y - l2 by omega)
      simp only [Int.mul_sub] at *
      omega
theorem gin_y {ax ay bx b_y l1 h1 l2 h2 : Int} (k1 : l1 < h1) (k2 : l2 < h2) (d1 : bx - ax = 0) (d2 : b_y - ay ≠ 0) : ginN ax ay bx b_y l1 h1 l2 h2 ↔ (l1 < ax ∧ ax < h1) ∧ 0 < (axN ay (b_y - ay) l2 h2).2.1 ∧ (axN ay (b_y - ay) l2 h2).1 < (axN ay (b_y - ay) l2 h2).2.2 := by
  unfold ginN axN tN
  generalize e1 : b_y - ay = D1 at *
  obtain rfl : b_y = ay + D1 := by omega
  obtain rfl : bx = ax := by omega
  simp only [Int.sub_self, Int.zero_mul, Int.zero_sub]
  rcases Int.lt_or_gt_of_ne d2 with z1 | z1
  · rw [if_neg (by omega)]
    constructor
    · intro h; dsimp only; omega
    · intro h; dsimp only at h
      have f1 := Int.mul_pos (show 0 < -D1 by omega) (show 0 < h1 - bx by omega)
      have f2 := Int.mul_pos (show 0 < -D1 by omega) (show 0 < bx - l1 by omega)
      simp only [Int.mul_sub, Int.neg_mul] at *
      omega
  · rw [if_pos (by omega)]
    constructor
    · intro h; dsimp only; omega
    · intro h; dsimp only at h
      have f1 := Int.mul_pos (show 0 < D1 by omega) (show 0 < h1 - bx by omega)
      have f2 := Int.mul_pos (show 0 < D1 by omega) (show 0 < bx - l1 by omega)
      simp only [Int.mul_sub] at *
      omega
def RQ (s : L4) (F Z : Int × Int) : Prop := R6 s.1 F.1 200 ∧ R6 s.2.1 F.2 200 ∧ R6 s.2.2.1 Z.1 200 ∧ R6 s.2.2.2 Z.2 200
theorem RQ_axF {fi la sz : Int64} {f l z : Int} {st : L4} {F Z : Int × Int} (hf : R6 fi f 200) (hl : R6 la l 200) (hz : R6 sz z 200) (h : RQ st F Z) : RQ (axF fi la sz st) (mxf F.1 F.2 f z) (mnf Z.1 Z.2 l z) := by
  obtain ⟨h1, h2, h3, h4⟩ := h
  have c1 := (h1.mul hz (by decide)).lt (hf.mul h2 (by decide))
  have c2 := (hl.mul h4 (by decide)).lt (h3.mul hz (by decide))
  unfold axF mxf mnf RQ
  simp only [c1, c2]
  by_cases k1 : F.1 * z < f * F.2 <;> by_cases k2 : l * Z.2 < Z.1 * z <;> simp only [k1, k2, if_true, if_false]
  · exact ⟨hf, hz, hl, hz⟩
  · exact ⟨hf, hz, h3, h4⟩
  · exact ⟨h1, h2, hl, hz⟩
  · exact ⟨h1, h2, h3, h4⟩
theorem axT_I {p d low high : Int32} {P D LO HI : Int} {st : L4} {F Z : Int × Int} (hp : R3 p P 60) (hd : R3 d D 120) (hl : R3 low LO 60) (hh : R3 high HI 60) (hn : D ≠ 0) (h : RQ st F Z) : ∃ st', axT p d low high st = some st' ∧ RQ st' (mxf F.1 F.2 (axN P D LO HI).1 (axN P D LO HI).2.2) (mnf Z.1 Z.2 (axN P D LO HI).2.1 (axN P D LO HI).2.2) := by
  have hd0 : ¬ d = 0 := fun e => hn ((hd.eq r3_0).mp e)
  unfold axT axN
  rw [if_neg (by simp [hd0])]
  by_cases k : 0 < d
  · rw [if_pos k, if_pos ((r3_0.lt hd).mp k)]
    exact ⟨_, rfl, RQ_axF ((hl.sub hp (by decide)).wk (by decide)).up ((hh.sub hp (by decide)).wk (by decide)).up (hd.wk (by decide)).up h⟩
  · rw [if_neg k, if_neg (fun z => k ((r3_0.lt hd).mpr z))]
    exact ⟨_, rfl, RQ_axF ((hp.sub hh (by decide)).wk (by decide)).up ((hp.sub hl (by decide)).wk (by decide)).up ((hd.neg (by decide)).wk (by decide)).up h⟩
theorem axN_p {P D LO HI : Int} (h : LO < HI) (hn : D ≠ 0) : 0 < (axN P D LO HI).2.2 ∧ (axN P D LO HI).1 < (axN P D LO HI).2.1 := by
  unfold axN
  split <;> dsimp only <;> omega
theorem RQ_0 : RQ (0, 1, 1, 1) (0, 1) (1, 1) := ⟨⟨by decide, by decide⟩, ⟨by decide, by decide⟩, ⟨by decide, by decide⟩, ⟨by decide, by decide⟩⟩
theorem ins_I {a : Nat → Nat → Int32} {c : Nat} {ax ay bx by_ : Int32} {AX AY BX BY L1 H1 L2 H2 : Int} (h1 : R3 ax AX 60) (h2 : R3 ay AY 60) (h3 : R3 bx BX 60) (h4 : R3 by_ BY 60) (k1 : R3 (a 12 c) L1 60) (k2 : R3 (a 14 c) H1 60) (k3 : R3 (a 13 c) L2 60) (k4 : R3 (a 15 c) H2 60) (g1 : L1 < H1) (g2 : L2 < H2) : insF a c ax ay bx by_ = true ↔ ginN AX AY BX BY L1 H1 L2 H2 := by
  unfold insF
  have dx := h3.sub h1 (by decide)
  have dy := h4.sub h2 (by decide)
  by_cases z1 : BX - AX = 0
  · by_cases z2 : BY - AY = 0
    · rw [if_pos (by simp [(h1.eq h3).mpr (by omega), (h2.eq h4).mpr (by omega)])]
      unfold wit ginN
      have r1 : R3 1 1 1 := ⟨by decide, by decide⟩
      simp only [Bool.and_eq_true, Bool.not_eq_true', decide_eq_false_iff_not, h1.lt (k1.add r1 (by decide)), (k2.sub r1 (by decide)).lt h1, h2.lt (k3.add r1 (by decide)), (k4.sub r1 (by decide)).lt h2]
      constructor
      · intro h; exact ⟨by omega, Or.inl (by omega)⟩
      · intro h; omega
    · rw [if_neg (by simp; intro _ e; exact z2 (by have := (h2.eq h4).mp e; omega))]
      have hd0 : bx - ax = 0 := (dx.eq r3_0).mpr z1
      rw [gin_y g1 g2 z1 z2]
      have e1 : axT ax (bx - ax) (a 12 c) (a 14 c) (0, 1, 1, 1) = if (!decide (a 12 c < ax) || !decide (ax < a 14 c)) = true then none else some (0, 1, 1, 1) := by
        unfold axT; rw [if_pos (by simp [hd0])]
      rw [e1]
      by_cases q : L1 < AX ∧ AX < H1
      · rw [if_neg (by simp [(k1.lt h1).mpr q.1, (h1.lt k2).mpr q.2])]
        obtain ⟨s2, e2, r2⟩ := axT_I h2 dy k3 k4 z2 RQ_0
        dsimp only
        rw [e2]
        dsimp only
        obtain ⟨p1, p2⟩ := axN_p (P := AY) g2 z2
        rw [decide_eq_true_eq, (r2.1.mul r2.2.2.2 (by decide)).lt (r2.2.2.1.mul r2.2.1 (by decide)), ax1 p1 p2]
        exact ⟨fun h => ⟨q, h⟩, fun h => h.2⟩
      · rw [if_pos]
        · dsimp only
          exact ⟨fun h => (by cases h), fun h => absurd h.1 q⟩
        · simp only [Bool.or_eq_true, Bool.not_eq_true', decide_eq_false_iff_not, k1.lt h1, h1.lt k2]
          omega
  · rw [if_neg (by simp; intro e; exact absurd (by have := (h1.eq h3).mp e; omega) z1)]
    obtain ⟨s1, e1, r1⟩ := axT_I h1 dx k1 k2 z1 RQ_0
    rw [e1]
    dsimp only
    obtain ⟨p1, p2⟩ := axN_p (P := AX) g1 z1
    by_cases z2 : BY - AY = 0
    · rw [gin_x g1 g2 z1 z2]
      have hd0 : by_ - ay = 0 := (dy.eq r3_0).mpr z2
      have e2 : axT ay (by_ - ay) (a 13 c) (a 15 c) s1 = if (!decide (a 13 c < ay) || !decide (ay < a 15 c)) = true then none else some s1 := by
        unfold axT; rw [if_pos (by simp [hd0])]
      rw [e2]
      by_cases q : L2 < AY ∧ AY < H2
      · rw [if_neg (by simp [(k3.lt h2).mpr q.1, (h2.lt k4).mpr q.2])]
        dsimp only
        rw [decide_eq_true_eq, (r1.1.mul r1.2.2.2 (by decide)).lt (r1.2.2.1.mul r1.2.1 (by decide)), ax1 p1 p2]
        exact ⟨fun h => ⟨h, q⟩, fun h => h.1⟩
      · rw [if_pos]
        · dsimp only
          exact ⟨fun h => (by cases h), fun h => absurd h.2 q⟩
        · simp only [Bool.or_eq_true, Bool.not_eq_true', decide_eq_false_iff_not, k3.lt h2, h2.lt k4]
          omega
    · obtain ⟨s2, e2, r2⟩ := axT_I h2 dy k3 k4 z2 r1
      rw [e2]
      dsimp only
      obtain ⟨p3, p4⟩ := axN_p (P := AY) g2 z2
      rw [decide_eq_true_eq, (r2.1.mul r2.2.2.2 (by decide)).lt (r2.2.2.1.mul r2.2.1 (by decide)), ax2 p1 p3 p2 p4, gin_2 g1 g2 z1 z2]
theorem lt_mx (l x y : Int32) : l < mx x y ↔ l < x ∨ l < y := by
  simp only [mx, Int32.lt_iff_toInt_lt]
  split <;> omega
theorem mn_lt (x y h : Int32) : mn x y < h ↔ x < h ∨ y < h := by
  simp only [mn, Int32.lt_iff_toInt_lt]
  split <;> omega
theorem gin_I {a : Nat → Nat → Int32} {c : Nat} {ax ay bx by_ : Int32} {AX AY BX BY L1 H1 L2 H2 : Int} (h1 : R3 ax AX 60) (h2 : R3 ay AY 60) (h3 : R3 bx BX 60) (h4 : R3 by_ BY 60) (k1 : R3 (a 12 c) L1 60) (k2 : R3 (a 14 c) H1 60) (k3 : R3 (a 13 c) L2 60) (k4 : R3 (a 15 c) H2 60) : gin a c ax ay bx by_ = true ↔ ginN AX AY BX BY L1 H1 L2 H2 := by
  have w : ∀ {x : Int32} {z : Int}, R3 x z 60 → R3 x z 130 := fun h => h.wk (by decide)
  have t1 : R3 (trn ax ay bx by_ (a 12 c) (a 13 c)) (tN AX AY BX BY L1 L2) 135200 := r3_trn (w h1) (w h2) (w h3) (w h4) (w k1) (w k3)
  have t2 : R3 (trn ax ay bx by_ (a 14 c) (a 13 c)) (tN AX AY BX BY H1 L2) 135200 := r3_trn (w h1) (w h2) (w h3) (w h4) (w k2) (w k3)
  have t3 : R3 (trn ax ay bx by_ (a 14 c) (a 15 c)) (tN AX AY BX BY H1 H2) 135200 := r3_trn (w h1) (w h2) (w h3) (w h4) (w k2) (w k4)
  have t4 : R3 (trn ax ay bx by_ (a 12 c) (a 15 c)) (tN AX AY BX BY L1 H2) 135200 := r3_trn (w h1) (w h2) (w h3) (w h4) (w k1) (w k4)
  unfold gin ginN
  simp only [Bool.or_eq_true, Bool.not_eq_true', decide_eq_false_iff_not, lt_mx, mn_lt, k1.lt h1, k1.lt h3, h1.lt k2, h3.lt k2, k3.lt h2, k3.lt h4, h2.lt k4, h4.lt k4]
  by_cases q : ((L1 < AX ∨ L1 < BX) ∧ (AX < H1 ∨ BX < H1) ∧ (L2 < AY ∨ L2 < BY) ∧ (AY < H2 ∨ BY < H2))
  · rw [if_neg (by omega)]
    by_cases z : AX = BX ∧ AY = BY
    · rw [if_pos (by simp [(h1.eq h3).mpr z.1, (h2.eq h4).mpr z.2])]
      exact ⟨fun _ => ⟨q, Or.inl z⟩, fun _ => rfl⟩
    · rw [if_neg (by simp only [Bool.and_eq_true, decide_eq_true_eq, h1.eq h3, h2.eq h4]; exact z)]
      simp only [Bool.and_eq_true, decide_eq_true_eq, lt_mx, mn_lt, t1.lt r3_0, t2.lt r3_0, t3.lt r3_0, t4.lt r3_0, r3_0.lt t1, r3_0.lt t2, r3_0.lt t3, r3_0.lt t4]
      constructor
      · intro h; exact ⟨q, Or.inr (by omega)⟩
      · intro h; rcases h.2 with h | h
        · exact absurd h z
        · omega
  · rw [if_pos (by omega)]
    exact ⟨fun h => (by cases h), fun h => absurd h.1 q⟩
theorem sh_eq {a : Nat → Nat → Int32} {nc : Nat} (hc : ∀ c, c < nc → pt (a 12 c) (a 13 c) = true ∧ pt (a 14 c) (a 15 c) = true ∧ a 12 c < a 14 c ∧ a 13 c < a 15 c) {ax ay bx by_ : Int32} (hA : pt ax ay = true) (hB : pt bx by_ = true) : ∀ n, n ≤ nc → gsh a ax ay bx by_ n = shF a ax ay bx by_ n := by
  intro n
  induction n with
  | zero => intro _; rfl
  | succ k ih =>
    intro hk
    obtain ⟨c1, c2, c3, c4⟩ := hc k (by omega)
    obtain ⟨h1, h2⟩ := pt_R hA
    obtain ⟨h3, h4⟩ := pt_R hB
    obtain ⟨k1, k3⟩ := pt_R c1
    obtain ⟨k2, k4⟩ := pt_R c2
    rw [gsh, shF, ih (by omega)]
    have : gin a k ax ay bx by_ = insF a k ax ay bx by_ := by
      rw [Bool.eq_iff_iff, gin_I h1 h2 h3 h4 k1 k2 k3 k4, ins_I h1 h2 h3 h4 k1 k2 k3 k4 ((k1.lt k2).mp c3) ((k3.lt k4).mp c4)]
    rw [this]
theorem r3_nI {n : Nat} (h : n < 2 ^ 31) : R3 (nI n) n n := ⟨Int32.toInt_ofNat_of_lt h, by omega⟩
theorem nI_sq {r : Nat} (hr : r ≤ 2000) : R3 (nI r * nI r) ((r * r : Nat) : Int) 4000000 := by
  have h := (r3_nI (n := r) (by omega)).mul (r3_nI (n := r) (by omega)) (by have := Nat.mul_le_mul hr hr; omega)
  have e : ((r * r : Nat) : Int) = (r : Int) * (r : Int) := by simp
  rw [e]
  exact h.wk (by have := Nat.mul_le_mul hr hr; omega)
theorem rt_eq {N R : Nat} (hN : N < 2 ^ 31) (hR : N ≤ R * R) (hR' : R ≤ 1024) : ∀ n r, r ≤ R → R ≤ r + n → (∀ j, r ≤ j → j < R → j * j < N) → rtf (nI N) n r = R := by
  intro n
  induction n with
  | zero => intro r h1 h2 _; rw [rtf]; omega
  | succ n ih =>
    intro r h1 h2 h3
    have c := (nI_sq (r := r) (by omega)).lt (r3_nI hN)
    rw [rtf]
    by_cases e : r = R
    · subst e
      rw [if_neg]
      rw [decide_eq_true_eq, c]
      omega
    · rw [if_pos]
      · exact ih (r + 1) (by omega) (by omega) (fun j hj => h3 j (by omega))
      · rw [decide_eq_true_eq, c]
        have := h3 r (Nat.le_refl _) (by omega)
        omega
theorem rb_inv {N : Nat} (h0 : 0 < N) (hN : N ≤ 720000) : ∀ k, k ≤ 10 → ∃ r : Nat, rb (nI N) k = nI r ∧ r * r < N ∧ N ≤ (r + 2 ^ (10 - k)) * (r + 2 ^ (10 - k)) ∧ r + 2 ^ (10 - k) ≤ 1024 := by
  intro k
  induction k with
  | zero => intro _; exact ⟨0, rfl, by omega, by simp; omega, by simp⟩
  | succ k ih =>
    intro hk
    obtain ⟨r, e1, e2, e3, e4⟩ := ih (by omega)
    have ep : 2 ^ (10 - k) = 2 ^ (9 - k) + 2 ^ (9 - k) := by
      rw [show 10 - k = (9 - k) + 1 by omega, Nat.pow_succ]; omega
    have hpw : 0 < 2 ^ (9 - k) := Nat.two_pow_pos _
    have eb : bitk k = nI (2 ^ (9 - k)) := by unfold bitk; rw [if_pos (by omega)]
    have et : rb (nI N) k + bitk k = nI (r + 2 ^ (9 - k)) := by rw [e1, eb]; exact (Int32.ofNat_add _ _).symm
    have c := (nI_sq (r := r + 2 ^ (9 - k)) (by omega)).lt (r3_nI (n := N) (by omega))
    rw [rb, et]
    rw [show 10 - (k + 1) = 9 - k by omega]
    by_cases z : (r + 2 ^ (9 - k)) * (r + 2 ^ (9 - k)) < N
    · rw [if_pos (c.mpr (by omega))]
      refine ⟨r + 2 ^ (9 - k), rfl, z, ?_, by omega⟩
      rw [Nat.add_assoc, ← ep]
      exact e3
    · rw [if_neg (fun q => z (by have := c.mp q; omega)), e1]
      exact ⟨r, rfl, e2, by omega, by omega⟩
theorem rup_eq {N : Nat} (hN : N ≤ 720000) : ∃ R : Nat, R ≤ 1000 ∧ rup (nI N) = nI R ∧ rtf (nI N) 1000 0 = R := by
  by_cases h0 : N = 0
  · subst h0
    refine ⟨0, by omega, by decide, ?_⟩
    exact rt_eq (by omega) (by omega) (by omega) 1000 0 (by omega) (by omega) (fun j _ h => by omega)
  · obtain ⟨r, e1, e2, e3, e4⟩ := rb_inv (by omega) hN 10 (Nat.le_refl _)
    have e3 : N ≤ (r + 1) * (r + 1) := e3
    have hr : r < 900 := Nat.lt_of_not_le fun q => by have := Nat.mul_le_mul q q; omega
    refine ⟨r + 1, by omega, ?_, ?_⟩
    · unfold rup
      rw [if_pos, e1]
      · exact (Int32.ofNat_add r 1).symm
      · exact (r3_0.lt (r3_nI (by omega))).mpr (by omega)
    · refine rt_eq (by omega) e3 (by omega) 1000 0 (by omega) (by omega) (fun j _ hj => ?_)
      have := Nat.mul_le_mul (show j ≤ r by omega) (show j ≤ r by omega)
      omega
/-- the wind's part of a way -/
theorem al_bd {g : Nat → Int32} {dx dy : Int32} {D1 D2 : Int} (h16 : wit (g 16) (-9) 9 = true) (h17 : wit (g 17) (-9) 9 = true) (k1 : R3 dx D1 120) (k2 : R3 dy D2 120) : ∃ w : Nat, w ≤ 300 ∧ (if g 16 * dx + g 17 * dy < 0 then -(g 16 * dx + g 17 * dy) / 10 else 0) = nI w := by
  have e1 := wit_I (L := -9) (H := 9) (by decide) (by decide) h16
  have e2 := wit_I (L := -9) (H := 9) (by decide) (by decide) h17
  have r16 : R3 (g 16) (g 16).toInt 9 := R3.of (by omega)
  have r17 : R3 (g 17) (g 17).toInt 9 := R3.of (by omega)
  have ra := (r16.mul k1 (by decide)).add (r17.mul k2 (by decide)) (by decide)
  generalize g 16 * dx + g 17 * dy = al at *
  generalize (g 16).toInt * D1 + (g 17).toInt * D2 = AL at *
  by_cases z : al < 0
  · rw [if_pos z]
    have zA : AL < 0 := (ra.lt r3_0).mp z
    have rn := ra.neg (by decide)
    obtain ⟨m, hm⟩ : ∃ m : Nat, -AL = m := ⟨(-AL).toNat, by omega⟩
    have hm2 : m ≤ 2160 := by have := ra.2; omega
    refine ⟨m / 10, by omega, ?_⟩
    have en : -al = nI m := Int32.toInt_inj.mp (by rw [rn.1, hm]; exact (Int32.toInt_ofNat_of_lt (by omega)).symm)
    rw [en]
    exact (Int32.ofNat_div (a := m) (b := 10) (by omega) (by decide)).symm
  · rw [if_neg z]
    exact ⟨0, by omega, rfl⟩
theorem nI_add' (a b : Nat) : nI (a + b) = nI a + nI b := Int32.ofNat_add a b
/-- a way that goes into no CLOSED place: what it costs -/
theorem leg_v {g : Nat → Int32} {ax ay bx by_ : Int32} (hsq : ∃ s : Nat, s ≤ 720000 ∧ sqF ax ay bx by_ = nI s) (h16 : wit (g 16) (-9) 9 = true) (h17 : wit (g 17) (-9) 9 = true) (hA : pt ax ay = true) (hB : pt bx by_ = true) : ∃ v : Nat, v ≤ 1300 ∧ cst g (bx - ax) (by_ - ay) = nI v ∧ nI (rtf (sqF ax ay bx by_) 1000 0) + (if alF g ax ay bx by_ < 0 then -alF g ax ay bx by_ / 10 else 0) = nI v := by
  obtain ⟨h1, h2⟩ := pt_R hA
  obtain ⟨h3, h4⟩ := pt_R hB
  obtain ⟨N, hN, eN⟩ := hsq
  obtain ⟨R, hR, e1, e2⟩ := rup_eq hN
  obtain ⟨w, hw, e3⟩ := al_bd h16 h17 (h3.sub h1 (by decide)) (h4.sub h2 (by decide))
  refine ⟨R + w, by omega, ?_, ?_⟩
  · unfold cst
    rw [show (100 * ((bx - ax) * (bx - ax) + (by_ - ay) * (by_ - ay)) : Int32) = nI N from eN, e1, nI_add' R w, ← e3]
    split
    · rfl
    · exact (Int32.add_zero _).symm
  · rw [eN, e2, nI_add' R w, ← e3]
    rfl
theorem legF_v {g : Nat → Int32} {a : Nat → Nat → Int32} {nc : Nat} (hc : ∀ c, c < nc → pt (a 12 c) (a 13 c) = true ∧ pt (a 14 c) (a 15 c) = true ∧ a 12 c < a 14 c ∧ a 13 c < a 15 c) (h16 : wit (g 16) (-9) 9 = true) (h17 : wit (g 17) (-9) 9 = true) {ax ay bx by_ : Int32} (hA : pt ax ay = true) (hB : pt bx by_ = true) : (gsh a ax ay bx by_ nc = true ∧ legF g a nc ax ay bx by_ = 1000000) ∨ (gsh a ax ay bx by_ nc = false ∧ ∃ v : Nat, v ≤ 1300 ∧ cst g (bx - ax) (by_ - ay) = nI v ∧ legF g a nc ax ay bx by_ = nI v) := by
  have e := sh_eq hc hA hB nc (Nat.le_refl _)
  unfold legF
  rw [← e]
  cases z : gsh a ax ay bx by_ nc
  · obtain ⟨v, hv, e1, e2⟩ := leg_v (g := g) (sqF_le hA hB) h16 h17 hA hB
    exact Or.inr ⟨rfl, v, hv, e1, by rw [if_neg (by simp)]; exact e2⟩
  · exact Or.inl ⟨rfl, by rw [if_pos rfl]⟩
theorem legeq_ok {g : Nat → Int32} {a : Nat → Nat → Int32} {nc : Nat} (hc : ∀ c, c < nc → pt (a 12 c) (a 13 c) = true ∧ pt (a 14 c) (a 15 c) = true ∧ a 12 c < a 14 c ∧ a 13 c < a 15 c) (h16 : wit (g 16) (-9) 9 = true) (h17 : wit (g 17) (-9) 9 = true) : LegEq g a nc := by
  intro ax ay bx by_ hA hB
  unfold lgk
  rcases legF_v hc h16 h17 hA hB with ⟨h1, h2⟩ | ⟨h1, v, hv, h2, h3⟩
  · rw [if_pos h1, h2]
  · rw [if_neg (by simp [h1]), h2, h3]
theorem legC_ok {g : Nat → Int32} {a : Nat → Nat → Int32} {nc : Nat} (hc : ∀ c, c < nc → pt (a 12 c) (a 13 c) = true ∧ pt (a 14 c) (a 15 c) = true ∧ a 12 c < a 14 c ∧ a 13 c < a 15 c) (h16 : wit (g 16) (-9) 9 = true) (h17 : wit (g 17) (-9) 9 = true) (ax ay bx by_ : Int32) : legC g a nc ax ay bx by_ = legA g a nc ax ay bx by_ := by
  unfold legC legA
  by_cases z : (!(pt ax ay && pt bx by_)) = true
  · rw [if_pos z, if_pos z]
  · rw [if_neg z, if_neg z]
    have z1 : pt ax ay = true ∧ pt bx by_ = true := by revert z; cases pt ax ay <;> cases pt bx by_ <;> simp
    rcases legF_v hc h16 h17 z1.1 z1.2 with ⟨h1, h2⟩ | ⟨h1, v, hv, h2, h3⟩
    · rw [if_pos h1, if_pos (by rw [h2]; decide)]
    · rw [if_neg (by simp [h1]), h3, h2, if_neg]
      rw [decide_eq_true_eq]
      have e : (1000000 : Int32) = nI 1000000 := rfl
      rw [e, (r3_nI (by omega)).eq (r3_nI (by omega))]
      omega
