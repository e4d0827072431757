/-- the number whose bits are P, and how many there are -/
def bmk (P : Nat → Bool) : Nat → Nat
  | 0 => 0
  | k + 1 => bmk P k ||| (if P k = true then 2 ^ k else 0)
def cnN (P : Nat → Bool) : Nat → Nat
  | 0 => 0
  | k + 1 => cnN P k + (if P k = true then 1 else 0)
theorem bmk_bit (P : Nat → Bool) (k j : Nat) : (bmk P k).testBit j = (decide (j < k) && P j) := by
  induction k with
  | zero => simp [bmk]
  | succ k ih =>
    rw [bmk, Nat.testBit_or, ih]
    by_cases e : j = k
    · subst e
      cases h : P j
      · simp
      · simp [Nat.testBit_two_pow_self]
    · have h1 : (if P k = true then 2 ^ k else 0).testBit j = false := by
        split
        · exact Nat.testBit_two_pow_of_ne (Ne.symm e)
        · exact Nat.zero_testBit _
      rw [h1, Bool.or_false]
      have : (j < k) ↔ (j < k + 1) := by omega
      simp only [this]
theorem bmk_lt (P : Nat → Bool) (k : Nat) : bmk P k < 2 ^ k := Nat.lt_pow_two_of_testBit _ (fun i hi => by rw [bmk_bit]; simp; omega)
theorem cnN_cg {P Q : Nat → Bool} {n : Nat} (h : ∀ j, j < n → P j = Q j) : cnN P n = cnN Q n := by
  induction n with
  | zero => rfl
  | succ k ih => rw [cnN, cnN, ih (fun j hj => h j (by omega)), h k (by omega)]
theorem cnN_le (P : Nat → Bool) (n : Nat) : cnN P n ≤ n := by
  induction n with
  | zero => exact Nat.le_refl _
  | succ k ih => rw [cnN]; split <;> omega
theorem cnN_top {P : Nat → Bool} {n m : Nat} (hm : n ≤ m) (h : ∀ j, n ≤ j → P j = false) : cnN P m = cnN P n := by
  induction m with
  | zero => rw [show n = 0 by omega]
  | succ k ih =>
    by_cases e : n = k + 1
    · rw [e]
    · rw [cnN, ih (by omega), h k (by omega)]; rfl
theorem pcn_cn (S k : Nat) : pcn S k = cnN S.testBit k := by
  induction k with
  | zero => rfl
  | succ k ih => rw [pcn, cnN, ih]
theorem shl12 : ∀ n, n ≤ 12 → (1 : Int32) <<< (nI n &&& 31) = nI (2 ^ n) := by decide
theorem seb_bm (g : Nat → Int32) (a : Nat → Nat → Int32) (np v : Nat) : ∀ k, k ≤ 12 → seb g a np v k = nI (bmk (fun p => sn g a np (a 9 v) (a 10 v) p) k) := by
  intro k
  induction k with
  | zero => intro _; rfl
  | succ k ih =>
    intro hk
    rw [seb, bmk, ih (by omega), shl12 k (by omega), ← nx_or]
    congr 1
    split <;> rfl
theorem wtf_bm (g : Nat → Int32) (a : Nat → Nat → Int32) (np p : Nat) : ∀ k, k ≤ 12 → wtf g a np p k = nI (bmk (fun v => sn g a np (a 9 v) (a 10 v) p) k) := by
  intro k
  induction k with
  | zero => intro _; rfl
  | succ k ih =>
    intro hk
    rw [wtf, bmk, ih (by omega), shl12 k (by omega), ← nx_or]
    split
    · rfl
    · rw [show nI 0 = 0 from rfl, Int32.or_zero]
theorem tmn_n {g : Nat → Int32} {a : Nat → Nat → Int32} {np p S : Nat} (hnp : np ≤ 12) (hp : p < np) (hS : S < 1024) : ∀ k, k ≤ 10 → tmn (nI S) (sbr g a np) p k = nI (cnN (fun v => S.testBit v && sn g a np (a 9 v) (a 10 v) p) k) := by
  intro k
  induction k with
  | zero => intro _; rfl
  | succ k ih =>
    intro hk
    rw [tmn, cnN, ih (by omega)]
    have hb : bmk (fun p => sn g a np (a 9 k) (a 10 k) p) np < 2 ^ 31 := Nat.lt_of_lt_of_le (bmk_lt _ np) (Nat.pow_le_pow_right (by omega) (by omega))
    have e1 : sbr g a np k >>> (nI p &&& 31) &&& 1 = nI (if sn g a np (a 9 k) (a 10 k) p = true then 1 else 0) := by
      rw [sbr, seb_bm g a np k np hnp, bit_val hb (by omega), bmk_bit]
      simp [hp]
    rw [e1]
    simp only [bit_iff (S := S) (b := k) (by omega) (by omega)]
    rw [show ∀ x y : Nat, nI (x + y) = nI x + nI y from nI_add']
    congr 1
    cases S.testBit k
    · rw [if_neg (by simp), if_neg (by simp)]; rfl
    · rw [if_pos rfl, Bool.true_and]
theorem bct_n {g : Nat → Int32} {a : Nat → Nat → Int32} {np p S nv : Nat} (hnv : nv ≤ 10) (hS : S < 1024) : bct (wts g a np nv p &&& nI S) = nI (cnN (fun v => S.testBit v && sn g a np (a 9 v) (a 10 v) p) nv) := by
  rw [wts, wtf_bm g a np p nv (by omega), nx_and, bct_pc _ (Nat.lt_of_le_of_lt Nat.and_le_right hS), pcn_cn]
  congr 1
  rw [cnN_top (n := nv) hnv]
  · refine cnN_cg (fun j hj => ?_)
    rw [Nat.testBit_and, bmk_bit, decide_eq_true hj, Bool.true_and, Bool.and_comm]
  · intro j hj
    rw [Nat.testBit_and, bmk_bit, decide_eq_false (by omega)]
    simp
theorem lts_tms {g : Nat → Int32} {a : Nat → Nat → Int32} {np S nv : Nat} (hnp : np ≤ 12) (hnv : nv ≤ 10) (hS : S < 1024) : ∀ k, k ≤ np → (k = 0 ∧ lts (wts g a np nv) (nI S) k = 10 ∧ tms (nI S) (sbr g a np) nv k = 1000000) ∨ lts (wts g a np nv) (nI S) k = tms (nI S) (sbr g a np) nv k := by
  intro k
  induction k with
  | zero => intro _; exact Or.inl ⟨rfl, rfl, rfl⟩
  | succ k ih =>
    intro hk
    right
    rw [lts, tms, tmn_n hnp (by omega) hS nv hnv, bct_n hnv hS, mn]
    rcases ih (by omega) with ⟨-, h1, h2⟩ | h
    · have hc := cnN_le (fun v => S.testBit v && sn g a np (a 9 v) (a 10 v) k) nv
      generalize cnN (fun v => S.testBit v && sn g a np (a 9 v) (a 10 v) k) nv = c at hc ⊢
      have q : nI c < 1000000 := by rw [show (1000000 : Int32) = nI 1000000 from rfl, nI_ltI (by omega) (by omega)]; omega
      rw [h1, h2, if_pos q]
      by_cases z : nI c < 10
      · rw [if_pos z]
      · rw [if_neg z]
        rw [show (10 : Int32) = nI 10 from rfl, nI_ltI (by omega) (by omega)] at z
        exact (show (10 : Int32) = nI 10 from rfl).trans (congrArg nI (by omega))
    · rw [h]
theorem lt_k3 {g : Nat → Int32} {a : Nat → Nat → Int32} {np S nv : Nat} (hnp : np ≤ 12) (hnv : nv ≤ 10) (hS : S < 1024) {k : Int32} (hk : wit k 1 3 = true) : decide (lts (wts g a np nv) (nI S) np < k) = decide (tms (nI S) (sbr g a np) nv np < k) := by
  rcases lts_tms (g := g) (a := a) hnp hnv hS np (Nat.le_refl _) with ⟨-, h1, h2⟩ | h
  · have := wit_I (L := 1) (H := 3) (by decide) (by decide) hk
    rw [h1, h2, decide_eq_false, decide_eq_false]
    · rw [Int32.lt_iff_toInt_lt]; have : (1000000 : Int32).toInt = 1000000 := by decide
      omega
    · rw [Int32.lt_iff_toInt_lt]; have : (10 : Int32).toInt = 10 := by decide
      omega
  · rw [h]
theorem bits10_n {S : Nat} (hS : S < 1024) : ∀ k, k ≤ 10 → bits10 (nI S) k = nI (pcn S k) := by
  intro k
  induction k with
  | zero => intro _; rfl
  | succ k ih => intro hk; rw [bits10, pcn, ih (by omega), bit_val (by omega) (by omega), nI_add']
theorem scv_eq {g : Nat → Int32} {a : Nat → Nat → Int32} {np nv : Nat} (hnp : np ≤ 12) (hnv : nv ≤ 10) {k : Int32} (hk : wit k 1 3 = true) : ∀ i, i ≤ 1024 → (cvr (sbr g a np) nv np k i = -9 ∧ scv (wts g a np nv) np k i = (-9, 11)) ∨ ∃ j, j < i ∧ cvr (sbr g a np) nv np k i = nI j ∧ scv (wts g a np nv) np k i = (nI j, nI (pcn j 10)) := by
  intro i
  induction i with
  | zero => intro _; exact Or.inl ⟨rfl, rfl⟩
  | succ i ih =>
    intro hi
    have hS : i < 1024 := by omega
    have e0 := lt_k3 (g := g) (a := a) hnp hnv hS hk
    have hc := cnN_le i.testBit 10
    rw [← pcn_cn] at hc
    rw [cvr, scv, bct_pc i hS, bits10_n hS 10 (Nat.le_refl _), e0]
    by_cases z : tms (nI i) (sbr g a np) nv np < k
    · rw [if_neg (fun h => h.2 z), if_neg (by simp [z])]
      rcases ih (by omega) with h | ⟨j, hj, h⟩
      · exact Or.inl h
      · exact Or.inr ⟨j, by omega, h⟩
    · rcases ih (by omega) with ⟨h1, h2⟩ | ⟨j, hj, h1, h2⟩
      · rw [h1, h2, if_pos ⟨Or.inl rfl, z⟩, if_pos]
        · exact Or.inr ⟨i, by omega, rfl, rfl⟩
        · have : nI (pcn i 10) < 11 := by rw [show (11 : Int32) = nI 11 from rfl, nI_ltI (by omega) (by omega)]; omega
          simp [z, this]
      · have hn : ¬ (nI j = -9) := fun e => by
          have e2 := congrArg Int32.toInt e
          rw [show (nI j).toInt = (j : Int) from Int32.toInt_ofNat_of_lt (by omega)] at e2
          have : (-9 : Int32).toInt = -9 := by decide
          omega
        rw [h1, h2, bits10_n (by omega) 10 (Nat.le_refl _)]
        by_cases y : nI (pcn i 10) < nI (pcn j 10)
        · rw [if_pos ⟨Or.inr y, z⟩, if_pos (by simp [z, y])]
          exact Or.inr ⟨i, by omega, rfl, rfl⟩
        · rw [if_neg (fun h => h.1.elim hn y), if_neg (by simp [y])]
          exact Or.inr ⟨j, by omega, rfl, rfl⟩
theorem cov_ok {g : Nat → Int32} {a : Nat → Nat → Int32} {np nv : Nat} (hnp : np ≤ 12) (hnv : nv ≤ 10) (k : Int32) : covC g a np nv k = covF g a np nv k := by
  unfold covC covF
  by_cases z : (!wit k 1 3) = true
  · rw [if_pos z, if_pos z]
  · rw [if_neg z, if_neg z]
    rcases scv_eq (g := g) (a := a) hnp hnv (b_not z) (2 ^ nv) (pow_le nv hnv) with ⟨h1, h2⟩ | ⟨j, hj, h1, h2⟩
    · rw [h1, h2]
    · rw [h1, h2]
theorem covs_ok {g : Nat → Int32} {a : Nat → Nat → Int32} {np nv : Nat} (hv : g 8 = nI nv) (hnp : np ≤ 12) (hnv : nv ≤ 10) (x k : Int32) : covsC g a np nv x k = covsF g a np nv x k := by
  unfold covsC covsF
  by_cases y : nset (g 8) x = true
  · rw [if_pos y, if_pos y]
  · rw [if_neg y, if_neg y]
    by_cases z : (!wit k 1 3) = true
    · rw [if_pos z, if_pos z]
    · rw [if_neg z, if_neg z]
      rw [hv] at y
      obtain ⟨S, hS, rfl⟩ := nset_ix hnv (by simpa using y)
      have := pow_le nv hnv
      rw [lt_k3 hnp hnv (by omega) (b_not z)]
theorem tim_ok {g : Nat → Int32} {a : Nat → Nat → Int32} {np nv : Nat} (hv : g 8 = nI nv) (hnp : np ≤ 12) (hnv : nv ≤ 10) (x : Int32) : timC g a np nv x = timF g a np nv x := by
  unfold timC timF
  by_cases y : nset (g 8) x = true
  · rw [if_pos y, if_pos y]
  · rw [if_neg y, if_neg y]
    by_cases z : np = 0
    · rw [if_pos (decide_eq_true z), if_pos (decide_eq_true z)]
    · rw [if_neg (by simp [z]), if_neg (by simp [z])]
      rw [hv] at y
      obtain ⟨S, hS, rfl⟩ := nset_ix hnv (by simpa using y)
      have := pow_le nv hnv
      rcases lts_tms (g := g) (a := a) (S := S) hnp hnv (by omega) np (Nat.le_refl _) with ⟨h0, -⟩ | h
      · exact absurd h0 z
      · exact h
/-- proofs, counted up to a number -/
theorem pvn_n (g : Nat → Int32) (a : Nat → Nat → Int32) (np p k : Nat) : pvn g a np p k = nI (cnN (fun l => prv g a np l p) k) := by
  induction k with
  | zero => rfl
  | succ k ih => rw [pvn, cnN, ih, nI_add']; congr 1; split <;> rfl
theorem pvc_n (g : Nat → Int32) (a : Nat → Nat → Int32) (np p : Nat) {e : Nat} (he : e ≤ 100) : ∀ k, k ≤ 100 → pvc g a np p (nI e) k = nI (min (cnN (fun l => prv g a np l p) k) e) := by
  intro k
  induction k with
  | zero => intro _; rw [pvc, cnN, Nat.zero_min]; rfl
  | succ k ih =>
    intro hk
    have hc := cnN_le (fun l => prv g a np l p) k
    rw [pvc, cnN, ih (by omega)]
    simp only [nI_ltI (a := min (cnN (fun l => prv g a np l p) k) e) (b := e) (by omega) (by omega)]
    by_cases z : cnN (fun l => prv g a np l p) k < e
    · have h1 : min (cnN (fun l => prv g a np l p) k) e < e := by omega
      rw [decide_eq_true h1, Bool.true_and]
      cases hq : prv g a np k p
      · simp
      · simp only [if_true]
        rw [nI_1]
        congr 1
        omega
    · have h1 : ¬ min (cnN (fun l => prv g a np l p) k) e < e := by omega
      rw [decide_eq_false h1, Bool.false_and, if_neg (by simp)]
      congr 1
      split <;> omega
theorem prd_ok {g : Nat → Int32} {a : Nat → Nat → Int32} {np nl : Nat} (hnl : nl ≤ 20) (p : Int32) : prdC g a np nl p = prdF g a np nl p := by
  unfold prdC prdF
  split
  · rfl
  · have hc := cnN_le (fun l => prv g a np l (ix p)) nl
    rw [show (20 : Int32) = nI 20 from rfl, pvc_n g a np (ix p) (by omega) nl (by omega), pvn_n, Nat.min_eq_left (by omega)]
theorem pv_lt {g : Nat → Int32} {a : Nat → Nat → Int32} {np nl : Nat} (hnl : nl ≤ 20) {k : Int32} (hk : wit k 1 3 = true) (p : Nat) : decide (pvc g a np p k nl < k) = decide (pvn g a np p nl < k) := by
  have h := wit_I (L := 1) (H := 3) (by decide) (by decide) hk
  obtain ⟨e, he, rfl⟩ : ∃ e : Nat, e ≤ 3 ∧ k = nI e := ⟨k.toInt.toNat, by omega, Int32.toInt_inj.mp (by rw [show (nI k.toInt.toNat).toInt = (k.toInt.toNat : Int) from Int32.toInt_ofNat_of_lt (by omega)]; omega)⟩
  have hc := cnN_le (fun l => prv g a np l p) nl
  rw [pvc_n g a np p (by omega) nl (by omega), pvn_n]
  apply decide_eq_decide.mpr
  rw [nI_ltI (by omega) (by omega), nI_ltI (by omega) (by omega)]
  omega
theorem mis_ok {g : Nat → Int32} {a : Nat → Nat → Int32} {np nl : Nat} (hnl : nl ≤ 20) (i k : Int32) : misC g a np nl i k = misF g a np nl i k := by
  unfold misC misF
  by_cases z : (!wit k 1 3) = true
  · rw [if_pos z, if_pos z]
  · rw [if_neg z, if_neg z]
    have hk := b_not z
    have e1 : ∀ p, mscn g a np nl k p = msn g a np nl k p := fun p => by
      induction p with
      | zero => rfl
      | succ p ih => rw [mscn, msn, ih, pv_lt hnl hk]
    have e2 : ∀ n p, misc g a np nl i k n p = mis g a np nl i k n p := fun n => by
      induction n with
      | zero => intro p; rfl
      | succ n ih => intro p; rw [misc, mis, ih, e1, pv_lt hnl hk]
    exact e2 np 0
