def R_law : String := "WingLooksLaw"
def lw_P (b : Addr) (xs : List Int32) (args : Array Value) (s : State) : Prop := args = #[.ref b] ∧ s.IntsAt b xs ∧ xs.length ≤ 3072 ∧ (Jvm.Cond.and given_1 narrow_1).before args s = true
def lw_Q (_ : Array Value) (s : State) (o : Outcome) (t : State) : Prop := o = .returned (some (.int 1)) ∧ Framed s o t [] 203390 8492080
def lw_Z (below : List Frame) (a : Array Value) (s : State) : State → Prop := fun t => ∃ o, t.status = .running ∧ Ended t below o ∧ lw_Q a s o t
/-- the law's own end, with 1 on the stack, nothing written that was there before, its room as the claim has it -/
theorem lw_ret {p : Program} {l : Launch} {e : Env} {s : State} {m : MethodId} {below : List Frame} {meth : Method} {c : Code} {b : Nat} (hx : p.tables.exec = Jvm.exec) (hb : c.code = code) (hr : meth.sig.returnType = ret) (hlocks : meth.locks = false) {pc : Nat} {H : Heap} {ls : Array Slot} (hdg : decode code pc = .ok (.ireturn, 1)) : W p l e room_1 s m #[Value.ref b] below meth c H [] 203390 8492080 (lw_Z below #[Value.ref b] s) (F0 m pc ls [.int 1]) := by
  intro T hT X
  obtain ⟨fs, hret, hrun, hended, hW, hframe⟩ := X.leave (v := some (.int 1)) (hlocks := hlocks) (fun h => by rw [hr] at h; cases h)
  have hmeth' : T.vm.method? m = some meth := X.method'
  refine ⟨T.setFrames fs, ?_, .returned (some (.int 1)), hrun, hended, rfl, ⟨_, rfl⟩, hW, hframe⟩
  jvm_step X.here [X.here.top, hx, hb, hdg, hmeth', hr, ret, narrow_b1]
  (try refine ⟨rfl, ?_⟩); (try refine ⟨rfl, ?_⟩)
  first | (intro acts; rw [hret _ acts rfl rfl rfl]) | rw [hret _ _ rfl rfl rfl]
  exact Steps.refl _
/-- what holds at the law's entry: the machine, the code, the tables' words (any of lw_tbl by 'hts w (by decide +kernel)'), the script of L ints xs at the cell b, what the Statement gives of the start (any of its parts by flat_of_before) -/
def lw_At (p : Program) (s : State) (m : MethodId) (meth : Method) (c : Code) (b L : Nat) (xs : Nat → Int32) : Prop :=
  p.tables.exec = Jvm.exec ∧ c.code = code ∧ meth.sig.returnType = ret ∧ c.maxLocals = 4 ∧ s.vm.findClass R_law = some m.cls ∧ (∀ w ∈ lw_tbl, w.before #[Value.ref b] s = true) ∧ va_X b L xs s s.heap ∧ b < s.heap.size ∧ meth.locks = false ∧ (Jvm.Cond.and given_1 narrow_1).before #[Value.ref b] s = true

theorem i_sub {Z : CX} {cells slots pc : Nat} {ws ws' : va_W} {L : List (Nat × Value)} {st : List Value} (h : Sub ws' ws) (kk : J Z cells slots ws' pc L st) : J Z cells slots ws pc L st := by
  obtain ⟨p, l', e, R', s, m, args, below, meth, c, Q, E', nL', A, md'⟩ := Z
  intro H locs ls hP hD hS hmd hl
  exact kk H locs ls (h.P hP) (h.D hD) hS hmd hl
theorem lw_6 {L k : Nat} (hL : L ≤ 3072) (h2 : 6 * k ≤ L) (h : ¬ nI L - 6 < nI (6 * k)) : 6 * k + 6 ≤ L := by
  by_cases h6 : 6 ≤ L
  · obtain ⟨M, rfl⟩ : ∃ M, L = M + 6 := ⟨L - 6, by omega⟩
    have e : nI (M + 6) - 6 = nI M := by
      rw [← nI_add M 6]
      exact Int32.add_sub_cancel _ _
    rw [e] at h
    refine Nat.not_lt.mp (fun q => h (nI_lt (by omega) (by omega)))
  · have hk : k = 0 := by omega
    subst hk
    have : ∀ L, L < 6 → nI L - 6 < nI (6 * 0) := by decide +kernel
    exact absurd (this L (by omega)) h

theorem lw_nx {Z : CX} {l : Launch} {E : ED} {b L : Nat} {xs : Nat → Int32} (B : OK Z cL_law 4 RL room_1 E false l) (hX : ZX Z b L xs) (hL : L ≤ 3072) {mo qc : Nat} {qm : Nat → Nat} {k : Nat} (h : LJ Z E mo qc qm b (k + 1) (k + 1) 18) : LJ Z E mo qc qm b (k + 1) k 1109 := by
  intro q g a s t RV X np nv nc nl nm hq hI hM
  refine i_iinc (v := nI (6 * (k + 1))) B 3 [(3, .int (nI (6 * (k + 1)))), (0, .ref b), (1, .ref qc), (2, .ref mo)] dL_law_1109 rfl (nI_add (6 * k) 6) (by decide) rfl ?_
  refine i_goto B 18 dL_law_1112 (by decide) ?_
  refine i_locals [1, 2, 3, 0] (L' := [(0, .ref b), (1, .ref qc), (2, .ref mo), (3, .int (nI (6 * (k + 1))))]) rfl ?_
  exact h q g a s t RV X np nv nc nl nm hq hI hM

set_option maxHeartbeats 4000000 in
set_option maxRecDepth 100000 in
theorem lw_sw {Z : CX} {l : Launch} {E : ED} {b L : Nat} {xs : Nat → Int32} (B : OK Z cL_law 4 RL room_1 E false l) (hX : ZX Z b L xs) (hL : L ≤ 3072) {mo qc : Nat} {qm : Nat → Nat} {k : Nat} (hk : 6 * k + 6 ≤ L) (hp : PUREs) (NX : LJ Z E mo qc qm b (k + 1) k 1109) : LJ Z E mo qc qm b k k 27 := by
  intro q g a s t RV X np nv nc nl nm hq hI hM
  refine i_aload_n B 0 dL_law_27 rfl ?_
  refine i_iload_n B 3 dL_law_28 rfl ?_
  refine i_sld B hX (6 * k) rfl (by omega) hL dL_law_29 ?_
  refine i_bipush (v := 31) B dL_law_30 (by decide) ?_
  refine i_iand B dL_law_32 ?_
  by_cases h0 : xs (6 * k) &&& 31 = 0
  · refine i_tabI B 156 dL_law_33 (by rw [h0]; decide) (by rw [h0]; decide) (by rw [h0]; rfl) (by decide) ?_
    exact lw_c0 B hX hL hk hp NX q g a s t RV X np nv nc nl nm hq hI hM
  by_cases h1 : xs (6 * k) &&& 31 = 1
  · refine i_tabI B 209 dL_law_33 (by rw [h1]; decide) (by rw [h1]; decide) (by rw [h1]; rfl) (by decide) ?_
    exact lw_c1 B hX hL hk hp NX q g a s t RV X np nv nc nl nm hq hI hM
  by_cases h2 : xs (6 * k) &&& 31 = 2
  · refine i_tabI B 242 dL_law_33 (by rw [h2]; decide) (by rw [h2]; decide) (by rw [h2]; rfl) (by decide) ?_
    exact lw_c2 B hX hL hk hp NX q g a s t RV X np nv nc nl nm hq hI hM
  by_cases h3 : xs (6 * k) &&& 31 = 3
  · refine i_tabI B 275 dL_law_33 (by rw [h3]; decide) (by rw [h3]; decide) (by rw [h3]; rfl) (by decide) ?_
    exact lw_c3 B hX hL hk hp NX q g a s t RV X np nv nc nl nm hq hI hM
  by_cases h4 : xs (6 * k) &&& 31 = 4
  · refine i_tabI B 318 dL_law_33 (by rw [h4]; decide) (by rw [h4]; decide) (by rw [h4]; rfl) (by decide) ?_
    exact lw_c4 B hX hL hk hp NX q g a s t RV X np nv nc nl nm hq hI hM
  by_cases h5 : xs (6 * k) &&& 31 = 5
  · refine i_tabI B 341 dL_law_33 (by rw [h5]; decide) (by rw [h5]; decide) (by rw [h5]; rfl) (by decide) ?_
    exact lw_c5 B hX hL hk hp NX q g a s t RV X np nv nc nl nm hq hI hM
  by_cases h6 : xs (6 * k) &&& 31 = 6
  · refine i_tabI B 364 dL_law_33 (by rw [h6]; decide) (by rw [h6]; decide) (by rw [h6]; rfl) (by decide) ?_
    exact lw_c6 B hX hL hk hp NX q g a s t RV X np nv nc nl nm hq hI hM
  by_cases h7 : xs (6 * k) &&& 31 = 7
  · refine i_tabI B 397 dL_law_33 (by rw [h7]; decide) (by rw [h7]; decide) (by rw [h7]; rfl) (by decide) ?_
    exact lw_c7 B hX hL hk hp NX q g a s t RV X np nv nc nl nm hq hI hM
  by_cases h8 : xs (6 * k) &&& 31 = 8
  · refine i_tabI B 420 dL_law_33 (by rw [h8]; decide) (by rw [h8]; decide) (by rw [h8]; rfl) (by decide) ?_
    exact lw_c8 B hX hL hk hp NX q g a s t RV X np nv nc nl nm hq hI hM
  by_cases h9 : xs (6 * k) &&& 31 = 9
  · refine i_tabI B 473 dL_law_33 (by rw [h9]; decide) (by rw [h9]; decide) (by rw [h9]; rfl) (by decide) ?_
    exact lw_c9 B hX hL hk hp NX q g a s t RV X np nv nc nl nm hq hI hM
  by_cases h10 : xs (6 * k) &&& 31 = 10
  · refine i_tabI B 486 dL_law_33 (by rw [h10]; decide) (by rw [h10]; decide) (by rw [h10]; rfl) (by decide) ?_
    exact lw_c10 B hX hL hk hp NX q g a s t RV X np nv nc nl nm hq hI hM
  by_cases h11 : xs (6 * k) &&& 31 = 11
  · refine i_tabI B 519 dL_law_33 (by rw [h11]; decide) (by rw [h11]; decide) (by rw [h11]; rfl) (by decide) ?_
    exact lw_c11 B hX hL hk hp NX q g a s t RV X np nv nc nl nm hq hI hM
  by_cases h12 : xs (6 * k) &&& 31 = 12
  · refine i_tabI B 552 dL_law_33 (by rw [h12]; decide) (by rw [h12]; decide) (by rw [h12]; rfl) (by decide) ?_
    exact lw_c12 B hX hL hk hp NX q g a s t RV X np nv nc nl nm hq hI hM
  by_cases h13 : xs (6 * k) &&& 31 = 13
  · refine i_tabI B 585 dL_law_33 (by rw [h13]; decide) (by rw [h13]; decide) (by rw [h13]; rfl) (by decide) ?_
    exact lw_c13 B hX hL hk hp NX q g a s t RV X np nv nc nl nm hq hI hM
  by_cases h14 : xs (6 * k) &&& 31 = 14
  · refine i_tabI B 638 dL_law_33 (by rw [h14]; decide) (by rw [h14]; decide) (by rw [h14]; rfl) (by decide) ?_
    exact lw_c14 B hX hL hk hp NX q g a s t RV X np nv nc nl nm hq hI hM
  by_cases h15 : xs (6 * k) &&& 31 = 15
  · refine i_tabI B 661 dL_law_33 (by rw [h15]; decide) (by rw [h15]; decide) (by rw [h15]; rfl) (by decide) ?_
    exact lw_c15 B hX hL hk hp NX q g a s t RV X np nv nc nl nm hq hI hM
  by_cases h16 : xs (6 * k) &&& 31 = 16
  · refine i_tabI B 694 dL_law_33 (by rw [h16]; decide) (by rw [h16]; decide) (by rw [h16]; rfl) (by decide) ?_
    exact lw_c16 B hX hL hk hp NX q g a s t RV X np nv nc nl nm hq hI hM
  by_cases h17 : xs (6 * k) &&& 31 = 17
  · refine i_tabI B 717 dL_law_33 (by rw [h17]; decide) (by rw [h17]; decide) (by rw [h17]; rfl) (by decide) ?_
    exact lw_c17 B hX hL hk hp NX q g a s t RV X np nv nc nl nm hq hI hM
  by_cases h18 : xs (6 * k) &&& 31 = 18
  · refine i_tabI B 740 dL_law_33 (by rw [h18]; decide) (by rw [h18]; decide) (by rw [h18]; rfl) (by decide) ?_
    exact lw_c18 B hX hL hk hp NX q g a s t RV X np nv nc nl nm hq hI hM
  by_cases h19 : xs (6 * k) &&& 31 = 19
  · refine i_tabI B 783 dL_law_33 (by rw [h19]; decide) (by rw [h19]; decide) (by rw [h19]; rfl) (by decide) ?_
    exact lw_c19 B hX hL hk hp NX q g a s t RV X np nv nc nl nm hq hI hM
  by_cases h20 : xs (6 * k) &&& 31 = 20
  · refine i_tabI B 816 dL_law_33 (by rw [h20]; decide) (by rw [h20]; decide) (by rw [h20]; rfl) (by decide) ?_
    exact lw_c20 B hX hL hk hp NX q g a s t RV X np nv nc nl nm hq hI hM
  by_cases h21 : xs (6 * k) &&& 31 = 21
  · refine i_tabI B 839 dL_law_33 (by rw [h21]; decide) (by rw [h21]; decide) (by rw [h21]; rfl) (by decide) ?_
    exact lw_c21 B hX hL hk hp NX q g a s t RV X np nv nc nl nm hq hI hM
  by_cases h22 : xs (6 * k) &&& 31 = 22
  · refine i_tabI B 872 dL_law_33 (by rw [h22]; decide) (by rw [h22]; decide) (by rw [h22]; rfl) (by decide) ?_
    exact lw_c22 B hX hL hk hp NX q g a s t RV X np nv nc nl nm hq hI hM
  by_cases h23 : xs (6 * k) &&& 31 = 23
  · refine i_tabI B 925 dL_law_33 (by rw [h23]; decide) (by rw [h23]; decide) (by rw [h23]; rfl) (by decide) ?_
    exact lw_c23 B hX hL hk hp NX q g a s t RV X np nv nc nl nm hq hI hM
  by_cases h24 : xs (6 * k) &&& 31 = 24
  · refine i_tabI B 948 dL_law_33 (by rw [h24]; decide) (by rw [h24]; decide) (by rw [h24]; rfl) (by decide) ?_
    exact lw_c24 B hX hL hk hp NX q g a s t RV X np nv nc nl nm hq hI hM
  by_cases h25 : xs (6 * k) &&& 31 = 25
  · refine i_tabI B 1007 dL_law_33 (by rw [h25]; decide) (by rw [h25]; decide) (by rw [h25]; rfl) (by decide) ?_
    exact lw_c25 B hX hL hk hp NX q g a s t RV X np nv nc nl nm hq hI hM
  by_cases h26 : xs (6 * k) &&& 31 = 26
  · refine i_tabI B 1086 dL_law_33 (by rw [h26]; decide) (by rw [h26]; decide) (by rw [h26]; rfl) (by decide) ?_
    exact lw_c26 B hX hL hk hp NX q g a s t RV X np nv nc nl nm hq hI hM
  have h0t : (xs (6 * k) &&& 31).toInt ≠ 0 := fun e => h0 (Int32.toInt_inj.mp e)
  have h1t : (xs (6 * k) &&& 31).toInt ≠ 1 := fun e => h1 (Int32.toInt_inj.mp e)
  have h2t : (xs (6 * k) &&& 31).toInt ≠ 2 := fun e => h2 (Int32.toInt_inj.mp e)
  have h3t : (xs (6 * k) &&& 31).toInt ≠ 3 := fun e => h3 (Int32.toInt_inj.mp e)
  have h4t : (xs (6 * k) &&& 31).toInt ≠ 4 := fun e => h4 (Int32.toInt_inj.mp e)
  have h5t : (xs (6 * k) &&& 31).toInt ≠ 5 := fun e => h5 (Int32.toInt_inj.mp e)
  have h6t : (xs (6 * k) &&& 31).toInt ≠ 6 := fun e => h6 (Int32.toInt_inj.mp e)
  have h7t : (xs (6 * k) &&& 31).toInt ≠ 7 := fun e => h7 (Int32.toInt_inj.mp e)
  have h8t : (xs (6 * k) &&& 31).toInt ≠ 8 := fun e => h8 (Int32.toInt_inj.mp e)
  have h9t : (xs (6 * k) &&& 31).toInt ≠ 9 := fun e => h9 (Int32.toInt_inj.mp e)
  have h10t : (xs (6 * k) &&& 31).toInt ≠ 10 := fun e => h10 (Int32.toInt_inj.mp e)
  have h11t : (xs (6 * k) &&& 31).toInt ≠ 11 := fun e => h11 (Int32.toInt_inj.mp e)
  have h12t : (xs (6 * k) &&& 31).toInt ≠ 12 := fun e => h12 (Int32.toInt_inj.mp e)
  have h13t : (xs (6 * k) &&& 31).toInt ≠ 13 := fun e => h13 (Int32.toInt_inj.mp e)
  have h14t : (xs (6 * k) &&& 31).toInt ≠ 14 := fun e => h14 (Int32.toInt_inj.mp e)
  have h15t : (xs (6 * k) &&& 31).toInt ≠ 15 := fun e => h15 (Int32.toInt_inj.mp e)
  have h16t : (xs (6 * k) &&& 31).toInt ≠ 16 := fun e => h16 (Int32.toInt_inj.mp e)
  have h17t : (xs (6 * k) &&& 31).toInt ≠ 17 := fun e => h17 (Int32.toInt_inj.mp e)
  have h18t : (xs (6 * k) &&& 31).toInt ≠ 18 := fun e => h18 (Int32.toInt_inj.mp e)
  have h19t : (xs (6 * k) &&& 31).toInt ≠ 19 := fun e => h19 (Int32.toInt_inj.mp e)
  have h20t : (xs (6 * k) &&& 31).toInt ≠ 20 := fun e => h20 (Int32.toInt_inj.mp e)
  have h21t : (xs (6 * k) &&& 31).toInt ≠ 21 := fun e => h21 (Int32.toInt_inj.mp e)
  have h22t : (xs (6 * k) &&& 31).toInt ≠ 22 := fun e => h22 (Int32.toInt_inj.mp e)
  have h23t : (xs (6 * k) &&& 31).toInt ≠ 23 := fun e => h23 (Int32.toInt_inj.mp e)
  have h24t : (xs (6 * k) &&& 31).toInt ≠ 24 := fun e => h24 (Int32.toInt_inj.mp e)
  have h25t : (xs (6 * k) &&& 31).toInt ≠ 25 := fun e => h25 (Int32.toInt_inj.mp e)
  have h26t : (xs (6 * k) &&& 31).toInt ≠ 26 := fun e => h26 (Int32.toInt_inj.mp e)
  refine i_tabO B 1109 dL_law_33 (by omega) (by decide) ?_
  refine i_widen (k := 100 + 5 * (k + 1)) (n := 20000 + 12418 * (k + 1)) (by omega) (by omega) ?_
  exact NX q g a s t RV X np nv nc nl nm hq hI hM
theorem lw_loop {Z : CX} {l : Launch} {E : ED} {b L : Nat} {xs : Nat → Int32} (B : OK Z cL_law 4 RL room_1 E false l) (hX : ZX Z b L xs) (hL : L ≤ 3072) {mo qc : Nat} {qm : Nat → Nat} (hp : PUREs) (ret : ∀ (ws : va_W) (L0 : List (Nat × Value)), J Z 203390 8492080 ws 1116 L0 [.int 1]) : ∀ n k : Nat, L < 6 * k + n → 6 * k ≤ L → LJ Z E mo qc qm b k k 18 := by
  intro n
  induction n with
  | zero => intro k h1 h2; omega
  | succ n ih =>
    intro k h1 h2 q g a s t RV X np nv nc nl nm hq hI hM
    refine i_iload_n B 3 dL_law_18 rfl ?_
    refine i_aload_n B 0 dL_law_19 rfl ?_
    refine i_slen B hX dL_law_20 ?_
    refine i_bipush (v := 6) B dL_law_21 (by decide) ?_
    refine i_isub B dL_law_23 ?_
    refine i_icmp_gt B 1115 dL_law_24 (by decide) (fun h => ?_) (fun h => ?_)
    · refine i_iconst (v := 1) B dL_law_1115 (by decide) ?_
      refine i_widen (k := 203390) (n := 8492080) (by omega) (by omega) ?_
      exact ret _ _
    · have hk : 6 * k + 6 ≤ L := by
        exact lw_6 hL h2 h
      exact lw_sw B hX hL hk hp (lw_nx B hX hL (ih (k + 1) (by omega) (by omega))) q g a s t RV X np nv nc nl nm hq hI hM

set_option maxHeartbeats 4000000 in
set_option maxRecDepth 100000 in
theorem lw_st {Z : CX} {l : Launch} {E : ED} {b L : Nat} {xs : Nat → Int32} (B : OK Z cL_law 4 RL room_1 E false l) (hX : ZX Z b L xs) (hL : L ≤ 3072) (hp : PUREs) (ret : ∀ (ws : va_W) (L0 : List (Nat × Value)), J Z 203390 8492080 ws 1116 L0 [.int 1]) : J Z 0 0 [] 0 [(0, .ref b)] [] := by
  refine i_new B cls8 [.null, .null, .null, .null, .null, .null, .null, .null] wd_classLink_RL_7_RX8 wd_instantiable_RX8_8 ini_RX8 (fun j hj => by rcases (show j = 0 ∨ j = 1 ∨ j = 2 ∨ j = 3 ∨ j = 4 ∨ j = 5 ∨ j = 6 ∨ j = 7 by omega) with rfl | rfl | rfl | rfl | rfl | rfl | rfl | rfl <;> rfl) (by decide) (by decide) dL_law_0 (fun o0 => ?_)
  refine i_world (ws' := [(o0, .inr (8, [.null, .null, .null, .null, .null, .null, .null, .null]))]) rfl ?_
  refine i_dup B dL_law_3 rfl ?_
  refine c_wvI (rest := [.ref o0]) (As := []) B (k_X8_init l E o0) cal_yX8_init ⟨rfl, ii_yX8_init⟩ mlL_9 (by decide) (by decide) rfl (Nat.le_of_ble_eq_true rfl) [] [] rfl _ rfl dL_law_4 (fun q hq => ?_)
  refine i_world (ws' := cW E q g0 a0 (fun _ => 0) (fun _ _ => 0) .null []) rfl ?_
  refine i_astore_n B [(1, .ref o0), (0, .ref b)] dL_law_7 (by decide) rfl ?_
  refine i_new B cls9 [.int 0, .int 0, .null, .null, .null, .null, .int 0, .int 0, .int 0, .null, .null, .int 0, .null, .null, .null, .null, .int 0, .int 0, .int 0, .int 0, .int 0, .null, .null, .null, .int 0, .null, .null, .null, .null, .null, .null, .null, .null, .null, .null, .null, .null, .null] wd_classLink_RL_10_RX9 wd_instantiable_RX9_38 ini_RX9 (fun j hj => by rcases (show j = 0 ∨ j = 1 ∨ j = 2 ∨ j = 3 ∨ j = 4 ∨ j = 5 ∨ j = 6 ∨ j = 7 ∨ j = 8 ∨ j = 9 ∨ j = 10 ∨ j = 11 ∨ j = 12 ∨ j = 13 ∨ j = 14 ∨ j = 15 ∨ j = 16 ∨ j = 17 ∨ j = 18 ∨ j = 19 ∨ j = 20 ∨ j = 21 ∨ j = 22 ∨ j = 23 ∨ j = 24 ∨ j = 25 ∨ j = 26 ∨ j = 27 ∨ j = 28 ∨ j = 29 ∨ j = 30 ∨ j = 31 ∨ j = 32 ∨ j = 33 ∨ j = 34 ∨ j = 35 ∨ j = 36 ∨ j = 37 by omega) with rfl | rfl | rfl | rfl | rfl | rfl | rfl | rfl | rfl | rfl | rfl | rfl | rfl | rfl | rfl | rfl | rfl | rfl | rfl | rfl | rfl | rfl | rfl | rfl | rfl | rfl | rfl | rfl | rfl | rfl | rfl | rfl | rfl | rfl | rfl | rfl | rfl | rfl <;> rfl) (by decide) (by decide) dL_law_8 (fun o8 => ?_)
  refine i_dup B dL_law_11 rfl ?_
  refine c_wvI (rest := [.ref o8]) (As := []) B (k_X9_init l E o8) cal_yX9_init ⟨rfl, ii_yX9_init⟩ mlL_12 (by decide) (by decide) rfl (Nat.le_of_ble_eq_true rfl) (cW E q g0 a0 (fun _ => 0) (fun _ _ => 0) .null []) [] rfl _ rfl dL_law_12 (fun qm hm => ?_)
  refine i_astore_n B [(2, .ref o8), (1, .ref o0), (0, .ref b)] dL_law_15 (by decide) rfl ?_
  refine i_iconst (v := 0) B dL_law_16 (by decide) ?_
  refine i_istore_n B [(3, .int 0), (2, .ref o8), (1, .ref o0), (0, .ref b)] dL_law_17 (by decide) rfl ?_
  refine i_locals [3, 2, 1, 0] (L' := [(0, .ref b), (1, .ref o0), (2, .ref o8), (3, .int (nI (6 * 0)))]) rfl ?_
  refine i_sub (ws' := mW E o8 qm g0 a0 ++ cW E q g0 a0 (fun _ => 0) (fun _ _ => 0) .null []) (Sub.of [31, 32, 33, 34, 35, 36, 37, 38, 39, 40, 41, 42, 43, 44, 45, 46, 47, 48, 49, 50, 51, 52, 53, 54, 55, 56, 57, 0, 1, 2, 3, 4, 5, 6, 7, 8, 9, 10, 11, 12, 13, 14, 15, 16, 17, 18, 19, 20, 21, 22, 23, 24, 25, 26, 27, 28, 29, 30] (by decide) rfl) ?_
  refine i_widen (k := 100 + 5 * 0) (n := 20000 + 12418 * 0) (by decide) (by decide) ?_
  exact lw_loop B hX hL hp ret (L + 1) 0 (by omega) (by omega) q g0 a0 _ _ _ _ 0 0 0 0 0 hq IV_0 (Or.inl ⟨rfl, rfl⟩)

set_option maxHeartbeats 4000000 in
set_option maxRecDepth 100000 in
theorem whole_open (hp : PUREs) {p : Program} {e : Env} {s : State} {m : MethodId} {below : List Frame} {meth : Method} {c : Code} (l : Launch) {b L : Nat} {xs : Nat → Int32} (hL : L ≤ 3072) (C0 : lw_At p s m meth c b L xs) : W p l e room_1 s m #[Value.ref b] below meth c s.heap [] 0 0 (lw_Z below #[Value.ref b] s) (entryFrame m ([Value.ref b] : List Value).toArray 4) := by
  obtain ⟨hx, hb, hr, hml, hown, hts, hX, hbl, hlk, -⟩ := C0
  have hts9 : ∀ w ∈ WS, w.before #[Value.ref b] s = true := fun w h => hts w (wsL_law_in w h)
  obtain ⟨c0, i0, k0⟩ := u_known hts9 inlX0 (hts9 _ wd_instantiable_RX0_7)
  obtain ⟨c1, i1, k1⟩ := u_known hts9 inlX1 (hts9 _ wd_instantiable_RX1_4)
  obtain ⟨c2, i2, k2⟩ := u_known hts9 inlX2 (hts9 _ wd_instantiable_RX2_2)
  obtain ⟨c3, i3, k3⟩ := u_known hts9 inlX3 (hts9 _ wd_instantiable_RX3_2)
  obtain ⟨c4, i4, k4⟩ := u_known hts9 inlX4 (hts9 _ wd_instantiable_RX4_11)
  obtain ⟨c5, i5, k5⟩ := u_known hts9 inlX5 (hts9 _ wd_instantiable_RX5_3)
  obtain ⟨c6, i6, k6⟩ := u_known hts9 inlX6 (hts9 _ wd_instantiable_RX6_9)
  obtain ⟨c7, i7, k7⟩ := u_known hts9 inlX7 (hts9 _ wd_instantiable_RX7_7)
  obtain ⟨c8, i8, k8⟩ := u_known hts9 inlX8 (hts9 _ wd_instantiable_RX8_8)
  obtain ⟨c9, i9, k9⟩ := u_known hts9 inlX9 (hts9 _ wd_instantiable_RX9_38)
  obtain ⟨cI, kI, pI, f1, f2, f3⟩ := Cond.arrayClass_spec (hts9 _ wd_arrayClass_int)
  obtain ⟨cZ, kZ, pZ, z1, z2, z3⟩ := Cond.arrayClass_spec (hts9 _ wd_arrayClass_boolean)
  have hK : va_K ((fun c => match c with | 0 => c0 | 1 => c1 | 2 => c2 | 3 => c3 | 4 => c4 | 5 => c5 | 6 => c6 | 7 => c7 | 8 => c8 | 9 => c9 | _ => c0), (fun c => match c with | 0 => i0 | 1 => i1 | 2 => i2 | 3 => i3 | 4 => i4 | 5 => i5 | 6 => i6 | 7 => i7 | 8 => i8 | 9 => i9 | _ => i0)) vwCl [(cI, .int), (cZ, .boolean)] s := by
    refine ⟨fun c q hq => ?_, fun k q hq => ?_⟩
    · match c with
      | 0 => cases hq; exact k0
      | 1 => cases hq; exact k1
      | 2 => cases hq; exact k2
      | 3 => cases hq; exact k3
      | 4 => cases hq; exact k4
      | 5 => cases hq; exact k5
      | 6 => cases hq; exact k6
      | 7 => cases hq; exact k7
      | 8 => cases hq; exact k8
      | 9 => cases hq; exact k9
      | n + 10 => exact absurd hq (by simp)
    · match k with
      | 0 => cases hq; exact ⟨fun n z => ⟨fun k h => (by cases h), kI, f2, pI, f3⟩, f1⟩
      | 1 => cases hq; exact ⟨fun n z => ⟨fun k h => (by cases h), kZ, z2, pZ, z3⟩, z1⟩
      | n + 2 => exact absurd hq (by simp)
  have hN : NW s := ⟨va_Nw.of (by decide) (hts nw_0 (by decide +kernel)), va_Nw.of (by decide) (hts nw_1 (by decide +kernel)), va_Nw.of (by decide) (hts nw_2 (by decide +kernel)), va_Nw.of (by decide) (hts nw_3 (by decide +kernel)), va_Nw.of (by decide) (hts nw_4 (by decide +kernel)), va_Nw.of (by decide) (hts nw_5 (by decide +kernel)), va_Nw.of (by decide) (hts nw_6 (by decide +kernel)), va_Nw.of (by decide) (hts nw_7 (by decide +kernel)), va_Nw.of (by decide) (hts nw_8 (by decide +kernel))⟩
  have hl := lv_entry [Value.ref b] (n := 4) (Nat.le_of_ble_eq_true rfl)
  rw [lg_entry_eq]
  have hfix : CallFix p m c cL_law 4 s #[Value.ref b] WS RL := ⟨hx, hb, hml, hown, hts9⟩
  refine lw_st (Z := (p, l, e, room_1, s, m, #[Value.ref b], below, meth, c, lw_Z below #[Value.ref b] s, (((fun c => match c with | 0 => c0 | 1 => c1 | 2 => c2 | 3 => c3 | 4 => c4 | 5 => c5 | 6 => c6 | 7 => c7 | 8 => c8 | 9 => c9 | _ => c0), (fun c => match c with | 0 => i0 | 1 => i1 | 2 => i2 | 3 => i3 | 4 => i4 | 5 => i5 | 6 => i6 | 7 => i7 | 8 => i8 | 9 => i9 | _ => i0)), cI, cZ), 4, fun q => s.heap.size ≤ q, false)) (b := b) (L := L) (xs := xs) ⟨hfix, ⟨hK, hN⟩, fun q h => h, rfl, rfl, rfl, rfl, rfl⟩ ⟨hX, hbl, fun h => by have h : s.heap.size ≤ b := h; omega⟩ hL hp ?_ s.heap [] _ (fun k q hq => by simp at hq) ⟨fun i j p q hi => by simp at hi, fun k q hq => by simp at hq⟩ va_S.rf (fun h => by cases h) hl
  intro ws L0 H locs ls hP hD hS hmd hl
  exact va_forget hS.2.2 (lw_ret hx hb hr hlk dL_law_1116)
