/-! ===== the judgement of a walk: locals, stack and world as lists; rows an instruction ===== -/
abbrev WS : List Cond := wsL_law

theorem WS_in {cz : Cond} (h : cz ∈ WS) : GoodIn WS (cz :: WS) := fun w hw => by
  have hm : w ∈ WS := (List.mem_cons.mp hw).elim (fun e => e ▸ h) id
  exact ⟨hm, (wg_all w hm).2⟩
/-- the private members of nest mates -/
abbrev nw_0 : Cond := .methodLinkNest RX8 9 yX7_init "WingLooks"
abbrev nw_1 : Cond := .methodLinkNest RX8 27 yX3_init "WingLooks"
abbrev nw_2 : Cond := .methodLinkNest RX8 34 yX0_init "WingLooks"
abbrev nw_3 : Cond := .methodLinkNest RX8 41 yX1_init "WingLooks"
abbrev nw_4 : Cond := .methodLinkNest RX8 48 yX2_init "WingLooks"
abbrev nw_5 : Cond := .methodLinkNest RX8 55 yX4_init "WingLooks"
abbrev nw_6 : Cond := .methodLinkNest RX7 48 yX8_turn "WingLooks"
abbrev nw_7 : Cond := .methodLinkNest RX0 41 yX8_turn "WingLooks"
abbrev nw_8 : Cond := .methodLinkNest RX6 54 yX8_has "WingLooks"
def NW (U : State) : Prop := va_Nw nw_0 U ∧ va_Nw nw_1 U ∧ va_Nw nw_2 U ∧ va_Nw nw_3 U ∧ va_Nw nw_4 U ∧ va_Nw nw_5 U ∧ va_Nw nw_6 U ∧ va_Nw nw_7 U ∧ va_Nw nw_8 U
theorem NW.warm {s U : State} (hW : s.WarmedH U.vm) (h : NW s) : NW U := by
  obtain ⟨h0, h1, h2, h3, h4, h5, h6, h7, h8⟩ := h
  exact ⟨h0.warmM hW, h1.warmM hW, h2.warmM hW, h3.warmM hW, h4.warmM hW, h5.warmM hW, h6.warmM hW, h7.warmM hW, h8.warmM hW⟩
theorem NW.same {u U : State} (e : u.vm = U.vm) (h : NW u) : NW U := by
  obtain ⟨h0, h1, h2, h3, h4, h5, h6, h7, h8⟩ := h
  exact ⟨h0.same rfl e, h1.same rfl e, h2.same rfl e, h3.same rfl e, h4.same rfl e, h5.same rfl e, h6.same rfl e, h7.same rfl e, h8.same rfl e⟩
abbrev ED : Type := va_G × ClassId × ClassId
def EV (E : ED) (U : State) : Prop := va_K E.1 vwCl [(E.2.1, .int), (E.2.2, .boolean)] U ∧ NW U
theorem EV.warm {E : ED} {s U : State} (hW : s.WarmedH U.vm) (h : EV E s) : EV E U := ⟨va_K.moved hW.alike h.1, h.2.warm hW⟩
theorem EV.call {E : ED} {U : State} (g : JFrame) (mk : MethodId) (a : Array Value) (h : EV E U) : EV E (U.calling g mk a) := ⟨va_K.moved (u := U) (U := U.calling g mk a) (Vm.Alike.refl U.vm) h.1, h.2.same rfl⟩
/-- worlds: parts of a list -/
theorem p_l {D : va_G} {cl : List vw_C} {X Y : va_W} {H : Heap} (h : va_P D cl (X ++ Y) H) : va_P D cl X H := fun k q hq => h k q (by rw [List.getElem?_append_left (List.getElem?_eq_some_iff.mp hq).1]; exact hq)
theorem p_r {D : va_G} {cl : List vw_C} {X Y : va_W} {H : Heap} (h : va_P D cl (X ++ Y) H) : va_P D cl Y H := fun k q hq => h (X.length + k) q (by rw [List.getElem?_append_right (by omega), Nat.add_sub_cancel_left]; exact hq)
theorem d_l {A : Nat → Prop} {X Y : va_W} (h : va_D A (X ++ Y)) : va_D A X := ⟨fun i j p q hi hj e => h.1 i j p q (by rw [List.getElem?_append_left (List.getElem?_eq_some_iff.mp hi).1]; exact hi) (by rw [List.getElem?_append_left (List.getElem?_eq_some_iff.mp hj).1]; exact hj) e, fun k q hk => h.2 k q (by rw [List.getElem?_append_left (List.getElem?_eq_some_iff.mp hk).1]; exact hk)⟩
theorem d_r {A : Nat → Prop} {X Y : va_W} (h : va_D A (X ++ Y)) : va_D A Y := ⟨fun i j p q hi hj e => by
  have := h.1 (X.length + i) (X.length + j) p q (by rw [List.getElem?_append_right (by omega), Nat.add_sub_cancel_left]; exact hi) (by rw [List.getElem?_append_right (by omega), Nat.add_sub_cancel_left]; exact hj) e
  omega, fun k q hk => h.2 (X.length + k) q (by rw [List.getElem?_append_right (by omega), Nat.add_sub_cancel_left]; exact hk)⟩
theorem d_x {A : Nat → Prop} {X Y : va_W} (h : va_D A (X ++ Y)) {i j : Nat} {p q : Nat × va_E} (hi : X[i]? = some p) (hj : Y[j]? = some q) : p.1 ≠ q.1 := fun e => by
  have hl := (List.getElem?_eq_some_iff.mp hi).1
  have := h.1 i (X.length + j) p q (by rw [List.getElem?_append_left hl]; exact hi) (by rw [List.getElem?_append_right (by omega), Nat.add_sub_cancel_left]; exact hj) e
  omega
theorem p_out {D : va_G} {cl : List vw_C} {Y wi : va_W} {H H1 : Heap} (hP : va_P D cl Y H) (hx : ∀ (i j : Nat) (p q : Nat × va_E), Y[i]? = some p → wi[j]? = some q → p.1 ≠ q.1) (hk : ∀ q : Nat, q < H.size → ¬ va_A wi H.size q → H1[q]? = H[q]?) : va_P D cl Y H1 := fun k q hq => (hP k q hq).kept (hk q.1 ((hP k q hq).lt) (fun h => by
  rcases h with ⟨j, e, h⟩ | h
  · exact hx k j q (q.1, e) hq h rfl
  · exact absurd ((hP k q hq).lt) (by omega)))
theorem d_out {D : va_G} {cl : List vw_C} {Y wi w1 : va_W} {H : Heap} (hP : va_P D cl Y H) (hx : ∀ (i j : Nat) (p q : Nat × va_E), Y[i]? = some p → wi[j]? = some q → p.1 ≠ q.1) (hD1 : va_D (va_A wi H.size) w1) : ∀ (i j : Nat) (p q : Nat × va_E), Y[i]? = some p → w1[j]? = some q → p.1 ≠ q.1 := fun i j p q hi hj e => by
  rcases hD1.2 j q hj with ⟨j2, e2, h⟩ | h
  · exact hx i j2 p (q.1, e2) hi h e
  · have := (hP i p hi).lt
    omega
/-- the frame rule: a part of the world is changed by a call, the rest stays -/
theorem jn {A0 : Nat → Prop} {D : va_G} {cl : List vw_C} {X wi Y w1 : va_W} {H H1 : Heap} (hP : va_P D cl (X ++ (wi ++ Y)) H) (hD : va_D A0 (X ++ (wi ++ Y))) (hk : ∀ q : Nat, q < H.size → ¬ va_A wi H.size q → H1[q]? = H[q]?) (hF : ∀ q, va_A wi H.size q → A0 q) (hP1 : va_P D cl w1 H1) (hD1 : va_D (va_A wi H.size) w1) : va_P D cl (X ++ (w1 ++ Y)) H1 ∧ va_D A0 (X ++ (w1 ++ Y)) := by
  have pX := p_l hP
  have pY := p_r (p_r hP)
  have xX : ∀ (i j : Nat) (p q : Nat × va_E), X[i]? = some p → wi[j]? = some q → p.1 ≠ q.1 := fun i j p q hi hj => d_x hD hi (show (wi ++ Y)[j]? = some q by rw [List.getElem?_append_left (List.getElem?_eq_some_iff.mp hj).1]; exact hj)
  have xY : ∀ (i j : Nat) (p q : Nat × va_E), Y[i]? = some p → wi[j]? = some q → p.1 ≠ q.1 := fun i j p q hi hj => (d_x (d_r hD) hj hi).symm
  have hD1' : va_D A0 w1 := hD1.weaken (fun _ q _ h => hF q.1 h)
  have xXY : ∀ (i j : Nat) (p q : Nat × va_E), X[i]? = some p → Y[j]? = some q → p.1 ≠ q.1 := fun i j p q hi hj => d_x hD hi (show (wi ++ Y)[wi.length + j]? = some q by rw [List.getElem?_append_right (by omega), Nat.add_sub_cancel_left]; exact hj)
  have oX := d_out pX xX hD1
  have oY := d_out pY xY hD1
  refine ⟨(p_out pX xX hk).app (hP1.app (p_out pY xY hk)), (d_l hD).app (hD1'.app (d_r (d_r hD)) (fun i j p q hi hj => (oY j i q p hj hi).symm)) (fun i j p q hi hj => ?_)⟩
  by_cases hl : j < w1.length
  · rw [List.getElem?_append_left hl] at hj
    exact oX i j p q hi hj
  · rw [List.getElem?_append_right (by omega)] at hj
    exact xXY i _ p q hi hj
theorem fr {A0 : Nat → Prop} {X wi Y : va_W} {H0 H : Heap} {locs : List Loc} (hD : va_D A0 (X ++ (wi ++ Y))) (hS : va_S A0 H0 H locs) (hA : ∀ q, H0.size ≤ q → A0 q) : ∀ q, va_A wi H.size q → A0 q := fun q h => by
  rcases h with ⟨k, e, h⟩ | h
  · exact (d_l (d_r hD)).2 k _ h
  · exact hA q (Nat.le_trans hS.1 h)
/-- a part of a world, by its places -/
def Sub (wc ws : va_W) : Prop := ∃ is : List Nat, va_nd is = true ∧ is.map (fun i => ws[i]?) = wc.map some
theorem Sub.P {wc ws : va_W} (h : Sub wc ws) {D : va_G} {cl : List vw_C} {H : Heap} (hP : va_P D cl ws H) : va_P D cl wc H := fun k q hq => by
  obtain ⟨is, -, hs⟩ := h
  have h1 : (is.map (fun i => ws[i]?))[k]? = some (some q) := by rw [hs]; simp [hq]
  rw [List.getElem?_map] at h1
  cases h2 : is[k]? with
  | none => rw [h2] at h1; cases h1
  | some i => rw [h2] at h1; exact hP i q (Option.some.inj h1)
theorem Sub.D {wc ws : va_W} (h : Sub wc ws) {A : Nat → Prop} (hD : va_D A ws) : va_D A wc := by
  obtain ⟨is, hn, hs⟩ := h
  exact hD.sub is hn hs
theorem Sub.nil {ws : va_W} : Sub [] ws := ⟨[], rfl, rfl⟩
theorem Sub.of {wc ws : va_W} (is : List Nat) (hn : va_nd is = true) (hs : is.map (fun i => ws[i]?) = wc.map some) : Sub wc ws := ⟨is, hn, hs⟩
/-- the part in the middle, or the whole, for readers -/
def Has (wc ws : va_W) : Prop := Sub wc ws ∨ wc = ws ∨ ∃ X Y, ws = X ++ (wc ++ Y)
theorem Has.P {wc ws : va_W} (h : Has wc ws) {D : va_G} {cl : List vw_C} {H : Heap} (hP : va_P D cl ws H) : va_P D cl wc H := by
  rcases h with h | rfl | ⟨X, Y, rfl⟩
  · exact h.P hP
  · exact hP
  · exact p_l (p_r hP)
theorem Has.D {wc ws : va_W} (h : Has wc ws) {A : Nat → Prop} (hD : va_D A ws) : va_D A wc := by
  rcases h with h | rfl | ⟨X, Y, rfl⟩
  · exact h.D hD
  · exact hD
  · exact d_l (d_r hD)
theorem Has.nil {ws : va_W} : Has [] ws := Or.inl Sub.nil
theorem Has.rf {ws : va_W} : Has ws ws := Or.inr (Or.inl rfl)
theorem Has.of {wc ws : va_W} (is : List Nat) (hn : va_nd is = true) (hs : is.map (fun i => ws[i]?) = wc.map some) : Has wc ws := Or.inl ⟨is, hn, hs⟩
theorem Has.mid {wc ws : va_W} (X Y : va_W) (h : ws = X ++ (wc ++ Y)) : Has wc ws := Or.inr (Or.inr ⟨X, Y, h⟩)
/-- the judgement -/
abbrev CX := Program × Launch × Env × Room × State × MethodId × Array Value × List Frame × Method × Code × (State → Prop) × ED × Nat × (Nat → Prop) × Bool
def J (Z : CX) (cells slots : Nat) (ws : va_W) (pc : Nat) (L : List (Nat × Value)) (st : List Value) : Prop :=
  match Z with
  | (p, l, e, R, s, m, args, below, meth, c, Q, E, nL, A, md) =>
    ∀ (H : Heap) (locs : List Loc) (ls : Array Slot), va_P E.1 vwCl ws H → va_D A ws → va_S A s.heap H locs → (md = true → H = s.heap ∧ locs = []) → lv_has ls nL L → W p l e R s m args below meth c H locs cells slots Q (F0 m pc ls st)
def OK (Z : CX) (cc : ByteArray) (nL : Nat) (own : String) (R : Room) (E : ED) (md : Bool) (l : Launch) : Prop :=
  match Z with
  | (p, l', _, R', s, m, args, _, _, c, _, E', nL', A, md') =>
    CallFix p m c cc nL s args WS own ∧ EV E s ∧ (∀ q, s.heap.size ≤ q → A q) ∧ R' = R ∧ E' = E ∧ nL' = nL ∧ md' = md ∧ l' = l
def ZI (Z : CX) : Prop := match Z with
  | (_, _, _, _, _, _, _, _, meth, _, _, _, _, _, _) => meth.name = "<init>"
def bI (b : Bool) : Int32 := if b then 1 else 0
theorem bI_t : bI true = 1 := rfl
theorem bI_f : bI false = 0 := rfl
theorem bI_0 {b : Bool} : bI b = 0 ↔ b = false := by cases b <;> decide
theorem bI_n {b : Bool} : ¬ bI b = 0 ↔ b = true := by cases b <;> decide
theorem bI_z (b : Bool) : narrow .boolean (.int (bI b)) = .int (bI b) := by cases b <;> decide
theorem n_i (v : Int32) : narrow .int (.int v) = .int v := rfl
section JR
variable {Z : CX} {cc : ByteArray} {nL : Nat} {own : String} {R : Room} {E : ED} {md : Bool} {l : Launch} {cells slots pc : Nat} {ws : va_W} {L L' : List (Nat × Value)} {rest : List Value}
theorem i_iconst (B : OK Z cc nL own R E md l) {n : Int} {v : Int32} (hdg : decode cc pc = .ok (.iconst n, 1)) (hv : Int32.ofInt n = v) (k : J Z cells slots ws (pc + 1) L (.int v :: rest)) : J Z cells slots ws pc L (rest) := by
  obtain ⟨p, l', e, R', s, m, args, below, meth, c, Q, E', nL', A, md'⟩ := Z
  obtain ⟨⟨hx, hb, hml, hown, hts⟩, hE, hA, rfl, rfl, rfl, rfl, rfl⟩ := B
  intro H locs ls hP hD hS hmd hl
  exact lv_iconst hx hb hdg hv (k H locs ls hP hD hS hmd hl)
theorem i_bipush (B : OK Z cc nL own R E md l) {n : Int} {v : Int32} (hdg : decode cc pc = .ok (.bipush n, 2)) (hv : (Int8.ofInt n).toInt32 = v) (k : J Z cells slots ws (pc + 2) L (.int v :: rest)) : J Z cells slots ws pc L (rest) := by
  obtain ⟨p, l', e, R', s, m, args, below, meth, c, Q, E', nL', A, md'⟩ := Z
  obtain ⟨⟨hx, hb, hml, hown, hts⟩, hE, hA, rfl, rfl, rfl, rfl, rfl⟩ := B
  intro H locs ls hP hD hS hmd hl
  exact lv_bipush hx hb hdg hv (k H locs ls hP hD hS hmd hl)
theorem i_sipush (B : OK Z cc nL own R E md l) {n : Int} {v : Int32} (hdg : decode cc pc = .ok (.sipush n, 3)) (hv : (Int16.ofInt n).toInt32 = v) (k : J Z cells slots ws (pc + 3) L (.int v :: rest)) : J Z cells slots ws pc L (rest) := by
  obtain ⟨p, l', e, R', s, m, args, below, meth, c, Q, E', nL', A, md'⟩ := Z
  obtain ⟨⟨hx, hb, hml, hown, hts⟩, hE, hA, rfl, rfl, rfl, rfl, rfl⟩ := B
  intro H locs ls hP hD hS hmd hl
  exact lv_sipush hx hb hdg hv (k H locs ls hP hD hS hmd hl)
theorem i_lconst (B : OK Z cc nL own R E md l) {n : Fin 2} {v : Int64} (hdg : decode cc pc = .ok (.lconst n, 1)) (hv : Int64.ofNat (n : Nat) = v) (k : J Z cells slots ws (pc + 1) L (.long v :: rest)) : J Z cells slots ws pc L (rest) := by
  obtain ⟨p, l', e, R', s, m, args, below, meth, c, Q, E', nL', A, md'⟩ := Z
  obtain ⟨⟨hx, hb, hml, hown, hts⟩, hE, hA, rfl, rfl, rfl, rfl, rfl⟩ := B
  intro H locs ls hP hD hS hmd hl
  exact lv_lconst hx hb hdg hv (k H locs ls hP hD hS hmd hl)
theorem i_ldc (B : OK Z cc nL own R E md l) {ix : Nat} {v : Int32} (hc : Cond.constant own ix v ∈ WS) (hdg : decode cc pc = .ok (.ldc ix, 2)) (k : J Z cells slots ws (pc + 2) L (.int v :: rest)) : J Z cells slots ws pc L (rest) := by
  obtain ⟨p, l', e, R', s, m, args, below, meth, c, Q, E', nL', A, md'⟩ := Z
  obtain ⟨⟨hx, hb, hml, hown, hts⟩, hE, hA, rfl, rfl, rfl, rfl, rfl⟩ := B
  intro H locs ls hP hD hS hmd hl
  exact lv_ldc hx hb hown (hts _ hc) hdg (k H locs ls hP hD hS hmd hl)
theorem i_ldcw (B : OK Z cc nL own R E md l) {ix : Nat} {v : Int32} (hc : Cond.constant own ix v ∈ WS) (hdg : decode cc pc = .ok (.ldc_w ix, 3)) (k : J Z cells slots ws (pc + 3) L (.int v :: rest)) : J Z cells slots ws pc L (rest) := by
  obtain ⟨p, l', e, R', s, m, args, below, meth, c, Q, E', nL', A, md'⟩ := Z
  obtain ⟨⟨hx, hb, hml, hown, hts⟩, hE, hA, rfl, rfl, rfl, rfl, rfl⟩ := B
  intro H locs ls hP hD hS hmd hl
  exact lv_ldcw hx hb hown (hts _ hc) hdg (k H locs ls hP hD hS hmd hl)
theorem i_ldc2 (B : OK Z cc nL own R E md l) {ix : Nat} {v : Int64} (hc : Cond.constantLong own ix v ∈ WS) (hdg : decode cc pc = .ok (.ldc2_w ix, 3)) (k : J Z cells slots ws (pc + 3) L (.long v :: rest)) : J Z cells slots ws pc L (rest) := by
  obtain ⟨p, l', e, R', s, m, args, below, meth, c, Q, E', nL', A, md'⟩ := Z
  obtain ⟨⟨hx, hb, hml, hown, hts⟩, hE, hA, rfl, rfl, rfl, rfl, rfl⟩ := B
  intro H locs ls hP hD hS hmd hl
  exact lv_ldc2 hx hb hown (hts _ hc) hdg (k H locs ls hP hD hS hmd hl)
theorem i_iload_n (B : OK Z cc nL own R E md l) {j : Fin 4} {x : Int32} (n : Nat) (hdg : decode cc pc = .ok (.iload_n j, 1)) (h : L[n]? = some ((j : Nat), .int x)) (k : J Z cells slots ws (pc + 1) L (.int x :: rest)) : J Z cells slots ws pc L (rest) := by
  obtain ⟨p, l', e, R', s, m, args, below, meth, c, Q, E', nL', A, md'⟩ := Z
  obtain ⟨⟨hx, hb, hml, hown, hts⟩, hE, hA, rfl, rfl, rfl, rfl, rfl⟩ := B
  intro H locs ls hP hD hS hmd hl
  exact lv_iload_n hx hb hdg rfl (lv_at hl n h) (k H locs ls hP hD hS hmd hl)
theorem i_iload (B : OK Z cc nL own R E md l) {j : Nat} {x : Int32} (n : Nat) (hdg : decode cc pc = .ok (.iload j, 2)) (h : L[n]? = some (j, .int x)) (k : J Z cells slots ws (pc + 2) L (.int x :: rest)) : J Z cells slots ws pc L (rest) := by
  obtain ⟨p, l', e, R', s, m, args, below, meth, c, Q, E', nL', A, md'⟩ := Z
  obtain ⟨⟨hx, hb, hml, hown, hts⟩, hE, hA, rfl, rfl, rfl, rfl, rfl⟩ := B
  intro H locs ls hP hD hS hmd hl
  exact lv_iload hx hb hdg (lv_at hl n h) (k H locs ls hP hD hS hmd hl)
theorem i_istore (B : OK Z cc nL own R E md l) {j : Nat} {x : Int32} (L' : List (Nat × Value)) (hdg : decode cc pc = .ok (.istore j, 2)) (hn : j < nL) (hL : (j, Value.int x) :: L.filter (fun q => !(q.1 == j) && !(q.1 + 1 == j && q.2.category == 2)) = L') (k : J Z cells slots ws (pc + 2) L' (rest)) : J Z cells slots ws pc L (.int x :: rest) := by
  obtain ⟨p, l', e, R', s, m, args, below, meth, c, Q, E', nL', A, md'⟩ := Z
  obtain ⟨⟨hx, hb, hml, hown, hts⟩, hE, hA, rfl, rfl, rfl, rfl, rfl⟩ := B
  intro H locs ls hP hD hS hmd hl
  exact lv_istore hx hb hdg hl hn hL (fun ls hl => k H locs ls hP hD hS hmd hl)
theorem i_istore_n (B : OK Z cc nL own R E md l) {j : Fin 4} {x : Int32} (L' : List (Nat × Value)) (hdg : decode cc pc = .ok (.istore_n j, 1)) (hn : (j : Nat) < nL) (hL : ((j : Nat), Value.int x) :: L.filter (fun q => !(q.1 == (j : Nat)) && !(q.1 + 1 == (j : Nat) && q.2.category == 2)) = L') (k : J Z cells slots ws (pc + 1) L' (rest)) : J Z cells slots ws pc L (.int x :: rest) := by
  obtain ⟨p, l', e, R', s, m, args, below, meth, c, Q, E', nL', A, md'⟩ := Z
  obtain ⟨⟨hx, hb, hml, hown, hts⟩, hE, hA, rfl, rfl, rfl, rfl, rfl⟩ := B
  intro H locs ls hP hD hS hmd hl
  exact lv_istore_n hx hb hdg rfl hl hn hL (fun ls hl => k H locs ls hP hD hS hmd hl)
theorem i_lload_n (B : OK Z cc nL own R E md l) {j : Fin 4} {x : Int64} (n : Nat) (hdg : decode cc pc = .ok (.lload_n j, 1)) (h : L[n]? = some ((j : Nat), .long x)) (k : J Z cells slots ws (pc + 1) L (.long x :: rest)) : J Z cells slots ws pc L (rest) := by
  obtain ⟨p, l', e, R', s, m, args, below, meth, c, Q, E', nL', A, md'⟩ := Z
  obtain ⟨⟨hx, hb, hml, hown, hts⟩, hE, hA, rfl, rfl, rfl, rfl, rfl⟩ := B
  intro H locs ls hP hD hS hmd hl
  exact lv_lload_n hx hb hdg rfl (lv_at hl n h) (k H locs ls hP hD hS hmd hl)
theorem i_lload (B : OK Z cc nL own R E md l) {j : Nat} {x : Int64} (n : Nat) (hdg : decode cc pc = .ok (.lload j, 2)) (h : L[n]? = some (j, .long x)) (k : J Z cells slots ws (pc + 2) L (.long x :: rest)) : J Z cells slots ws pc L (rest) := by
  obtain ⟨p, l', e, R', s, m, args, below, meth, c, Q, E', nL', A, md'⟩ := Z
  obtain ⟨⟨hx, hb, hml, hown, hts⟩, hE, hA, rfl, rfl, rfl, rfl, rfl⟩ := B
  intro H locs ls hP hD hS hmd hl
  exact lv_lload hx hb hdg (lv_at hl n h) (k H locs ls hP hD hS hmd hl)
theorem i_lstore (B : OK Z cc nL own R E md l) {j : Nat} {x : Int64} (L' : List (Nat × Value)) (hdg : decode cc pc = .ok (.lstore j, 2)) (hn : j + 1 < nL) (hL : (j, Value.long x) :: L.filter (fun q => !(q.1 == j) && (!(q.1 == j + 1) && !(q.1 + 1 == j && q.2.category == 2))) = L') (k : J Z cells slots ws (pc + 2) L' (rest)) : J Z cells slots ws pc L (.long x :: rest) := by
  obtain ⟨p, l', e, R', s, m, args, below, meth, c, Q, E', nL', A, md'⟩ := Z
  obtain ⟨⟨hx, hb, hml, hown, hts⟩, hE, hA, rfl, rfl, rfl, rfl, rfl⟩ := B
  intro H locs ls hP hD hS hmd hl
  exact lv_lstore hx hb hdg hl hn hL (fun ls hl => k H locs ls hP hD hS hmd hl)
theorem i_lstore_n (B : OK Z cc nL own R E md l) {j : Fin 4} {x : Int64} (L' : List (Nat × Value)) (hdg : decode cc pc = .ok (.lstore_n j, 1)) (hn : (j : Nat) + 1 < nL) (hL : ((j : Nat), Value.long x) :: L.filter (fun q => !(q.1 == (j : Nat)) && (!(q.1 == (j : Nat) + 1) && !(q.1 + 1 == (j : Nat) && q.2.category == 2))) = L') (k : J Z cells slots ws (pc + 1) L' (rest)) : J Z cells slots ws pc L (.long x :: rest) := by
  obtain ⟨p, l', e, R', s, m, args, below, meth, c, Q, E', nL', A, md'⟩ := Z
  obtain ⟨⟨hx, hb, hml, hown, hts⟩, hE, hA, rfl, rfl, rfl, rfl, rfl⟩ := B
  intro H locs ls hP hD hS hmd hl
  exact lv_lstore_n hx hb hdg rfl hl hn hL (fun ls hl => k H locs ls hP hD hS hmd hl)
theorem i_aload_n (B : OK Z cc nL own R E md l) {j : Fin 4} {x : Nat} (n : Nat) (hdg : decode cc pc = .ok (.aload_n j, 1)) (h : L[n]? = some ((j : Nat), .ref x)) (k : J Z cells slots ws (pc + 1) L (.ref x :: rest)) : J Z cells slots ws pc L (rest) := by
  obtain ⟨p, l', e, R', s, m, args, below, meth, c, Q, E', nL', A, md'⟩ := Z
  obtain ⟨⟨hx, hb, hml, hown, hts⟩, hE, hA, rfl, rfl, rfl, rfl, rfl⟩ := B
  intro H locs ls hP hD hS hmd hl
  exact lv_aload_n hx hb hdg rfl (lv_at hl n h) (k H locs ls hP hD hS hmd hl)
theorem i_aload (B : OK Z cc nL own R E md l) {j : Nat} {x : Nat} (n : Nat) (hdg : decode cc pc = .ok (.aload j, 2)) (h : L[n]? = some (j, .ref x)) (k : J Z cells slots ws (pc + 2) L (.ref x :: rest)) : J Z cells slots ws pc L (rest) := by
  obtain ⟨p, l', e, R', s, m, args, below, meth, c, Q, E', nL', A, md'⟩ := Z
  obtain ⟨⟨hx, hb, hml, hown, hts⟩, hE, hA, rfl, rfl, rfl, rfl, rfl⟩ := B
  intro H locs ls hP hD hS hmd hl
  exact lv_aload hx hb hdg (lv_at hl n h) (k H locs ls hP hD hS hmd hl)
theorem i_astore (B : OK Z cc nL own R E md l) {j : Nat} {x : Nat} (L' : List (Nat × Value)) (hdg : decode cc pc = .ok (.astore j, 2)) (hn : j < nL) (hL : (j, Value.ref x) :: L.filter (fun q => !(q.1 == j) && !(q.1 + 1 == j && q.2.category == 2)) = L') (k : J Z cells slots ws (pc + 2) L' (rest)) : J Z cells slots ws pc L (.ref x :: rest) := by
  obtain ⟨p, l', e, R', s, m, args, below, meth, c, Q, E', nL', A, md'⟩ := Z
  obtain ⟨⟨hx, hb, hml, hown, hts⟩, hE, hA, rfl, rfl, rfl, rfl, rfl⟩ := B
  intro H locs ls hP hD hS hmd hl
  exact lv_astore hx hb hdg hl hn hL (fun ls hl => k H locs ls hP hD hS hmd hl)
theorem i_astore_n (B : OK Z cc nL own R E md l) {j : Fin 4} {x : Nat} (L' : List (Nat × Value)) (hdg : decode cc pc = .ok (.astore_n j, 1)) (hn : (j : Nat) < nL) (hL : ((j : Nat), Value.ref x) :: L.filter (fun q => !(q.1 == (j : Nat)) && !(q.1 + 1 == (j : Nat) && q.2.category == 2)) = L') (k : J Z cells slots ws (pc + 1) L' (rest)) : J Z cells slots ws pc L (.ref x :: rest) := by
  obtain ⟨p, l', e, R', s, m, args, below, meth, c, Q, E', nL', A, md'⟩ := Z
  obtain ⟨⟨hx, hb, hml, hown, hts⟩, hE, hA, rfl, rfl, rfl, rfl, rfl⟩ := B
  intro H locs ls hP hD hS hmd hl
  exact lv_astore_n hx hb hdg rfl hl hn hL (fun ls hl => k H locs ls hP hD hS hmd hl)
theorem i_iinc (B : OK Z cc nL own R E md l) {j : Nat} {d : Int} {x v : Int32} (n : Nat) (L' : List (Nat × Value)) (hdg : decode cc pc = .ok (.iinc j d, 3)) (h : L[n]? = some (j, .int x)) (hv : x + Int32.ofInt d = v) (hn : j < nL) (hL : (j, Value.int v) :: L.filter (fun q => !(q.1 == j) && !(q.1 + 1 == j && q.2.category == 2)) = L') (k : J Z cells slots ws (pc + 3) L' (rest)) : J Z cells slots ws pc L (rest) := by
  obtain ⟨p, l', e, R', s, m, args, below, meth, c, Q, E', nL', A, md'⟩ := Z
  obtain ⟨⟨hx, hb, hml, hown, hts⟩, hE, hA, rfl, rfl, rfl, rfl, rfl⟩ := B
  intro H locs ls hP hD hS hmd hl
  exact lv_iinc hx hb hdg hl h hv hn hL (fun ls hl => k H locs ls hP hD hS hmd hl)
theorem i_iadd (B : OK Z cc nL own R E md l) {x y : Int32} (hdg : decode cc pc = .ok (.iadd, 1)) (k : J Z cells slots ws (pc + 1) L (.int (x + y) :: rest)) : J Z cells slots ws pc L (.int y :: .int x :: rest) := by
  obtain ⟨p, l', e, R', s, m, args, below, meth, c, Q, E', nL', A, md'⟩ := Z
  obtain ⟨⟨hx, hb, hml, hown, hts⟩, hE, hA, rfl, rfl, rfl, rfl, rfl⟩ := B
  intro H locs ls hP hD hS hmd hl
  exact lv_iadd hx hb hdg (k H locs ls hP hD hS hmd hl)
theorem i_isub (B : OK Z cc nL own R E md l) {x y : Int32} (hdg : decode cc pc = .ok (.isub, 1)) (k : J Z cells slots ws (pc + 1) L (.int (x - y) :: rest)) : J Z cells slots ws pc L (.int y :: .int x :: rest) := by
  obtain ⟨p, l', e, R', s, m, args, below, meth, c, Q, E', nL', A, md'⟩ := Z
  obtain ⟨⟨hx, hb, hml, hown, hts⟩, hE, hA, rfl, rfl, rfl, rfl, rfl⟩ := B
  intro H locs ls hP hD hS hmd hl
  exact lv_isub hx hb hdg (k H locs ls hP hD hS hmd hl)
theorem i_imul (B : OK Z cc nL own R E md l) {x y : Int32} (hdg : decode cc pc = .ok (.imul, 1)) (k : J Z cells slots ws (pc + 1) L (.int (x * y) :: rest)) : J Z cells slots ws pc L (.int y :: .int x :: rest) := by
  obtain ⟨p, l', e, R', s, m, args, below, meth, c, Q, E', nL', A, md'⟩ := Z
  obtain ⟨⟨hx, hb, hml, hown, hts⟩, hE, hA, rfl, rfl, rfl, rfl, rfl⟩ := B
  intro H locs ls hP hD hS hmd hl
  exact lv_imul hx hb hdg (k H locs ls hP hD hS hmd hl)
theorem i_iand (B : OK Z cc nL own R E md l) {x y : Int32} (hdg : decode cc pc = .ok (.iand, 1)) (k : J Z cells slots ws (pc + 1) L (.int (x &&& y) :: rest)) : J Z cells slots ws pc L (.int y :: .int x :: rest) := by
  obtain ⟨p, l', e, R', s, m, args, below, meth, c, Q, E', nL', A, md'⟩ := Z
  obtain ⟨⟨hx, hb, hml, hown, hts⟩, hE, hA, rfl, rfl, rfl, rfl, rfl⟩ := B
  intro H locs ls hP hD hS hmd hl
  exact lv_iand hx hb hdg (k H locs ls hP hD hS hmd hl)
theorem i_ior (B : OK Z cc nL own R E md l) {x y : Int32} (hdg : decode cc pc = .ok (.ior, 1)) (k : J Z cells slots ws (pc + 1) L (.int (x ||| y) :: rest)) : J Z cells slots ws pc L (.int y :: .int x :: rest) := by
  obtain ⟨p, l', e, R', s, m, args, below, meth, c, Q, E', nL', A, md'⟩ := Z
  obtain ⟨⟨hx, hb, hml, hown, hts⟩, hE, hA, rfl, rfl, rfl, rfl, rfl⟩ := B
  intro H locs ls hP hD hS hmd hl
  exact lv_ior hx hb hdg (k H locs ls hP hD hS hmd hl)
theorem i_ixor (B : OK Z cc nL own R E md l) {x y : Int32} (hdg : decode cc pc = .ok (.ixor, 1)) (k : J Z cells slots ws (pc + 1) L (.int (x ^^^ y) :: rest)) : J Z cells slots ws pc L (.int y :: .int x :: rest) := by
  obtain ⟨p, l', e, R', s, m, args, below, meth, c, Q, E', nL', A, md'⟩ := Z
  obtain ⟨⟨hx, hb, hml, hown, hts⟩, hE, hA, rfl, rfl, rfl, rfl, rfl⟩ := B
  intro H locs ls hP hD hS hmd hl
  exact lv_ixor hx hb hdg (k H locs ls hP hD hS hmd hl)
theorem i_ladd (B : OK Z cc nL own R E md l) {x y : Int64} (hdg : decode cc pc = .ok (.ladd, 1)) (k : J Z cells slots ws (pc + 1) L (.long (x + y) :: rest)) : J Z cells slots ws pc L (.long y :: .long x :: rest) := by
  obtain ⟨p, l', e, R', s, m, args, below, meth, c, Q, E', nL', A, md'⟩ := Z
  obtain ⟨⟨hx, hb, hml, hown, hts⟩, hE, hA, rfl, rfl, rfl, rfl, rfl⟩ := B
  intro H locs ls hP hD hS hmd hl
  exact lv_ladd hx hb hdg (k H locs ls hP hD hS hmd hl)
theorem i_lsub (B : OK Z cc nL own R E md l) {x y : Int64} (hdg : decode cc pc = .ok (.lsub, 1)) (k : J Z cells slots ws (pc + 1) L (.long (x - y) :: rest)) : J Z cells slots ws pc L (.long y :: .long x :: rest) := by
  obtain ⟨p, l', e, R', s, m, args, below, meth, c, Q, E', nL', A, md'⟩ := Z
  obtain ⟨⟨hx, hb, hml, hown, hts⟩, hE, hA, rfl, rfl, rfl, rfl, rfl⟩ := B
  intro H locs ls hP hD hS hmd hl
  exact lv_lsub hx hb hdg (k H locs ls hP hD hS hmd hl)
theorem i_lmul (B : OK Z cc nL own R E md l) {x y : Int64} (hdg : decode cc pc = .ok (.lmul, 1)) (k : J Z cells slots ws (pc + 1) L (.long (x * y) :: rest)) : J Z cells slots ws pc L (.long y :: .long x :: rest) := by
  obtain ⟨p, l', e, R', s, m, args, below, meth, c, Q, E', nL', A, md'⟩ := Z
  obtain ⟨⟨hx, hb, hml, hown, hts⟩, hE, hA, rfl, rfl, rfl, rfl, rfl⟩ := B
  intro H locs ls hP hD hS hmd hl
  exact lv_lmul hx hb hdg (k H locs ls hP hD hS hmd hl)
theorem i_idiv (B : OK Z cc nL own R E md l) {x y : Int32} (hdg : decode cc pc = .ok (.idiv, 1)) (hne : ¬ y = 0) (k : J Z cells slots ws (pc + 1) L (.int (x / y) :: rest)) : J Z cells slots ws pc L (.int y :: .int x :: rest) := by
  obtain ⟨p, l', e, R', s, m, args, below, meth, c, Q, E', nL', A, md'⟩ := Z
  obtain ⟨⟨hx, hb, hml, hown, hts⟩, hE, hA, rfl, rfl, rfl, rfl, rfl⟩ := B
  intro H locs ls hP hD hS hmd hl
  exact lv_idiv hx hb hdg hne (k H locs ls hP hD hS hmd hl)
theorem i_irem (B : OK Z cc nL own R E md l) {x y : Int32} (hdg : decode cc pc = .ok (.irem, 1)) (hne : ¬ y = 0) (k : J Z cells slots ws (pc + 1) L (.int (x - x / y * y) :: rest)) : J Z cells slots ws pc L (.int y :: .int x :: rest) := by
  obtain ⟨p, l', e, R', s, m, args, below, meth, c, Q, E', nL', A, md'⟩ := Z
  obtain ⟨⟨hx, hb, hml, hown, hts⟩, hE, hA, rfl, rfl, rfl, rfl, rfl⟩ := B
  intro H locs ls hP hD hS hmd hl
  exact lv_irem hx hb hdg hne (k H locs ls hP hD hS hmd hl)
theorem i_ineg (B : OK Z cc nL own R E md l) {x : Int32} (hdg : decode cc pc = .ok (.ineg, 1)) (k : J Z cells slots ws (pc + 1) L (.int (-x) :: rest)) : J Z cells slots ws pc L (.int x :: rest) := by
  obtain ⟨p, l', e, R', s, m, args, below, meth, c, Q, E', nL', A, md'⟩ := Z
  obtain ⟨⟨hx, hb, hml, hown, hts⟩, hE, hA, rfl, rfl, rfl, rfl, rfl⟩ := B
  intro H locs ls hP hD hS hmd hl
  exact lv_ineg hx hb hdg (k H locs ls hP hD hS hmd hl)
theorem i_ishl (B : OK Z cc nL own R E md l) {x y : Int32} (hdg : decode cc pc = .ok (.ishl, 1)) (k : J Z cells slots ws (pc + 1) L (.int (x <<< (y &&& 31)) :: rest)) : J Z cells slots ws pc L (.int y :: .int x :: rest) := by
  obtain ⟨p, l', e, R', s, m, args, below, meth, c, Q, E', nL', A, md'⟩ := Z
  obtain ⟨⟨hx, hb, hml, hown, hts⟩, hE, hA, rfl, rfl, rfl, rfl, rfl⟩ := B
  intro H locs ls hP hD hS hmd hl
  exact lv_ishl hx hb hdg (k H locs ls hP hD hS hmd hl)
theorem i_ishr (B : OK Z cc nL own R E md l) {x y : Int32} (hdg : decode cc pc = .ok (.ishr, 1)) (k : J Z cells slots ws (pc + 1) L (.int (x >>> (y &&& 31)) :: rest)) : J Z cells slots ws pc L (.int y :: .int x :: rest) := by
  obtain ⟨p, l', e, R', s, m, args, below, meth, c, Q, E', nL', A, md'⟩ := Z
  obtain ⟨⟨hx, hb, hml, hown, hts⟩, hE, hA, rfl, rfl, rfl, rfl, rfl⟩ := B
  intro H locs ls hP hD hS hmd hl
  exact lv_ishr hx hb hdg (k H locs ls hP hD hS hmd hl)
theorem i_iushr (B : OK Z cc nL own R E md l) {x y v : Int32} (hdg : decode cc pc = .ok (.iushr, 1)) (hv : (x.toUInt32 >>> (y.toUInt32 &&& Int32.toUInt32 31)).toInt32 = v) (k : J Z cells slots ws (pc + 1) L (.int v :: rest)) : J Z cells slots ws pc L (.int y :: .int x :: rest) := by
  obtain ⟨p, l', e, R', s, m, args, below, meth, c, Q, E', nL', A, md'⟩ := Z
  obtain ⟨⟨hx, hb, hml, hown, hts⟩, hE, hA, rfl, rfl, rfl, rfl, rfl⟩ := B
  intro H locs ls hP hD hS hmd hl
  exact lv_iushr hx hb hdg hv (k H locs ls hP hD hS hmd hl)
theorem i_i2l (B : OK Z cc nL own R E md l) {x : Int32} (hdg : decode cc pc = .ok (.i2l, 1)) (k : J Z cells slots ws (pc + 1) L (.long x.toInt64 :: rest)) : J Z cells slots ws pc L (.int x :: rest) := by
  obtain ⟨p, l', e, R', s, m, args, below, meth, c, Q, E', nL', A, md'⟩ := Z
  obtain ⟨⟨hx, hb, hml, hown, hts⟩, hE, hA, rfl, rfl, rfl, rfl, rfl⟩ := B
  intro H locs ls hP hD hS hmd hl
  exact lv_i2l hx hb hdg rfl (k H locs ls hP hD hS hmd hl)
theorem i_dup (B : OK Z cc nL own R E md l) {va : Value} (hdg : decode cc pc = .ok (.dup, 1)) (hva : va.category = 1) (k : J Z cells slots ws (pc + 1) L (va :: va :: rest)) : J Z cells slots ws pc L (va :: rest) := by
  obtain ⟨p, l', e, R', s, m, args, below, meth, c, Q, E', nL', A, md'⟩ := Z
  obtain ⟨⟨hx, hb, hml, hown, hts⟩, hE, hA, rfl, rfl, rfl, rfl, rfl⟩ := B
  intro H locs ls hP hD hS hmd hl
  exact lv_dup hx hb hdg hva (k H locs ls hP hD hS hmd hl)
theorem i_lcmp (B : OK Z cc nL own R E md l) {x y : Int64} (hdg : decode cc pc = .ok (.lcmp, 1)) (k : J Z cells slots ws (pc + 1) L (.int (lg_cmp x y) :: rest)) : J Z cells slots ws pc L (.long y :: .long x :: rest) := by
  obtain ⟨p, l', e, R', s, m, args, below, meth, c, Q, E', nL', A, md'⟩ := Z
  obtain ⟨⟨hx, hb, hml, hown, hts⟩, hE, hA, rfl, rfl, rfl, rfl, rfl⟩ := B
  intro H locs ls hP hD hS hmd hl
  exact W.lcmp hx hb hdg (k H locs ls hP hD hS hmd hl)
theorem i_goto (B : OK Z cc nL own R E md l) {off : Int} (tgt : Nat) (hdg : decode cc pc = .ok (.goto off, 3)) (ht : (pc : Int) + off = (tgt : Int)) (k : J Z cells slots ws (tgt) L (rest)) : J Z cells slots ws pc L (rest) := by
  obtain ⟨p, l', e, R', s, m, args, below, meth, c, Q, E', nL', A, md'⟩ := Z
  obtain ⟨⟨hx, hb, hml, hown, hts⟩, hE, hA, rfl, rfl, rfl, rfl, rfl⟩ := B
  intro H locs ls hP hD hS hmd hl
  exact lv_goto hx hb hdg ht (k H locs ls hP hD hS hmd hl)
theorem i_if_eq (B : OK Z cc nL own R E md l) {x : Int32} {off : Int} (tgt : Nat) (hdg : decode cc pc = .ok (.ifCond .eq off, 3)) (ht : (pc : Int) + off = (tgt : Int)) (kt : x = 0 → J Z cells slots ws tgt L rest) (kf : ¬ x = 0 → J Z cells slots ws (pc + 3) L rest) : J Z cells slots ws pc L (.int x :: rest) := by
  obtain ⟨p, l', e, R', s, m, args, below, meth, c, Q, E', nL', A, md'⟩ := Z
  obtain ⟨⟨hx, hb, hml, hown, hts⟩, hE, hA, rfl, rfl, rfl, rfl, rfl⟩ := B
  intro H locs ls hP hD hS hmd hl
  exact lv_if_eq hx hb hdg ht (fun h => kt h H locs ls hP hD hS hmd hl) (fun h => kf h H locs ls hP hD hS hmd hl)
theorem i_if_ne (B : OK Z cc nL own R E md l) {x : Int32} {off : Int} (tgt : Nat) (hdg : decode cc pc = .ok (.ifCond .ne off, 3)) (ht : (pc : Int) + off = (tgt : Int)) (kt : ¬ x = 0 → J Z cells slots ws tgt L rest) (kf : x = 0 → J Z cells slots ws (pc + 3) L rest) : J Z cells slots ws pc L (.int x :: rest) := by
  obtain ⟨p, l', e, R', s, m, args, below, meth, c, Q, E', nL', A, md'⟩ := Z
  obtain ⟨⟨hx, hb, hml, hown, hts⟩, hE, hA, rfl, rfl, rfl, rfl, rfl⟩ := B
  intro H locs ls hP hD hS hmd hl
  exact lv_if_ne hx hb hdg ht (fun h => kt h H locs ls hP hD hS hmd hl) (fun h => kf h H locs ls hP hD hS hmd hl)
theorem i_if_lt (B : OK Z cc nL own R E md l) {x : Int32} {off : Int} (tgt : Nat) (hdg : decode cc pc = .ok (.ifCond .lt off, 3)) (ht : (pc : Int) + off = (tgt : Int)) (kt : x < 0 → J Z cells slots ws tgt L rest) (kf : ¬ x < 0 → J Z cells slots ws (pc + 3) L rest) : J Z cells slots ws pc L (.int x :: rest) := by
  obtain ⟨p, l', e, R', s, m, args, below, meth, c, Q, E', nL', A, md'⟩ := Z
  obtain ⟨⟨hx, hb, hml, hown, hts⟩, hE, hA, rfl, rfl, rfl, rfl, rfl⟩ := B
  intro H locs ls hP hD hS hmd hl
  exact lv_if_lt hx hb hdg ht (fun h => kt h H locs ls hP hD hS hmd hl) (fun h => kf h H locs ls hP hD hS hmd hl)
theorem i_if_ge (B : OK Z cc nL own R E md l) {x : Int32} {off : Int} (tgt : Nat) (hdg : decode cc pc = .ok (.ifCond .ge off, 3)) (ht : (pc : Int) + off = (tgt : Int)) (kt : 0 ≤ x → J Z cells slots ws tgt L rest) (kf : ¬ 0 ≤ x → J Z cells slots ws (pc + 3) L rest) : J Z cells slots ws pc L (.int x :: rest) := by
  obtain ⟨p, l', e, R', s, m, args, below, meth, c, Q, E', nL', A, md'⟩ := Z
  obtain ⟨⟨hx, hb, hml, hown, hts⟩, hE, hA, rfl, rfl, rfl, rfl, rfl⟩ := B
  intro H locs ls hP hD hS hmd hl
  exact lv_if_ge hx hb hdg ht (fun h => kt h H locs ls hP hD hS hmd hl) (fun h => kf h H locs ls hP hD hS hmd hl)
theorem i_if_gt (B : OK Z cc nL own R E md l) {x : Int32} {off : Int} (tgt : Nat) (hdg : decode cc pc = .ok (.ifCond .gt off, 3)) (ht : (pc : Int) + off = (tgt : Int)) (kt : 0 < x → J Z cells slots ws tgt L rest) (kf : ¬ 0 < x → J Z cells slots ws (pc + 3) L rest) : J Z cells slots ws pc L (.int x :: rest) := by
  obtain ⟨p, l', e, R', s, m, args, below, meth, c, Q, E', nL', A, md'⟩ := Z
  obtain ⟨⟨hx, hb, hml, hown, hts⟩, hE, hA, rfl, rfl, rfl, rfl, rfl⟩ := B
  intro H locs ls hP hD hS hmd hl
  exact lv_if_gt hx hb hdg ht (fun h => kt h H locs ls hP hD hS hmd hl) (fun h => kf h H locs ls hP hD hS hmd hl)
theorem i_if_le (B : OK Z cc nL own R E md l) {x : Int32} {off : Int} (tgt : Nat) (hdg : decode cc pc = .ok (.ifCond .le off, 3)) (ht : (pc : Int) + off = (tgt : Int)) (kt : x ≤ 0 → J Z cells slots ws tgt L rest) (kf : ¬ x ≤ 0 → J Z cells slots ws (pc + 3) L rest) : J Z cells slots ws pc L (.int x :: rest) := by
  obtain ⟨p, l', e, R', s, m, args, below, meth, c, Q, E', nL', A, md'⟩ := Z
  obtain ⟨⟨hx, hb, hml, hown, hts⟩, hE, hA, rfl, rfl, rfl, rfl, rfl⟩ := B
  intro H locs ls hP hD hS hmd hl
  exact lv_if_le hx hb hdg ht (fun h => kt h H locs ls hP hD hS hmd hl) (fun h => kf h H locs ls hP hD hS hmd hl)
theorem i_icmp_eq (B : OK Z cc nL own R E md l) {x y : Int32} {off : Int} (tgt : Nat) (hdg : decode cc pc = .ok (.if_icmp .eq off, 3)) (ht : (pc : Int) + off = (tgt : Int)) (kt : x = y → J Z cells slots ws tgt L rest) (kf : ¬ x = y → J Z cells slots ws (pc + 3) L rest) : J Z cells slots ws pc L (.int y :: .int x :: rest) := by
  obtain ⟨p, l', e, R', s, m, args, below, meth, c, Q, E', nL', A, md'⟩ := Z
  obtain ⟨⟨hx, hb, hml, hown, hts⟩, hE, hA, rfl, rfl, rfl, rfl, rfl⟩ := B
  intro H locs ls hP hD hS hmd hl
  exact lv_icmp_eq hx hb hdg ht (fun h => kt h H locs ls hP hD hS hmd hl) (fun h => kf h H locs ls hP hD hS hmd hl)
theorem i_icmp_ne (B : OK Z cc nL own R E md l) {x y : Int32} {off : Int} (tgt : Nat) (hdg : decode cc pc = .ok (.if_icmp .ne off, 3)) (ht : (pc : Int) + off = (tgt : Int)) (kt : ¬ x = y → J Z cells slots ws tgt L rest) (kf : x = y → J Z cells slots ws (pc + 3) L rest) : J Z cells slots ws pc L (.int y :: .int x :: rest) := by
  obtain ⟨p, l', e, R', s, m, args, below, meth, c, Q, E', nL', A, md'⟩ := Z
  obtain ⟨⟨hx, hb, hml, hown, hts⟩, hE, hA, rfl, rfl, rfl, rfl, rfl⟩ := B
  intro H locs ls hP hD hS hmd hl
  exact lv_icmp_ne hx hb hdg ht (fun h => kt h H locs ls hP hD hS hmd hl) (fun h => kf h H locs ls hP hD hS hmd hl)
theorem i_icmp_lt (B : OK Z cc nL own R E md l) {x y : Int32} {off : Int} (tgt : Nat) (hdg : decode cc pc = .ok (.if_icmp .lt off, 3)) (ht : (pc : Int) + off = (tgt : Int)) (kt : x < y → J Z cells slots ws tgt L rest) (kf : ¬ x < y → J Z cells slots ws (pc + 3) L rest) : J Z cells slots ws pc L (.int y :: .int x :: rest) := by
  obtain ⟨p, l', e, R', s, m, args, below, meth, c, Q, E', nL', A, md'⟩ := Z
  obtain ⟨⟨hx, hb, hml, hown, hts⟩, hE, hA, rfl, rfl, rfl, rfl, rfl⟩ := B
  intro H locs ls hP hD hS hmd hl
  exact lv_icmp_lt hx hb hdg ht (fun h => kt h H locs ls hP hD hS hmd hl) (fun h => kf h H locs ls hP hD hS hmd hl)
theorem i_icmp_ge (B : OK Z cc nL own R E md l) {x y : Int32} {off : Int} (tgt : Nat) (hdg : decode cc pc = .ok (.if_icmp .ge off, 3)) (ht : (pc : Int) + off = (tgt : Int)) (kt : y ≤ x → J Z cells slots ws tgt L rest) (kf : ¬ y ≤ x → J Z cells slots ws (pc + 3) L rest) : J Z cells slots ws pc L (.int y :: .int x :: rest) := by
  obtain ⟨p, l', e, R', s, m, args, below, meth, c, Q, E', nL', A, md'⟩ := Z
  obtain ⟨⟨hx, hb, hml, hown, hts⟩, hE, hA, rfl, rfl, rfl, rfl, rfl⟩ := B
  intro H locs ls hP hD hS hmd hl
  exact lv_icmp_ge hx hb hdg ht (fun h => kt h H locs ls hP hD hS hmd hl) (fun h => kf h H locs ls hP hD hS hmd hl)
theorem i_icmp_gt (B : OK Z cc nL own R E md l) {x y : Int32} {off : Int} (tgt : Nat) (hdg : decode cc pc = .ok (.if_icmp .gt off, 3)) (ht : (pc : Int) + off = (tgt : Int)) (kt : y < x → J Z cells slots ws tgt L rest) (kf : ¬ y < x → J Z cells slots ws (pc + 3) L rest) : J Z cells slots ws pc L (.int y :: .int x :: rest) := by
  obtain ⟨p, l', e, R', s, m, args, below, meth, c, Q, E', nL', A, md'⟩ := Z
  obtain ⟨⟨hx, hb, hml, hown, hts⟩, hE, hA, rfl, rfl, rfl, rfl, rfl⟩ := B
  intro H locs ls hP hD hS hmd hl
  exact lv_icmp_gt hx hb hdg ht (fun h => kt h H locs ls hP hD hS hmd hl) (fun h => kf h H locs ls hP hD hS hmd hl)
theorem i_icmp_le (B : OK Z cc nL own R E md l) {x y : Int32} {off : Int} (tgt : Nat) (hdg : decode cc pc = .ok (.if_icmp .le off, 3)) (ht : (pc : Int) + off = (tgt : Int)) (kt : x ≤ y → J Z cells slots ws tgt L rest) (kf : ¬ x ≤ y → J Z cells slots ws (pc + 3) L rest) : J Z cells slots ws pc L (.int y :: .int x :: rest) := by
  obtain ⟨p, l', e, R', s, m, args, below, meth, c, Q, E', nL', A, md'⟩ := Z
  obtain ⟨⟨hx, hb, hml, hown, hts⟩, hE, hA, rfl, rfl, rfl, rfl, rfl⟩ := B
  intro H locs ls hP hD hS hmd hl
  exact lv_icmp_le hx hb hdg ht (fun h => kt h H locs ls hP hD hS hmd hl) (fun h => kf h H locs ls hP hD hS hmd hl)
end JR
section JH
variable {Z : CX} {cc : ByteArray} {nL : Nat} {own : String} {R : Room} {E : ED} {md : Bool} {l : Launch} {cells slots pc : Nat} {ws : va_W} {L L' : List (Nat × Value)} {rest : List Value} {a : Nat}
/-- a class of the worlds: its words, its place, its types -/
def CLS (ci : Nat) (C : String) (T : u_T) (N : Nat) (ty : Nat → FieldType) : Prop := (∀ w ∈ u_ws C T N, w ∈ WS) ∧ vwCl[ci]? = some (C, T, N) ∧ (∀ k, k < N → parseFieldDescriptor (T k).2.2.1 = some (ty k)) ∧ (∀ a, a < N → ∀ b, b < N → a ≠ b → (T a).2.1 ≠ (T b).2.1)
/-- a field as an instruction of 'own' names it -/
def FL (own : String) (ix ci k : Nat) (C : String) (T : u_T) (N : Nat) (ty : Nat → FieldType) : Prop := CLS ci C T N ty ∧ k < N ∧ Cond.fieldLink own ix (T k).1 (T k).2.1 (T k).2.2.1 ∈ WS
theorem i_get (B : OK Z cc nL own R E md l) {ix ci k N : Nat} {C : String} {T : u_T} {ty : Nat → FieldType} {fs : List Value} {v : Value} (f : FL own ix ci k C T N ty) (q0 : Nat) (he : ws[q0]? = some (a, .inr (ci, fs))) (hv : fs[k]? = some v) (hdg : decode cc pc = .ok (.getfield ix, 3)) (kk : J Z cells slots ws (pc + 3) L (v :: rest)) : J Z cells slots ws pc L (.ref a :: rest) := by
  obtain ⟨p, l', e, R', s, m, args, below, meth, c, Q, E', nL', A, md'⟩ := Z
  obtain ⟨⟨hx, hb, hml, hown, hts⟩, hE, hA, rfl, rfl, rfl, rfl, rfl⟩ := B
  intro H locs ls hP hD hS hmd hl
  obtain ⟨⟨hin, hc, -, -⟩, hk, hlink⟩ := f
  exact va_get hx hb hts hin hown hE.1 hP q0 he hc k hk (hts _ hlink) (fun _ h => h) hv hdg (kk H locs ls hP hD hS hmd hl)
theorem i_put (B : OK Z cc nL own R E false l) {ix ci k N : Nat} {C : String} {T : u_T} {ty : Nat → FieldType} {fs : List Value} {v : Value} (f : FL own ix ci k C T N ty) (q0 : Nat) (ws' : va_W) (he : ws[q0]? = some (a, .inr (ci, fs))) (hfin : (T k).2.2.2 = false) (hn : narrow (ty k) v = v) (hfit : fits (ty k) v = true) (hlen : k < fs.length) (hw : ws.set q0 (a, .inr (ci, fs.set k v)) = ws') (hdg : decode cc pc = .ok (.putfield ix, 3)) (kk : J Z cells slots ws' (pc + 3) L rest) : J Z cells slots ws pc L (v :: .ref a :: rest) := by
  subst hw
  obtain ⟨p, l', e, R', s, m, args, below, meth, c, Q, E', nL', A, md'⟩ := Z
  obtain ⟨⟨hx, hb, hml, hown, hts⟩, hE, hA, rfl, rfl, rfl, rfl, rfl⟩ := B
  intro H locs ls hP hD hS hmd hl
  obtain ⟨⟨hin, hc, hty, hnm⟩, hk, hlink⟩ := f
  exact va_put hx hb hts hin ty hty hnm hown hE.1 hP hD hS q0 he hc k hk (hts _ hlink) (fun _ h => h) hfin (hty k hk) hn hfit hlen hdg (fun H1 locs1 hP hD hS => kk H1 locs1 ls hP hD hS (fun h => by cases h) hl)
theorem i_putF (B : OK Z cc nL own R E false l) (hI : ZI Z) {ix ci k N : Nat} {C : String} {T : u_T} {ty : Nat → FieldType} {fs : List Value} {v : Value} (f : FL own ix ci k C T N ty) (q0 : Nat) (ws' : va_W) (he : ws[q0]? = some (a, .inr (ci, fs))) (hfin : (T k).2.2.2 = true) (hdecl : (T k).1 = own) (hn : narrow (ty k) v = v) (hfit : fits (ty k) v = true) (hlen : k < fs.length) (hw : ws.set q0 (a, .inr (ci, fs.set k v)) = ws') (hdg : decode cc pc = .ok (.putfield ix, 3)) (kk : J Z cells slots ws' (pc + 3) L rest) : J Z cells slots ws pc L (v :: .ref a :: rest) := by
  subst hw
  obtain ⟨p, l', e, R', s, m, args, below, meth, c, Q, E', nL', A, md'⟩ := Z
  obtain ⟨⟨hx, hb, hml, hown, hts⟩, hE, hA, rfl, rfl, rfl, rfl, rfl⟩ := B
  intro H locs ls hP hD hS hmd hl
  obtain ⟨⟨hin, hc, hty, hnm⟩, hk, hlink⟩ := f
  exact va_putF hx hb hts hin ty hty hnm hown hE.1 hP hD hS q0 he hc k hk (hts _ hlink) (fun _ h => h) hfin hI hdecl (hty k hk) hn hfit hlen hdg (fun H1 locs1 hP hD hS => kk H1 locs1 ls hP hD hS (fun h => by cases h) hl)
theorem i_iald (B : OK Z cc nL own R E md l) {n : Nat} {f : Nat → Int32} {i : Int32} (q0 : Nat) (ha : ws[q0]? = some (a, .inl (E.2.1, n, .inl f))) (hin : vp_in i n) (hdg : decode cc pc = .ok (.iaload, 1)) (kk : J Z cells slots ws (pc + 1) L (.int (f i.toNatClampNeg) :: rest)) : J Z cells slots ws pc L (.int i :: .ref a :: rest) := by
  obtain ⟨p, l', e, R', s, m, args, below, meth, c, Q, E', nL', A, md'⟩ := Z
  obtain ⟨⟨hx, hb, hml, hown, hts⟩, hE, hA, rfl, rfl, rfl, rfl, rfl⟩ := B
  intro H locs ls hP hD hS hmd hl
  exact va_iald hx hb hE.1 hP q0 0 ha rfl hin hdg (kk H locs ls hP hD hS hmd hl)
theorem i_zald (B : OK Z cc nL own R E md l) {n : Nat} {f : Nat → Int32} {i : Int32} (q0 : Nat) (ha : ws[q0]? = some (a, .inl (E.2.2, n, .inl f))) (hin : vp_in i n) (hdg : decode cc pc = .ok (.baload, 1)) (kk : J Z cells slots ws (pc + 1) L (.int (f i.toNatClampNeg) :: rest)) : J Z cells slots ws pc L (.int i :: .ref a :: rest) := by
  obtain ⟨p, l', e, R', s, m, args, below, meth, c, Q, E', nL', A, md'⟩ := Z
  obtain ⟨⟨hx, hb, hml, hown, hts⟩, hE, hA, rfl, rfl, rfl, rfl, rfl⟩ := B
  intro H locs ls hP hD hS hmd hl
  exact va_zald hx hb hE.1 hP q0 1 ha rfl hin hdg (kk H locs ls hP hD hS hmd hl)
/-- an index that is a number below the length -/
theorem i_ialdN (B : OK Z cc nL own R E md l) {n : Nat} {f : Nat → Int32} {i : Int32} (q0 j : Nat) (ha : ws[q0]? = some (a, .inl (E.2.1, n, .inl f))) (hi : i = nI j) (hj : j < n) (hn : n < 2 ^ 31) (hdg : decode cc pc = .ok (.iaload, 1)) (kk : J Z cells slots ws (pc + 1) L (.int (f j) :: rest)) : J Z cells slots ws pc L (.int i :: .ref a :: rest) := by
  subst hi
  exact i_iald B q0 ha (vp_in_nI hj hn) hdg (by rw [nI_clamp (by omega)]; exact kk)
theorem i_zaldN (B : OK Z cc nL own R E md l) {n : Nat} {f : Nat → Int32} {i : Int32} (q0 j : Nat) (ha : ws[q0]? = some (a, .inl (E.2.2, n, .inl f))) (hi : i = nI j) (hj : j < n) (hn : n < 2 ^ 31) (hdg : decode cc pc = .ok (.baload, 1)) (kk : J Z cells slots ws (pc + 1) L (.int (f j) :: rest)) : J Z cells slots ws pc L (.int i :: .ref a :: rest) := by
  subst hi
  exact i_zald B q0 ha (vp_in_nI hj hn) hdg (by rw [nI_clamp (by omega)]; exact kk)
theorem i_iastN (B : OK Z cc nL own R E false l) {n : Nat} {f : Nat → Int32} {i x : Int32} (q0 j : Nat) (ws' : va_W) (ha : ws[q0]? = some (a, .inl (E.2.1, n, .inl f))) (hi : i = nI j) (hj : j < n) (hn : n < 2 ^ 31) (hw : ws.set q0 (a, .inl (E.2.1, n, .inl (upd f j x))) = ws') (hdg : decode cc pc = .ok (.iastore, 1)) (kk : J Z cells slots ws' (pc + 1) L rest) : J Z cells slots ws pc L (.int x :: .int i :: .ref a :: rest) := by
  subst hi hw
  obtain ⟨p, l', e, R', s, m, args, below, meth, c, Q, E', nL', A, md'⟩ := Z
  obtain ⟨⟨hx, hb, hml, hown, hts⟩, hE, hA, rfl, rfl, rfl, rfl, rfl⟩ := B
  intro H locs ls hP hD hS hmd hl
  exact va_iast hx hb hE.1 hP hD hS q0 0 ha rfl (vp_in_nI hj hn) hdg (fun H1 locs1 hP hD hS => by
    rw [nI_clamp (by omega)] at hP hD
    exact kk H1 locs1 ls hP hD hS (fun h => by cases h) hl)
theorem i_zastN (B : OK Z cc nL own R E false l) {n : Nat} {f : Nat → Int32} {i x : Int32} (q0 j : Nat) (ws' : va_W) (ha : ws[q0]? = some (a, .inl (E.2.2, n, .inl f))) (hi : i = nI j) (hj : j < n) (hn : n < 2 ^ 31) (hw : ws.set q0 (a, .inl (E.2.2, n, .inl (upd f j (vp_nar .boolean x)))) = ws') (hdg : decode cc pc = .ok (.bastore, 1)) (kk : J Z cells slots ws' (pc + 1) L rest) : J Z cells slots ws pc L (.int x :: .int i :: .ref a :: rest) := by
  subst hi hw
  obtain ⟨p, l', e, R', s, m, args, below, meth, c, Q, E', nL', A, md'⟩ := Z
  obtain ⟨⟨hx, hb, hml, hown, hts⟩, hE, hA, rfl, rfl, rfl, rfl, rfl⟩ := B
  intro H locs ls hP hD hS hmd hl
  exact va_zast hx hb hE.1 hP hD hS q0 1 ha rfl (vp_in_nI hj hn) hdg (fun H1 locs1 hP hD hS => by
    rw [nI_clamp (by omega)] at hP hD
    exact kk H1 locs1 ls hP hD hS (fun h => by cases h) hl)
/-- new arrays, new objects: behind the world -/
theorem i_newI (B : OK Z cc nL own R E false l) {n : Int32} (N : Nat) (hw : Cond.arrayClass .int ∈ WS) (hn : n = nI N) (hN : N < 2 ^ 24) (hcells : cells + 1 ≤ R.cells) (hslots : slots + N ≤ R.slots) (hdg : decode cc pc = .ok (.newarray .int, 2)) (kk : ∀ q : Nat, J Z (cells + 1) (slots + N) (ws ++ [(q, .inl (E.2.1, N, .inl (fun _ => 0)))]) (pc + 2) L (.ref q :: rest)) : J Z cells slots ws pc L (.int n :: rest) := by
  obtain ⟨p, l', e, R', s, m, args, below, meth, c, Q, E', nL', A, md'⟩ := Z
  obtain ⟨⟨hx, hb, hml, hown, hts⟩, hE, hA, rfl, rfl, rfl, rfl, rfl⟩ := B
  intro H locs ls hP hD hS hmd hl
  subst hn
  refine va_newa (atype := .int) (a0 := (N, .inl (fun _ => 0))) hx hb (hts _ hw) rfl hE.1 hP hD hS hA (fun cA => rfl) (nI_pos (by omega)) (nI_clamp (by omega)) (by show N * 4 ≤ 536870912; omega) hcells hslots hdg (fun q cA H1 hK hP hD hS => ?_)
  have e1 : cA = E'.2.1 := by
    have h1 := (hK.2 2 _ rfl).2
    have h2 := (hK.2 0 _ rfl).2
    exact Option.some.inj (h1.symm.trans h2)
  subst e1
  exact kk q H1 locs ls hP hD hS (fun h => by cases h) hl
theorem i_newZ (B : OK Z cc nL own R E false l) {n : Int32} (N : Nat) (hw : Cond.arrayClass .boolean ∈ WS) (hn : n = nI N) (hN : N < 2 ^ 24) (hcells : cells + 1 ≤ R.cells) (hslots : slots + N ≤ R.slots) (hdg : decode cc pc = .ok (.newarray .boolean, 2)) (kk : ∀ q : Nat, J Z (cells + 1) (slots + N) (ws ++ [(q, .inl (E.2.2, N, .inl (fun _ => 0)))]) (pc + 2) L (.ref q :: rest)) : J Z cells slots ws pc L (.int n :: rest) := by
  obtain ⟨p, l', e, R', s, m, args, below, meth, c, Q, E', nL', A, md'⟩ := Z
  obtain ⟨⟨hx, hb, hml, hown, hts⟩, hE, hA, rfl, rfl, rfl, rfl, rfl⟩ := B
  intro H locs ls hP hD hS hmd hl
  subst hn
  refine va_newa (atype := .boolean) (a0 := (N, .inl (fun _ => 0))) hx hb (hts _ hw) rfl hE.1 hP hD hS hA (fun cA => rfl) (nI_pos (by omega)) (nI_clamp (by omega)) (by show N * 1 ≤ 536870912; omega) hcells hslots hdg (fun q cA H1 hK hP hD hS => ?_)
  have e1 : cA = E'.2.2 := by
    have h1 := (hK.2 2 _ rfl).2
    have h2 := (hK.2 1 _ rfl).2
    exact Option.some.inj (h1.symm.trans h2)
  subst e1
  exact kk q H1 locs ls hP hD hS (fun h => by cases h) hl
theorem i_new (B : OK Z cc nL own R E false l) {ix ci N : Nat} {C : String} {T : u_T} {ty : Nat → FieldType} (K : CLS ci C T N ty) (fs : List Value) (h1 : Cond.classLink own ix C ∈ WS) (h2 : Cond.instantiable C N ∈ WS) (h3 : Cond.initialized C ∈ WS) (hfs : ∀ j, j < N → defaultValue (ty j) = vp_V fs j) (hcells : cells + 1 ≤ R.cells) (hslots : slots + N ≤ R.slots) (hdg : decode cc pc = .ok (.new ix, 3)) (kk : ∀ q : Nat, J Z (cells + 1) (slots + N) (ws ++ [(q, .inr (ci, fs))]) (pc + 3) L (.ref q :: rest)) : J Z cells slots ws pc L rest := by
  obtain ⟨p, l', e, R', s, m, args, below, meth, c, Q, E', nL', A, md'⟩ := Z
  obtain ⟨⟨hx, hb, hml, hown, hts⟩, hE, hA, rfl, rfl, rfl, rfl, rfl⟩ := B
  intro H locs ls hP hD hS hmd hl
  obtain ⟨hin, hc, hty, hnm⟩ := K
  exact va_new hx hb hts hin ty hty hown (hts _ h1) (hts _ h2) (hts _ h3) hE.1 hP hD hS hA hc hfs hcells hslots hdg (fun q H1 hP hD hS => kk q H1 locs ls hP hD hS (fun h => by cases h) hl)
theorem i_objInit (B : OK Z cc nL own R E md l) {ix : Nat} (h1 : Cond.methodLink own ix objectInit ∈ WS) (h2 : Cond.instanceMethod objectInit ∈ WS) (h3 : Cond.code objectInit ⟨#[0xb1]⟩ 1 none ∈ WS) (hdg : decode cc pc = .ok (.invokespecial ix, 3)) (hf : 1 ≤ R.frames) (hlo : (rest.map fun v => v.category).sum + 12 ≤ R.locals) (k : J Z cells slots ws (pc + 3) L rest) : J Z cells slots ws pc L (.ref a :: rest) := by
  obtain ⟨p, l', e, R', s, m, args, below, meth, c, Q, E', nL', A, md'⟩ := Z
  obtain ⟨⟨hx, hb, hml, hown, hts⟩, hE, hA, rfl, rfl, rfl, rfl, rfl⟩ := B
  intro H locs ls hP hD hS hmd hl
  exact W.objInit hx hb hown (hts _ h1) (hts _ h2) (hts _ h3) rfl (by rw [hml]; exact hl.1) rfl hdg hf (by show 2 * 0 + _ + 12 ≤ _; omega) (k H locs ls hP hD hS hmd hl)
theorem i_widen {k n : Nat} (h1 : cells ≤ k) (h2 : slots ≤ n) (kk : J Z k n ws pc L rest) : J Z cells slots ws pc L rest := by
  obtain ⟨p, l', e, R', s, m, args, below, meth, c, Q, E', nL', A, md'⟩ := Z
  intro H locs ls hP hD hS hmd hl
  exact W.widen h1 h2 (kk H locs ls hP hD hS hmd hl)
/-- the world written otherwise -/
theorem i_world {ws' : va_W} (h : ws = ws') (kk : J Z cells slots ws' pc L rest) : J Z cells slots ws pc L rest := h ▸ kk
theorem i_locals (is : List Nat) (hL : lv_pick L is = L') (kk : J Z cells slots ws pc L' rest) : J Z cells slots ws pc L rest := by
  obtain ⟨p, l', e, R', s, m, args, below, meth, c, Q, E', nL', A, md'⟩ := Z
  intro H locs ls hP hD hS hmd hl
  exact kk H locs ls hP hD hS hmd (lv_sub hl is hL)
theorem i_val {v v' : Value} (h : v = v') (kk : J Z cells slots ws pc L (v' :: rest)) : J Z cells slots ws pc L (v :: rest) := h ▸ kk
theorem i_ifnullN (B : OK Z cc nL own R E md l) {off : Int} (tgt : Nat) (hdg : decode cc pc = .ok (.ifnull off, 3)) (ht : (pc : Int) + off = (tgt : Int)) (k : J Z cells slots ws tgt L rest) : J Z cells slots ws pc L (.null :: rest) := by
  obtain ⟨p, l', e, R', s, m, args, below, meth, c, Q, E', nL', A, md'⟩ := Z
  obtain ⟨⟨hx, hb, hml, hown, hts⟩, hE, hA, rfl, rfl, rfl, rfl, rfl⟩ := B
  intro H locs ls hP hD hS hmd hl
  exact lv_ifnullN hx hb hdg ht (k H locs ls hP hD hS hmd hl)
theorem i_ifnull (B : OK Z cc nL own R E md l) {off : Int} {x : Nat} (hdg : decode cc pc = .ok (.ifnull off, 3)) (k : J Z cells slots ws (pc + 3) L rest) : J Z cells slots ws pc L (.ref x :: rest) := by
  obtain ⟨p, l', e, R', s, m, args, below, meth, c, Q, E', nL', A, md'⟩ := Z
  obtain ⟨⟨hx, hb, hml, hown, hts⟩, hE, hA, rfl, rfl, rfl, rfl, rfl⟩ := B
  intro H locs ls hP hD hS hmd hl
  exact lv_ifnull hx hb hdg (k H locs ls hP hD hS hmd hl)
theorem i_ifnonnullN (B : OK Z cc nL own R E md l) {off : Int} (hdg : decode cc pc = .ok (.ifnonnull off, 3)) (k : J Z cells slots ws (pc + 3) L rest) : J Z cells slots ws pc L (.null :: rest) := by
  obtain ⟨p, l', e, R', s, m, args, below, meth, c, Q, E', nL', A, md'⟩ := Z
  obtain ⟨⟨hx, hb, hml, hown, hts⟩, hE, hA, rfl, rfl, rfl, rfl, rfl⟩ := B
  intro H locs ls hP hD hS hmd hl
  exact lv_ifnonnullN hx hb hdg (k H locs ls hP hD hS hmd hl)
theorem i_ifnonnull (B : OK Z cc nL own R E md l) {off : Int} {x : Nat} (tgt : Nat) (hdg : decode cc pc = .ok (.ifnonnull off, 3)) (ht : (pc : Int) + off = (tgt : Int)) (k : J Z cells slots ws tgt L rest) : J Z cells slots ws pc L (.ref x :: rest) := by
  obtain ⟨p, l', e, R', s, m, args, below, meth, c, Q, E', nL', A, md'⟩ := Z
  obtain ⟨⟨hx, hb, hml, hown, hts⟩, hE, hA, rfl, rfl, rfl, rfl, rfl⟩ := B
  intro H locs ls hP hD hS hmd hl
  exact lv_ifnonnull hx hb hdg ht (k H locs ls hP hD hS hmd hl)
theorem i_max (B : OK Z cc nL own R E md l) {ix : Nat} {x y : Int32} (h1 : Cond.methodLink own ix Lib.Math.max.name ∈ WS) (h2 : Cond.static Lib.Math.max.name ∈ WS) (h3 : Cond.initialized "java/lang/Math" ∈ WS) (h4 : Cond.code Lib.Math.max.name Lib.Math.max.code 2 (some .int) ∈ WS) (hf : 1 ≤ R.frames) (hlo : (rest.map fun v => v.category).sum + 13 ≤ R.locals) (hc : cells ≤ R.cells ∧ slots ≤ R.slots) (hdg : decode cc pc = .ok (.invokestatic ix, 3)) (k : J Z cells slots ws (pc + 3) L (.int (if x < y then y else x) :: rest)) : J Z cells slots ws pc L (.int y :: .int x :: rest) := by
  obtain ⟨p, l', e, R', s, m, args, below, meth, c, Q, E', nL', A, md'⟩ := Z
  obtain ⟨⟨hx, hb, hml, hown, hts⟩, hE, hA, rfl, rfl, rfl, rfl, rfl⟩ := B
  intro H locs ls hP hD hS hmd hl
  exact va_mmax hx hb (by rw [hml]; exact hl.1.symm) hown (hts _ h1) (hts _ h2) (hts _ h3) (hts _ h4) hf hlo hc.1 hc.2 hdg (k H locs ls hP hD hS hmd hl)
theorem i_min (B : OK Z cc nL own R E md l) {ix : Nat} {x y : Int32} (h1 : Cond.methodLink own ix Lib.Math.min.name ∈ WS) (h2 : Cond.static Lib.Math.min.name ∈ WS) (h3 : Cond.initialized "java/lang/Math" ∈ WS) (h4 : Cond.code Lib.Math.min.name Lib.Math.min.code 2 (some .int) ∈ WS) (hf : 1 ≤ R.frames) (hlo : (rest.map fun v => v.category).sum + 13 ≤ R.locals) (hc : cells ≤ R.cells ∧ slots ≤ R.slots) (hdg : decode cc pc = .ok (.invokestatic ix, 3)) (k : J Z cells slots ws (pc + 3) L (.int (if y < x then y else x) :: rest)) : J Z cells slots ws pc L (.int y :: .int x :: rest) := by
  obtain ⟨p, l', e, R', s, m, args, below, meth, c, Q, E', nL', A, md'⟩ := Z
  obtain ⟨⟨hx, hb, hml, hown, hts⟩, hE, hA, rfl, rfl, rfl, rfl, rfl⟩ := B
  intro H locs ls hP hD hS hmd hl
  exact va_mmin hx hb (by rw [hml]; exact hl.1.symm) hown (hts _ h1) (hts _ h2) (hts _ h3) (hts _ h4) hf hlo hc.1 hc.2 hdg (k H locs ls hP hD hS hmd hl)
theorem i_abs (B : OK Z cc nL own R E md l) {ix : Nat} {x : Int32} (h1 : Cond.methodLink own ix Lib.Math.abs.name ∈ WS) (h2 : Cond.static Lib.Math.abs.name ∈ WS) (h3 : Cond.initialized "java/lang/Math" ∈ WS) (h4 : Cond.code Lib.Math.abs.name Lib.Math.abs.code 1 (some .int) ∈ WS) (hf : 1 ≤ R.frames) (hlo : (rest.map fun v => v.category).sum + 13 ≤ R.locals) (hc : cells ≤ R.cells ∧ slots ≤ R.slots) (hdg : decode cc pc = .ok (.invokestatic ix, 3)) (k : J Z cells slots ws (pc + 3) L (.int (if 0 ≤ x then x else 0 - x) :: rest)) : J Z cells slots ws pc L (.int x :: rest) := by
  obtain ⟨p, l', e, R', s, m, args, below, meth, c, Q, E', nL', A, md'⟩ := Z
  obtain ⟨⟨hx, hb, hml, hown, hts⟩, hE, hA, rfl, rfl, rfl, rfl, rfl⟩ := B
  intro H locs ls hP hD hS hmd hl
  exact va_mabs hx hb (by rw [hml]; exact hl.1.symm) hown (hts _ h1) (hts _ h2) (hts _ h3) (hts _ h4) hf hlo hc.1 hc.2 hdg (k H locs ls hP hD hS hmd hl)
end JH
section JL
variable {Z : CX} {cc : ByteArray} {nL : Nat} {own : String} {R : Room} {E : ED} {md : Bool} {l : Launch} {cells slots pc : Nat} {ws : va_W} {L L' : List (Nat × Value)} {rest : List Value}
theorem j_nameI {x : Int32} (k : ∀ y : Int32, y = x → J Z cells slots ws pc L (.int y :: rest)) : J Z cells slots ws pc L (.int x :: rest) := k x rfl
theorem j_nameL {x : Int64} (k : ∀ y : Int64, y = x → J Z cells slots ws pc L (.long y :: rest)) : J Z cells slots ws pc L (.long x :: rest) := k x rfl
theorem i_Leq (h : L = L') (kk : J Z cells slots ws pc L' rest) : J Z cells slots ws pc L rest := h ▸ kk
theorem i_st {st' : List Value} (h : rest = st') (kk : J Z cells slots ws pc L st') : J Z cells slots ws pc L rest := h ▸ kk
theorem q_lt {x y : Int64} : lg_cmp x y < 0 ↔ x < y := by
  unfold lg_cmp
  by_cases h : x > y
  · rw [if_pos h]
    refine ⟨fun q => absurd q (by decide), fun q => ?_⟩
    rw [gt_iff_lt, Int64.lt_iff_toInt_lt] at h
    rw [Int64.lt_iff_toInt_lt] at q
    omega
  · rw [if_neg h]
    by_cases e : x = y
    · rw [if_pos e]
      subst e
      exact ⟨fun q => absurd q (by decide), fun q => absurd q h⟩
    · rw [if_neg e]
      refine ⟨fun _ => ?_, fun _ => by decide⟩
      rw [gt_iff_lt, Int64.lt_iff_toInt_lt] at h
      rw [Int64.lt_iff_toInt_lt]
      have : x.toInt ≠ y.toInt := fun q => e (Int64.toInt_inj.mp q)
      omega
theorem q_gt {x y : Int64} : 0 < lg_cmp x y ↔ y < x := by
  unfold lg_cmp
  by_cases h : x > y
  · rw [if_pos h]
    exact ⟨fun _ => h, fun _ => by decide⟩
  · rw [if_neg h]
    by_cases e : x = y
    · rw [if_pos e]
      exact ⟨fun q => absurd q (by decide), fun q => absurd q h⟩
    · rw [if_neg e]
      exact ⟨fun q => absurd q (by decide), fun q => absurd q h⟩
theorem q_n32 {a b : Int32} : ¬ a < b ↔ b ≤ a := by
  rw [Int32.lt_iff_toInt_lt, Int32.le_iff_toInt_le]
  omega
theorem q_n64 {a b : Int64} : ¬ a < b ↔ b ≤ a := by
  rw [Int64.lt_iff_toInt_lt, Int64.le_iff_toInt_le]
  omega
theorem q_m32 {a b : Int32} : ¬ b ≤ a ↔ a < b := by
  rw [Int32.lt_iff_toInt_lt, Int32.le_iff_toInt_le]
  omega
theorem q_m64 {a b : Int64} : ¬ b ≤ a ↔ a < b := by
  rw [Int64.lt_iff_toInt_lt, Int64.le_iff_toInt_le]
  omega
theorem q_ge {x y : Int64} : 0 ≤ lg_cmp x y ↔ y ≤ x := by
  rw [← q_n32, ← q_n64, q_lt]
theorem q_le {x y : Int64} : lg_cmp x y ≤ 0 ↔ x ≤ y := by
  rw [← q_n32, ← q_n64, q_gt]
theorem i_lc_lt (B : OK Z cc nL own R E md l) {x y : Int64} {off : Int} (tgt : Nat) (hdg : decode cc pc = .ok (.lcmp, 1)) (hdg2 : decode cc (pc + 1) = .ok (.ifCond .lt off, 3)) (ht : ((pc + 1 : Nat) : Int) + off = (tgt : Int)) (kt : x < y → J Z cells slots ws tgt L rest) (kf : ¬ x < y → J Z cells slots ws (pc + 1 + 3) L rest) : J Z cells slots ws pc L (.long y :: .long x :: rest) :=
  i_lcmp B hdg (i_if_lt B tgt hdg2 ht (fun h => kt (q_lt.mp h)) (fun h => kf (fun q => h (q_lt.mpr q))))
theorem i_lc_gt (B : OK Z cc nL own R E md l) {x y : Int64} {off : Int} (tgt : Nat) (hdg : decode cc pc = .ok (.lcmp, 1)) (hdg2 : decode cc (pc + 1) = .ok (.ifCond .gt off, 3)) (ht : ((pc + 1 : Nat) : Int) + off = (tgt : Int)) (kt : y < x → J Z cells slots ws tgt L rest) (kf : ¬ y < x → J Z cells slots ws (pc + 1 + 3) L rest) : J Z cells slots ws pc L (.long y :: .long x :: rest) :=
  i_lcmp B hdg (i_if_gt B tgt hdg2 ht (fun h => kt (q_gt.mp h)) (fun h => kf (fun q => h (q_gt.mpr q))))
theorem i_lc_ge (B : OK Z cc nL own R E md l) {x y : Int64} {off : Int} (tgt : Nat) (hdg : decode cc pc = .ok (.lcmp, 1)) (hdg2 : decode cc (pc + 1) = .ok (.ifCond .ge off, 3)) (ht : ((pc + 1 : Nat) : Int) + off = (tgt : Int)) (kt : y ≤ x → J Z cells slots ws tgt L rest) (kf : ¬ y ≤ x → J Z cells slots ws (pc + 1 + 3) L rest) : J Z cells slots ws pc L (.long y :: .long x :: rest) :=
  i_lcmp B hdg (i_if_ge B tgt hdg2 ht (fun h => kt (q_ge.mp h)) (fun h => kf (fun q => h (q_ge.mpr q))))
theorem i_lc_le (B : OK Z cc nL own R E md l) {x y : Int64} {off : Int} (tgt : Nat) (hdg : decode cc pc = .ok (.lcmp, 1)) (hdg2 : decode cc (pc + 1) = .ok (.ifCond .le off, 3)) (ht : ((pc + 1 : Nat) : Int) + off = (tgt : Int)) (kt : x ≤ y → J Z cells slots ws tgt L rest) (kf : ¬ x ≤ y → J Z cells slots ws (pc + 1 + 3) L rest) : J Z cells slots ws pc L (.long y :: .long x :: rest) :=
  i_lcmp B hdg (i_if_le B tgt hdg2 ht (fun h => kt (q_le.mp h)) (fun h => kf (fun q => h (q_le.mpr q))))
end JL
/-! ===== contracts: readers (the heap stays), writers (a part of the world changes) ===== -/
/-- a method as a callee: its code, its class, its parameters -/
def Cal (y : MethodName) (bytes : ByteArray) (maxL : Nat) (ret : Option FieldType) (n : Nat) : Prop := Cond.code y bytes maxL ret ∈ WS ∧ Cond.initialized y.cls ∈ WS ∧ (y.cls ≠ "java/lang/invoke/MethodHandle" ∧ y.cls ≠ "java/lang/invoke/VarHandle" ∧ (parseMethodDescriptor y.desc).map (fun d => d.parameters.length) = some n)
def RO (l : Launch) (E : ED) (y : MethodName) (bytes : ByteArray) (maxL : Nat) (rt : FieldType) (F Lc : Nat) (As : List Value) (ws : va_W) (post : Int32 → Prop) : Prop := Met l y (Cond.code y bytes maxL (some rt) :: WS) { frames := F, cells := 0, slots := 0, locals := Lc } (va_Pc As (fun U => EV E U ∧ va_P E.1 vwCl ws U.heap ∧ va_D (fun _ => True) ws)) (vp_Si post) 0 0 (fun _ => False)
def WR {S : Type} (l : Launch) (E : ED) (y : MethodName) (bytes : ByteArray) (maxL : Nat) (rt : FieldType) (F Lc mc ms : Nat) (As : List Value) (wi : va_W) (post : Int32 → S → Prop) (wo : S → va_W) : Prop := ∀ sz : Nat, Met l y (Cond.code y bytes maxL (some rt) :: WS) { frames := F, cells := mc, slots := ms, locals := Lc } (va_Pc As (fun U => U.heap.size = sz ∧ EV E U ∧ va_P E.1 vwCl wi U.heap ∧ va_D (fun _ => True) wi)) (va_Qi post (fun u t => va_P E.1 vwCl (wo u) t.heap ∧ va_D (va_A wi sz) (wo u)) (va_A wi sz)) mc ms (va_A wi sz)
def WV {S : Type} (l : Launch) (E : ED) (y : MethodName) (bytes : ByteArray) (maxL : Nat) (F Lc mc ms : Nat) (As : List Value) (wi : va_W) (post : S → Prop) (wo : S → va_W) : Prop := ∀ sz : Nat, Met l y (Cond.code y bytes maxL none :: WS) { frames := F, cells := mc, slots := ms, locals := Lc } (va_Pc As (fun U => U.heap.size = sz ∧ EV E U ∧ va_P E.1 vwCl wi U.heap ∧ va_D (fun _ => True) wi)) (va_Qv post (fun u t => va_P E.1 vwCl (wo u) t.heap ∧ va_D (va_A wi sz) (wo u)) (va_A wi sz)) mc ms (va_A wi sz)
theorem FB_ro {E : ED} {As : List Value} {ws : va_W} : FrameBlind (va_Pc As (fun U => EV E U ∧ va_P E.1 vwCl ws U.heap ∧ va_D (fun _ => True) ws)) := fun a U g mk h => ⟨h.1, h.2.1.call g mk a, h.2.2.1, h.2.2.2⟩
theorem FB_wr {E : ED} {As : List Value} {ws : va_W} {sz : Nat} : FrameBlind (va_Pc As (fun U => U.heap.size = sz ∧ EV E U ∧ va_P E.1 vwCl ws U.heap ∧ va_D (fun _ => True) ws)) := fun a U g mk h => ⟨h.1, h.2.1, h.2.2.1.call g mk a, h.2.2.2.1, h.2.2.2.2⟩
theorem RO.mk {l : Launch} {E : ED} {y : MethodName} {bytes : ByteArray} {maxL : Nat} {rt : FieldType} {F Lc : Nat} {As : List Value} {ws : va_W} {post : Int32 → Prop} (hy : plainName y.cls = true) (hm : (lg_sl As).length ≤ maxL) (L0 : List (Nat × Value)) (hL0 : lv_args 0 As = L0)
    (body : ∀ Z : CX, OK Z bytes maxL y.cls { frames := F, cells := 0, slots := 0, locals := Lc } E true l → (∀ (pc : Nat) (L : List (Nat × Value)) (v : Int32), narrow rt (.int v) = .int v → decode bytes pc = .ok (.ireturn, 1) → post v → J Z 0 0 ws pc L [.int v]) → J Z 0 0 ws 0 L0 []) : RO l E y bytes maxL rt F Lc As ws post := by
  subst hL0
  refine Met.ofW (cc := bytes) (maxL := maxL) (ret := some rt) hy rfl ?_
  intro p e s m args below meth c s₁ B hml hv
  obtain ⟨rfl, hE, hP, hD⟩ := hv
  have hl := lv_entry As hm
  rw [lg_entry_eq]
  have hr := B.returns
  have hlk := B.notSynchronized
  have hts := atoms_spec (ws := Cond.code y bytes maxL (some rt) :: WS) B.pre
  have hfix : CallFix p m c bytes maxL s As.toArray WS y.cls := ⟨B.exec, B.bytes, hml, findClass_of_methodNamed B.named, fun w h => hts w (List.mem_cons_of_mem _ h)⟩
  refine body (p, l, e, _, s, m, As.toArray, below, meth, c, _, E, maxL, va_A ws s.heap.size, true) ⟨hfix, hE, fun q h => Or.inr h, rfl, rfl, rfl, rfl, rfl⟩ ?_ s.heap [] _ hP hD.self va_S.rf (fun _ => ⟨rfl, rfl⟩) hl
  intro pc L v hn hdg hpost H locs ls hP hD hS hmd hl
  obtain ⟨rfl, rfl⟩ := hmd rfl
  exact W.zret hfix.1 hfix.2.1 hr hn (fun t ht hW => ⟨v, rfl, hpost, ht⟩) (fun q h => by cases h) hdg hlk
theorem WR.mk {S : Type} {l : Launch} {E : ED} {y : MethodName} {bytes : ByteArray} {maxL : Nat} {rt : FieldType} {F Lc mc ms : Nat} {As : List Value} {wi : va_W} {post : Int32 → S → Prop} {wo : S → va_W} (hy : plainName y.cls = true) (hm : (lg_sl As).length ≤ maxL) (L0 : List (Nat × Value)) (hL0 : lv_args 0 As = L0)
    (body : ∀ Z : CX, OK Z bytes maxL y.cls { frames := F, cells := mc, slots := ms, locals := Lc } E false l → (∀ (pc : Nat) (L : List (Nat × Value)) (v : Int32) (u : S), narrow rt (.int v) = .int v → decode bytes pc = .ok (.ireturn, 1) → post v u → J Z mc ms (wo u) pc L [.int v]) → J Z 0 0 wi 0 L0 []) : WR l E y bytes maxL rt F Lc mc ms As wi post wo := by
  subst hL0
  intro sz
  refine Met.ofW (cc := bytes) (maxL := maxL) (ret := some rt) hy rfl ?_
  intro p e s m args below meth c s₁ B hml hv
  obtain ⟨rfl, rfl, hE, hP, hD⟩ := hv
  have hl := lv_entry As hm
  rw [lg_entry_eq]
  have hr := B.returns
  have hlk := B.notSynchronized
  have hts := atoms_spec (ws := Cond.code y bytes maxL (some rt) :: WS) B.pre
  have hfix : CallFix p m c bytes maxL s As.toArray WS y.cls := ⟨B.exec, B.bytes, hml, findClass_of_methodNamed B.named, fun w h => hts w (List.mem_cons_of_mem _ h)⟩
  refine body (p, l, e, _, s, m, As.toArray, below, meth, c, _, E, maxL, va_A wi s.heap.size, false) ⟨hfix, hE, fun q h => Or.inr h, rfl, rfl, rfl, rfl, rfl⟩ ?_ s.heap [] _ hP hD.self va_S.rf (fun h => by cases h) hl
  intro pc L v u hn hdg hpost H locs ls hP hD hS hmd hl
  exact W.zret hfix.1 hfix.2.1 hr hn (fun t ht hW => ⟨⟨v, u, rfl, hpost, by rw [ht]; exact hP, hD⟩, hS.F ht⟩) hS.2.2 hdg hlk
theorem WV.mk {S : Type} {l : Launch} {E : ED} {y : MethodName} {bytes : ByteArray} {maxL : Nat} {F Lc mc ms : Nat} {As : List Value} {wi : va_W} {post : S → Prop} {wo : S → va_W} (hy : plainName y.cls = true) (hm : (lg_sl As).length ≤ maxL) (L0 : List (Nat × Value)) (hL0 : lv_args 0 As = L0)
    (body : ∀ Z : CX, OK Z bytes maxL y.cls { frames := F, cells := mc, slots := ms, locals := Lc } E false l → (y.name = "<init>" → ZI Z) → (∀ (pc : Nat) (L : List (Nat × Value)) (u : S), decode bytes pc = .ok (.return_, 1) → post u → J Z mc ms (wo u) pc L []) → J Z 0 0 wi 0 L0 []) : WV l E y bytes maxL F Lc mc ms As wi post wo := by
  subst hL0
  intro sz
  refine Met.ofW (cc := bytes) (maxL := maxL) (ret := none) hy rfl ?_
  intro p e s m args below meth c s₁ B hml hv
  obtain ⟨rfl, rfl, hE, hP, hD⟩ := hv
  have hl := lv_entry As hm
  rw [lg_entry_eq]
  have hr := B.returns
  have hlk := B.notSynchronized
  have hnm : meth.name = y.name := (name_of_methodNamed B.named B.method).1
  have hts := atoms_spec (ws := Cond.code y bytes maxL none :: WS) B.pre
  have hfix : CallFix p m c bytes maxL s As.toArray WS y.cls := ⟨B.exec, B.bytes, hml, findClass_of_methodNamed B.named, fun w h => hts w (List.mem_cons_of_mem _ h)⟩
  refine body (p, l, e, _, s, m, As.toArray, below, meth, c, _, E, maxL, va_A wi s.heap.size, false) ⟨hfix, hE, fun q h => Or.inr h, rfl, rfl, rfl, rfl, rfl⟩ (fun h => hnm.trans h) ?_ s.heap [] _ hP hD.self va_S.rf (fun h => by cases h) hl
  intro pc L u hdg hpost H locs ls hP hD hS hmd hl
  exact W.vret hfix.1 hfix.2.1 hr (fun t ht hW => ⟨⟨u, rfl, hpost, by rw [ht]; exact hP, hD⟩, hS.F ht⟩) hS.2.2 hdg hlk
section JC
variable {Z : CX} {cc : ByteArray} {nL : Nat} {own : String} {R : Room} {E : ED} {md : Bool} {l : Launch} {cells slots pc : Nat} {ws : va_W} {L L' : List (Nat × Value)} {rest : List Value}
variable {y : MethodName} {bytes : ByteArray} {maxL n F Lc mc ms ix : Nat} {rt : FieldType} {As : List Value}
/-- a reader's run: the heap is as it was -/
theorem j_ro {p : Program} {e : Env} {s : State} {m : MethodId} {args : Array Value} {below : List Frame} {meth : Method} {c : Code} {H : Heap} {locs : List Loc} {Q : State → Prop} {ls : Array Slot} {st0 : List Value} {a : Array Value} {post : Int32 → Prop} (hr : va_Run p l e R s m args below meth c H locs cells slots 0 0 (F0 m pc ls st0) rest (vp_Si post a) (fun _ => False))
    (kk : ∀ r : Int32, post r → W p l e R s m args below meth c H locs cells slots Q (F0 m (pc + 3) ls (.int r :: rest))) : W p l e R s m args below meth c H locs cells slots Q (F0 m pc ls st0) := by
  intro T hT X
  obtain ⟨v, st₀, t, T', K, h0, X', hL, e1, e2, ⟨r, hv, hp, hh⟩, st⟩ := hr T hT X
  cases hv
  have hK : K = [] := List.eq_nil_iff_forall_not_mem.mpr (fun q hq => hL q hq)
  subst hK
  rw [List.append_nil] at X'
  obtain ⟨t2, a1, b1⟩ := kk r hp T' (by rw [e1, hh, h0]) X'
  exact ⟨t2, st t2 a1, b1⟩
theorem c_roS (B : OK Z cc nL own R E md l) {wc : va_W} {post : Int32 → Prop} (hM : RO l E y bytes maxL rt F Lc (As) wc post) (K : Cal y bytes maxL (some rt) n) (hst : Cond.static y ∈ WS) (hlk : Cond.methodLink own ix y ∈ WS) (hR : F + 1 ≤ R.frames ∧ 8 + (maxL + 11) + Lc ≤ R.locals) (hC : cells ≤ R.cells ∧ slots ≤ R.slots) (hn : As.length = n) (hcat : (rest.map fun v => v.category).sum ≤ 8) (hw : Has wc ws) (st : List Value) (hstk : As.reverse ++ rest = st) (hdg : decode cc pc = .ok (.invokestatic ix, 3)) (kk : ∀ r : Int32, post r → J Z cells slots ws (pc + 3) L (.int r :: rest)) : J Z cells slots ws pc L st := by
  subst hstk
  obtain ⟨p, l', e, R', s, m, args, below, meth, c, Q, E', nL', A, md'⟩ := Z
  obtain ⟨⟨hx, hb, hml, hown, hts⟩, hE, hA, rfl, rfl, rfl, rfl, rfl⟩ := B
  intro H locs ls hP hD hS hmd hl
  obtain ⟨k1, k2, k3⟩ := K
  exact j_ro (va_runS (As := As) (rest := rest) (g := F0 m pc ls _) ⟨hx, hb, hml, hown, hts⟩ hM ⟨callB_of (ws' := WS) n hts (WS_in k1) rfl rfl rfl (hts _ k2) (hts _ hlk) k3 hR, hts _ hst⟩ ⟨FB_ro, fun U hU hW => ⟨rfl, hE.warm hW, by rw [hU]; exact hw.P hP, (hw.D hD).weaken (fun _ _ _ _ => trivial)⟩⟩ rfl hn hl.1 rfl (by show 2 * 0 + _ ≤ 8; omega) hdg hC) (fun r h => kk r h H locs ls hP hD hS hmd hl)
theorem c_roV (B : OK Z cc nL own R E md l) {b : Nat} {wc : va_W} {post : Int32 → Prop} (hM : RO l E y bytes maxL rt F Lc (.ref b :: As) wc post) (K : Cal y bytes maxL (some rt) n) (hst : Cond.instanceMethod y ∈ WS ∧ Cond.selects y.cls y y ∈ WS) (hlk : Cond.methodLink own ix y ∈ WS) {ci N : Nat} {T : u_T} {fs : List Value} (hc : vwCl[ci]? = some (y.cls, T, N)) (q0 : Nat) (he : ws[q0]? = some (b, .inr (ci, fs))) (hR : F + 1 ≤ R.frames ∧ 8 + (maxL + 11) + Lc ≤ R.locals) (hC : cells ≤ R.cells ∧ slots ≤ R.slots) (hn : As.length = n) (hcat : (rest.map fun v => v.category).sum ≤ 8) (hw : Has wc ws) (st : List Value) (hstk : As.reverse ++ .ref b :: rest = st) (hdg : decode cc pc = .ok (.invokevirtual ix, 3)) (kk : ∀ r : Int32, post r → J Z cells slots ws (pc + 3) L (.int r :: rest)) : J Z cells slots ws pc L st := by
  subst hstk
  obtain ⟨p, l', e, R', s, m, args, below, meth, c, Q, E', nL', A, md'⟩ := Z
  obtain ⟨⟨hx, hb, hml, hown, hts⟩, hE, hA, rfl, rfl, rfl, rfl, rfl⟩ := B
  intro H locs ls hP hD hS hmd hl
  obtain ⟨k1, k2, k3⟩ := K
  exact j_ro (va_runV (As := As) (rest := rest) (b := b) (C := y.cls) (g := F0 m pc ls _) ⟨hx, hb, hml, hown, hts⟩ hM ⟨callB_of (ws' := WS) n hts (WS_in k1) rfl rfl rfl (hts _ k2) (hts _ hlk) k3 hR, hts _ hst.1, hts _ hst.2⟩ ⟨FB_ro, va_recv hE.1 hP hc he, fun U hU hW => ⟨rfl, hE.warm hW, by rw [hU]; exact hw.P hP, (hw.D hD).weaken (fun _ _ _ _ => trivial)⟩⟩ rfl hn hl.1 rfl (by show 2 * 0 + _ ≤ 8; omega) hdg hC) (fun r h => kk r h H locs ls hP hD hS hmd hl)
theorem c_roSN (B : OK Z cc nL own R E md l) {wc : va_W} {post : Int32 → Prop} (hM : RO l E y bytes maxL rt F Lc (As) wc post) (K : Cal y bytes maxL (some rt) n) (hst : Cond.static y ∈ WS) {host : String} (hlk : ∀ U : State, NW U → va_Nw (.methodLinkNest own ix y host) U) (hR : F + 1 ≤ R.frames ∧ 8 + (maxL + 11) + Lc ≤ R.locals) (hC : cells ≤ R.cells ∧ slots ≤ R.slots) (hn : As.length = n) (hcat : (rest.map fun v => v.category).sum ≤ 8) (hw : Has wc ws) (st : List Value) (hstk : As.reverse ++ rest = st) (hdg : decode cc pc = .ok (.invokestatic ix, 3)) (kk : ∀ r : Int32, post r → J Z cells slots ws (pc + 3) L (.int r :: rest)) : J Z cells slots ws pc L st := by
  subst hstk
  obtain ⟨p, l', e, R', s, m, args, below, meth, c, Q, E', nL', A, md'⟩ := Z
  obtain ⟨⟨hx, hb, hml, hown, hts⟩, hE, hA, rfl, rfl, rfl, rfl, rfl⟩ := B
  intro H locs ls hP hD hS hmd hl
  obtain ⟨k1, k2, k3⟩ := K
  exact j_ro (va_runSN (As := As) (rest := rest) (g := F0 m pc ls _) ⟨hx, hb, hml, hown, hts⟩ hM ⟨va_cnB (ws' := WS) n hts (WS_in k1) rfl rfl rfl (hlk s hE.2) (hts _ k2) k3 hR, hts _ hst, trivial⟩ ⟨FB_ro, fun U hU hW => ⟨rfl, hE.warm hW, by rw [hU]; exact hw.P hP, (hw.D hD).weaken (fun _ _ _ _ => trivial)⟩⟩ rfl hn hl.1 rfl (by show 2 * 0 + _ ≤ 8; omega) hdg hC) (fun r h => kk r h H locs ls hP hD hS hmd hl)
theorem c_wiV (B : OK Z cc nL own R E false l) {b : Nat} {S : Type} {wi : va_W} {post : Int32 → S → Prop} {wo : S → va_W} (hM : WR l E y bytes maxL rt F Lc mc ms (.ref b :: As) wi post wo) (K : Cal y bytes maxL (some rt) n) (hst : Cond.instanceMethod y ∈ WS ∧ Cond.selects y.cls y y ∈ WS) (hlk : Cond.methodLink own ix y ∈ WS) {ci N : Nat} {T : u_T} {fs : List Value} (hc : vwCl[ci]? = some (y.cls, T, N)) (q0 : Nat) (he : ws[q0]? = some (b, .inr (ci, fs))) (hR : F + 1 ≤ R.frames ∧ 8 + (maxL + 11) + Lc ≤ R.locals) (hC : cells + mc ≤ R.cells ∧ slots + ms ≤ R.slots) (hn : As.length = n) (hcat : (rest.map fun v => v.category).sum ≤ 8) (X Y : va_W) (hw : ws = X ++ (wi ++ Y)) (st : List Value) (hstk : As.reverse ++ .ref b :: rest = st) (hdg : decode cc pc = .ok (.invokevirtual ix, 3)) (kk : ∀ (r : Int32) (u : S), post r u → J Z (cells + mc) (slots + ms) (X ++ (wo u ++ Y)) (pc + 3) L (.int r :: rest)) : J Z cells slots ws pc L st := by
  subst hstk
  subst hw
  obtain ⟨p, l', e, R', s, m, args, below, meth, c, Q, E', nL', A, md'⟩ := Z
  obtain ⟨⟨hx, hb, hml, hown, hts⟩, hE, hA, rfl, rfl, rfl, rfl, rfl⟩ := B
  intro H locs ls hP hD hS hmd hl
  obtain ⟨k1, k2, k3⟩ := K
  have hF := fr hD hS hA
  refine va_calli (va_runV (As := As) (rest := rest) (b := b) (C := y.cls) (g := F0 m pc ls _) ⟨hx, hb, hml, hown, hts⟩ (hM H.size) ⟨callB_of (ws' := WS) n hts (WS_in k1) rfl rfl rfl (hts _ k2) (hts _ hlk) k3 hR, hts _ hst.1, hts _ hst.2⟩ ⟨FB_wr, va_recv hE.1 hP hc he, fun U hU hW => ⟨rfl, by rw [hU], hE.warm hW, by rw [hU]; exact p_l (p_r hP), (d_l (d_r hD)).weaken (fun _ _ _ _ => trivial)⟩⟩ rfl hn hl.1 rfl (by show 2 * 0 + _ ≤ 8; omega) hdg hC) hS (fun q _ h => hF q h) hF (fun r u t H1 locs1 ht hvm hpost hB hz hk hS1 => ?_)
  obtain ⟨hP1, hD1⟩ := hB
  rw [ht] at hP1
  obtain ⟨hP2, hD2⟩ := jn hP hD hk hF hP1 hD1
  exact kk r u hpost H1 locs1 ls hP2 hD2 hS1 (fun h => by cases h) hl
theorem c_wvV (B : OK Z cc nL own R E false l) {b : Nat} {S : Type} {wi : va_W} {post : S → Prop} {wo : S → va_W} (hM : WV l E y bytes maxL F Lc mc ms (.ref b :: As) wi post wo) (K : Cal y bytes maxL (none) n) (hst : Cond.instanceMethod y ∈ WS ∧ Cond.selects y.cls y y ∈ WS) (hlk : Cond.methodLink own ix y ∈ WS) {ci N : Nat} {T : u_T} {fs : List Value} (hc : vwCl[ci]? = some (y.cls, T, N)) (q0 : Nat) (he : ws[q0]? = some (b, .inr (ci, fs))) (hR : F + 1 ≤ R.frames ∧ 8 + (maxL + 11) + Lc ≤ R.locals) (hC : cells + mc ≤ R.cells ∧ slots + ms ≤ R.slots) (hn : As.length = n) (hcat : (rest.map fun v => v.category).sum ≤ 8) (X Y : va_W) (hw : ws = X ++ (wi ++ Y)) (st : List Value) (hstk : As.reverse ++ .ref b :: rest = st) (hdg : decode cc pc = .ok (.invokevirtual ix, 3)) (kk : ∀ u : S, post u → J Z (cells + mc) (slots + ms) (X ++ (wo u ++ Y)) (pc + 3) L rest) : J Z cells slots ws pc L st := by
  subst hstk
  subst hw
  obtain ⟨p, l', e, R', s, m, args, below, meth, c, Q, E', nL', A, md'⟩ := Z
  obtain ⟨⟨hx, hb, hml, hown, hts⟩, hE, hA, rfl, rfl, rfl, rfl, rfl⟩ := B
  intro H locs ls hP hD hS hmd hl
  obtain ⟨k1, k2, k3⟩ := K
  have hF := fr hD hS hA
  refine va_callv (va_runV (As := As) (rest := rest) (b := b) (C := y.cls) (g := F0 m pc ls _) ⟨hx, hb, hml, hown, hts⟩ (hM H.size) ⟨callB_of (ws' := WS) n hts (WS_in k1) rfl rfl rfl (hts _ k2) (hts _ hlk) k3 hR, hts _ hst.1, hts _ hst.2⟩ ⟨FB_wr, va_recv hE.1 hP hc he, fun U hU hW => ⟨rfl, by rw [hU], hE.warm hW, by rw [hU]; exact p_l (p_r hP), (d_l (d_r hD)).weaken (fun _ _ _ _ => trivial)⟩⟩ rfl hn hl.1 rfl (by show 2 * 0 + _ ≤ 8; omega) hdg hC) hS (fun q _ h => hF q h) hF (fun u t H1 locs1 ht hvm hpost hB hz hk hS1 => ?_)
  obtain ⟨hP1, hD1⟩ := hB
  rw [ht] at hP1
  obtain ⟨hP2, hD2⟩ := jn hP hD hk hF hP1 hD1
  exact kk u hpost H1 locs1 ls hP2 hD2 hS1 (fun h => by cases h) hl
theorem c_wvI (B : OK Z cc nL own R E false l) {b : Nat} {S : Type} {wi : va_W} {post : S → Prop} {wo : S → va_W} (hM : WV l E y bytes maxL F Lc mc ms (.ref b :: As) wi post wo) (K : Cal y bytes maxL (none) n) (hst : y.name = "<init>" ∧ Cond.instanceMethod y ∈ WS) (hlk : Cond.methodLink own ix y ∈ WS) (hR : F + 1 ≤ R.frames ∧ 8 + (maxL + 11) + Lc ≤ R.locals) (hC : cells + mc ≤ R.cells ∧ slots + ms ≤ R.slots) (hn : As.length = n) (hcat : (rest.map fun v => v.category).sum ≤ 8) (X Y : va_W) (hw : ws = X ++ (wi ++ Y)) (st : List Value) (hstk : As.reverse ++ .ref b :: rest = st) (hdg : decode cc pc = .ok (.invokespecial ix, 3)) (kk : ∀ u : S, post u → J Z (cells + mc) (slots + ms) (X ++ (wo u ++ Y)) (pc + 3) L rest) : J Z cells slots ws pc L st := by
  subst hstk
  subst hw
  obtain ⟨p, l', e, R', s, m, args, below, meth, c, Q, E', nL', A, md'⟩ := Z
  obtain ⟨⟨hx, hb, hml, hown, hts⟩, hE, hA, rfl, rfl, rfl, rfl, rfl⟩ := B
  intro H locs ls hP hD hS hmd hl
  obtain ⟨k1, k2, k3⟩ := K
  have hF := fr hD hS hA
  refine va_callv (va_runI (As := As) (rest := rest) (b := b) (g := F0 m pc ls _) ⟨hx, hb, hml, hown, hts⟩ (hM H.size) ⟨callB_of (ws' := WS) n hts (WS_in k1) rfl rfl rfl (hts _ k2) (hts _ hlk) k3 hR, hst.1, hts _ hst.2⟩ ⟨FB_wr, fun U hU hW => ⟨rfl, by rw [hU], hE.warm hW, by rw [hU]; exact p_l (p_r hP), (d_l (d_r hD)).weaken (fun _ _ _ _ => trivial)⟩⟩ rfl hn hl.1 rfl (by show 2 * 0 + _ ≤ 8; omega) hdg hC) hS (fun q _ h => hF q h) hF (fun u t H1 locs1 ht hvm hpost hB hz hk hS1 => ?_)
  obtain ⟨hP1, hD1⟩ := hB
  rw [ht] at hP1
  obtain ⟨hP2, hD2⟩ := jn hP hD hk hF hP1 hD1
  exact kk u hpost H1 locs1 ls hP2 hD2 hS1 (fun h => by cases h) hl
theorem c_wvIN (B : OK Z cc nL own R E false l) {b : Nat} {S : Type} {wi : va_W} {post : S → Prop} {wo : S → va_W} (hM : WV l E y bytes maxL F Lc mc ms (.ref b :: As) wi post wo) (K : Cal y bytes maxL (none) n) (hst : y.name = "<init>" ∧ Cond.instanceMethod y ∈ WS) {host : String} (hlk : ∀ U : State, NW U → va_Nw (.methodLinkNest own ix y host) U) (hR : F + 1 ≤ R.frames ∧ 8 + (maxL + 11) + Lc ≤ R.locals) (hC : cells + mc ≤ R.cells ∧ slots + ms ≤ R.slots) (hn : As.length = n) (hcat : (rest.map fun v => v.category).sum ≤ 8) (X Y : va_W) (hw : ws = X ++ (wi ++ Y)) (st : List Value) (hstk : As.reverse ++ .ref b :: rest = st) (hdg : decode cc pc = .ok (.invokespecial ix, 3)) (kk : ∀ u : S, post u → J Z (cells + mc) (slots + ms) (X ++ (wo u ++ Y)) (pc + 3) L rest) : J Z cells slots ws pc L st := by
  subst hstk
  subst hw
  obtain ⟨p, l', e, R', s, m, args, below, meth, c, Q, E', nL', A, md'⟩ := Z
  obtain ⟨⟨hx, hb, hml, hown, hts⟩, hE, hA, rfl, rfl, rfl, rfl, rfl⟩ := B
  intro H locs ls hP hD hS hmd hl
  obtain ⟨k1, k2, k3⟩ := K
  have hF := fr hD hS hA
  refine va_callv (va_runIN (As := As) (rest := rest) (b := b) (g := F0 m pc ls _) ⟨hx, hb, hml, hown, hts⟩ (hM H.size) ⟨va_cnB (ws' := WS) n hts (WS_in k1) rfl rfl rfl (hlk s hE.2) (hts _ k2) k3 hR, hst.1, hts _ hst.2⟩ ⟨FB_wr, fun U hU hW => ⟨rfl, by rw [hU], hE.warm hW, by rw [hU]; exact p_l (p_r hP), (d_l (d_r hD)).weaken (fun _ _ _ _ => trivial)⟩⟩ rfl hn hl.1 rfl (by show 2 * 0 + _ ≤ 8; omega) hdg hC) hS (fun q _ h => hF q h) hF (fun u t H1 locs1 ht hvm hpost hB hz hk hS1 => ?_)
  obtain ⟨hP1, hD1⟩ := hB
  rw [ht] at hP1
  obtain ⟨hP2, hD2⟩ := jn hP hD hk hF hP1 hD1
  exact kk u hpost H1 locs1 ls hP2 hD2 hS1 (fun h => by cases h) hl
end JC
