/-- what holds of the state between calls -/
def IV (g : Nat → Int32) (a : Nat → Nat → Int32) (np nv nc nl nm : Nat) : Prop :=
  (g 1 = nI np ∧ np ≤ 12 ∧ g 8 = nI nv ∧ nv ≤ 10 ∧ g 11 = nI nc ∧ nc ≤ 4 ∧ g 20 = nI nl ∧ nl ≤ 20 ∧ g 24 = nI nm ∧ nm ≤ 40) ∧
  (∀ p, p < np → pt (a 2 p) (a 3 p) = true ∧ pt (a 4 p) (a 5 p) = true ∧ ¬ (a 2 p = a 4 p ∧ a 3 p = a 5 p)) ∧ wit (g 6) 1 90 = true ∧ wit (g 7) 0 100 = true ∧
  (∀ v, thr nv v = true → pt (a 9 v) (a 10 v) = true) ∧
  (∀ c, c < nc → pt (a 12 c) (a 13 c) = true ∧ pt (a 14 c) (a 15 c) = true ∧ a 12 c < a 14 c ∧ a 13 c < a 15 c) ∧
  (wit (g 16) (-9) 9 = true ∧ wit (g 17) (-9) 9 = true ∧ wit (g 18) 1 30000 = true ∧ wit (g 19) 0 500 = true) ∧
  (∀ i, i < nl → pt (a 21 i) (a 22 i) = true ∧ wit (a 23 i) 0 5 = true) ∧ (∀ m, m < nm → wit (a 26 m) 0 1000 = true) ∧ g 90 = a 9 10 ∧ g 91 = a 10 10
def MD (E : ED) (q : Nat → Nat) (g : Nat → Int32) (a : Nat → Nat → Int32) (nc nv : Nat) (s : Nat → Int32) (t : Nat → Nat → Int32) (RV : Value) (X : va_W) : Prop := (RV = .null ∧ X = []) ∨ (RV = .ref (q 49) ∧ X = sR E q s t ∧ RIS g a nc nv s t 0)
theorem lgm_cg {g g' : Nat → Int32} {a b : Nat → Nat → Int32} (h16 : g' 16 = g 16) (h17 : g' 17 = g 17) (h9 : b 9 = a 9) (h10 : b 10 = a 10) (h2 : b 12 = a 12) (h3 : b 13 = a 13) (h4 : b 14 = a 14) (h5 : b 15 = a 15) (nc nv : Nat) : lgm g' b nc nv = lgm g a nc nv := by
  funext x y
  rw [lgm, lgm, h9, h10, legF, legF, shF_cg h2 h3 h4 h5, alF, alF, h16, h17]
theorem MD_cg {E : ED} {q : Nat → Nat} {g g' : Nat → Int32} {a b : Nat → Nat → Int32} {nc nv : Nat} {s : Nat → Int32} {t : Nat → Nat → Int32} {RV : Value} {X : va_W} (h : MD E q g a nc nv s t RV X) (h16 : g' 16 = g 16) (h17 : g' 17 = g 17) (h18 : g' 18 = g 18) (h19 : g' 19 = g 19) (h9 : b 9 = a 9) (h10 : b 10 = a 10) (h2 : b 12 = a 12) (h3 : b 13 = a 13) (h4 : b 14 = a 14) (h5 : b 15 = a 15) : MD E q g' b nc nv s t RV X := by
  rcases h with h | ⟨h1, h2', RS, SS, k1, k2, k3, k4, k5, k6, k7⟩
  · exact Or.inl h
  · refine Or.inr ⟨h1, h2', RS, SS, k1, k2, k3, k4, k5, ?_, ?_⟩
    · rw [lgm_cg h16 h17 h9 h10 h2 h3 h4 h5, h19]; exact k6
    · rw [lgm_cg h16 h17 h9 h10 h2 h3 h4 h5, h19, h18]; exact k7
theorem b_and {x y : Bool} (h : ¬ (!(x && y)) = true) : x = true ∧ y = true := by cases x <;> cases y <;> simp_all
theorem b_not {x : Bool} (h : ¬ (!x) = true) : x = true := by cases x <;> simp_all
theorem up_all {f : Nat → Int32} {n : Nat} {v : Int32} {P : Int32 → Prop} (h : ∀ p, p < n → P (f p)) (hv : P v) : ∀ p, p < n + 1 → P (upd f n v p) := fun p hp => by
  by_cases e : p = n
  · subst e; rw [pk_us]; exact hv
  · rw [pk_un e]; exact h p (by omega)
theorem IV_panel {g : Nat → Int32} {a : Nat → Nat → Int32} {np nv nc nl nm : Nat} {x1 y1 x2 y2 r : Int32} {u : GA} (h : IV g a np nv nc nl nm) (e : (r, u) = panelF g a np x1 y1 x2 y2) : ∃ np', IV u.1 u.2 np' nv nc nl nm := by
  unfold panelF at e
  split at e
  · obtain ⟨-, rfl⟩ := Prod.mk.inj e; exact ⟨np, h⟩
  · rename_i k1
    split at e
    · obtain ⟨-, rfl⟩ := Prod.mk.inj e; exact ⟨np, h⟩
    · rename_i k2
      split at e
      · obtain ⟨-, rfl⟩ := Prod.mk.inj e; exact ⟨np, h⟩
      · rename_i k3
        obtain ⟨-, rfl⟩ := Prod.mk.inj e
        obtain ⟨⟨a1, a2, a3⟩, b1, b2⟩ := h
        have k3 : ¬ np = 12 := fun q => k3 (decide_eq_true q)
        have k1 := b_and k1
        have k2 : ¬ (x1 = x2 ∧ y1 = y2) := fun q => k2 (by simp [q.1, q.2])
        refine ⟨np + 1, ⟨rfl, by omega, a3⟩, fun p hp => ?_, b2⟩
        show pt (upd (a 2) np x1 p) (upd (a 3) np y1 p) = true ∧ pt (upd (a 4) np x2 p) (upd (a 5) np y2 p) = true ∧ ¬ (upd (a 2) np x1 p = upd (a 4) np x2 p ∧ upd (a 3) np y1 p = upd (a 5) np y2 p)
        by_cases z : p = np
        · subst z; rw [pk_us, pk_us, pk_us, pk_us]; exact ⟨k1.1, k1.2, k2⟩
        · rw [pk_un z, pk_un z, pk_un z, pk_un z]; exact b1 p (by omega)
theorem IV_eye {g : Nat → Int32} {a : Nat → Nat → Int32} {np nv nc nl nm : Nat} {w v r : Int32} {u : Nat → Int32} (h : IV g a np nv nc nl nm) (e : (r, u) = eyeF g w v) : IV u a np nv nc nl nm := by
  unfold eyeF at e
  split at e
  · rename_i k
    obtain ⟨-, rfl⟩ := Prod.mk.inj e
    rw [Bool.and_eq_true] at k
    exact ⟨h.1, h.2.1, k.2, h.2.2.2⟩
  · split at e
    · rename_i k
      obtain ⟨-, rfl⟩ := Prod.mk.inj e
      rw [Bool.and_eq_true] at k
      exact ⟨h.1, h.2.1, h.2.2.1, k.2, h.2.2.2.2⟩
    · obtain ⟨-, rfl⟩ := Prod.mk.inj e; exact h
theorem IV_store {g : Nat → Int32} {a : Nat → Nat → Int32} {np nv nc nl nm : Nat} {w v r : Int32} {u : Nat → Int32} (h : IV g a np nv nc nl nm) (e : (r, u) = storeF g w v) : IV u a np nv nc nl nm := by
  unfold storeF at e
  obtain ⟨a1, a2, a3, a4, a5, a6, ⟨b1, b2, b3, b4⟩, a7⟩ := h
  split at e
  · rename_i k
    obtain ⟨-, rfl⟩ := Prod.mk.inj e
    rw [Bool.and_eq_true] at k
    exact ⟨a1, a2, a3, a4, a5, a6, ⟨b1, b2, k.2, b4⟩, a7⟩
  · split at e
    · rename_i k
      obtain ⟨-, rfl⟩ := Prod.mk.inj e
      rw [Bool.and_eq_true] at k
      exact ⟨a1, a2, a3, a4, a5, a6, ⟨b1, b2, b3, k.2⟩, a7⟩
    · obtain ⟨-, rfl⟩ := Prod.mk.inj e; exact ⟨a1, a2, a3, a4, a5, a6, ⟨b1, b2, b3, b4⟩, a7⟩
theorem IV_wind {g : Nat → Int32} {a : Nat → Nat → Int32} {np nv nc nl nm : Nat} {x y r : Int32} {u : Nat → Int32} (h : IV g a np nv nc nl nm) (e : (r, u) = windF g x y) : IV u a np nv nc nl nm := by
  unfold windF at e
  obtain ⟨a1, a2, a3, a4, a5, a6, ⟨b1, b2, b3, b4⟩, a7⟩ := h
  split at e
  · obtain ⟨-, rfl⟩ := Prod.mk.inj e; exact ⟨a1, a2, a3, a4, a5, a6, ⟨b1, b2, b3, b4⟩, a7⟩
  · rename_i k
    obtain ⟨-, rfl⟩ := Prod.mk.inj e
    have k := b_and k
    exact ⟨a1, a2, a3, a4, a5, a6, ⟨k.1, k.2, b3, b4⟩, a7⟩
theorem IV_view {g : Nat → Int32} {a : Nat → Nat → Int32} {np nv nc nl nm : Nat} {x y r : Int32} {u : GA} (h : IV g a np nv nc nl nm) (e : (r, u) = viewF g a nv x y) : ∃ nv', nv ≤ nv' ∧ (u = (g, a) ∧ nv' = nv ∨ nv < 10 ∧ nv' = nv + 1 ∧ u = (upd g 8 (nI (nv + 1)), va_up (va_up a 9 (upd (a 9) nv x)) 10 (upd (a 10) nv y))) ∧ IV u.1 u.2 np nv' nc nl nm := by
  unfold viewF at e
  split at e
  · obtain ⟨-, rfl⟩ := Prod.mk.inj e; exact ⟨nv, Nat.le_refl _, Or.inl ⟨rfl, rfl⟩, h⟩
  · rename_i k1
    split at e
    · obtain ⟨-, rfl⟩ := Prod.mk.inj e; exact ⟨nv, Nat.le_refl _, Or.inl ⟨rfl, rfl⟩, h⟩
    · rename_i k2
      obtain ⟨-, rfl⟩ := Prod.mk.inj e
      have k1 := b_not k1
      have k2 : ¬ nv = 10 := fun q => k2 (decide_eq_true q)
      obtain ⟨⟨a1, a2, a3, a4, a5⟩, b1, b2, b3, b4, b5, b6, b7, b8, b9, b10⟩ := h
      refine ⟨nv + 1, by omega, Or.inr ⟨by omega, rfl, rfl⟩, ⟨a1, a2, rfl, by omega, a5⟩, b1, b2, b3, fun v hv => ?_, b5, b6, b7, b8, ?_, ?_⟩
      · show pt (upd (a 9) nv x v) (upd (a 10) nv y v) = true
        by_cases z : v = nv
        · subst z; rw [pk_us, pk_us]; exact k1
        · rw [pk_un z, pk_un z]
          refine b4 v ?_
          unfold thr at hv ⊢
          simp only [Bool.or_eq_true, decide_eq_true_eq] at hv ⊢
          omega
      · show g 90 = upd (a 9) nv x 10
        rw [pk_un (by omega)]; exact b9
      · show g 91 = upd (a 10) nv y 10
        rw [pk_un (by omega)]; exact b10
theorem IV_close {g : Nat → Int32} {a : Nat → Nat → Int32} {np nv nc nl nm : Nat} {x1 y1 x2 y2 r : Int32} {u : GA} (h : IV g a np nv nc nl nm) (e : (r, u) = closeF g a nc x1 y1 x2 y2) : ∃ nc', (u = (g, a) → nc' = nc) ∧ IV u.1 u.2 np nv nc' nl nm := by
  unfold closeF at e
  split at e
  · obtain ⟨-, rfl⟩ := Prod.mk.inj e; exact ⟨nc, fun _ => rfl, h⟩
  · rename_i k1
    split at e
    · obtain ⟨-, rfl⟩ := Prod.mk.inj e; exact ⟨nc, fun _ => rfl, h⟩
    · rename_i k2
      split at e
      · obtain ⟨-, rfl⟩ := Prod.mk.inj e; exact ⟨nc, fun _ => rfl, h⟩
      · rename_i k3
        obtain ⟨-, rfl⟩ := Prod.mk.inj e
        have k1 := b_and k1
        have k3 : ¬ nc = 4 := fun q => k3 (decide_eq_true q)
        have k2 : x1 < x2 ∧ y1 < y2 := by simpa using k2
        obtain ⟨⟨a1, a2, a3, a4, a5, a6, a7⟩, b1, b2, b3, b4, b5, b6⟩ := h
        refine ⟨nc + 1, fun q => ?_, ⟨a1, a2, a3, a4, rfl, by omega, a7⟩, b1, b2, b3, b4, fun c hc => ?_, b6⟩
        · have q1 := congrArg (fun z : GA => z.1 11) q
          have q2 : nI (nc + 1) = g 11 := q1
          rw [a5, nI_eq (by omega) (by omega)] at q2
          exact q2
        · show pt (upd (a 12) nc x1 c) (upd (a 13) nc y1 c) = true ∧ pt (upd (a 14) nc x2 c) (upd (a 15) nc y2 c) = true ∧ upd (a 12) nc x1 c < upd (a 14) nc x2 c ∧ upd (a 13) nc y1 c < upd (a 15) nc y2 c
          by_cases z : c = nc
          · subst z; rw [pk_us, pk_us, pk_us, pk_us]; exact ⟨k1.1, k1.2, k2⟩
          · rw [pk_un z, pk_un z, pk_un z, pk_un z]; exact b5 c (by omega)
theorem IV_open {g : Nat → Int32} {a : Nat → Nat → Int32} {np nv nc nl nm : Nat} {r : Int32} {u : Nat → Int32} (h : IV g a np nv nc nl nm) (e : (r, u) = openF g nc) : ∃ nc', (u = g → nc' = nc) ∧ IV u a np nv nc' nl nm := by
  unfold openF at e
  split at e
  · obtain ⟨-, rfl⟩ := Prod.mk.inj e; exact ⟨nc, fun _ => rfl, h⟩
  · rename_i k
    have k : ¬ nc = 0 := fun q => k (decide_eq_true q)
    obtain ⟨-, rfl⟩ := Prod.mk.inj e
    obtain ⟨⟨a1, a2, a3, a4, a5, a6, a7⟩, b1, b2, b3, b4, b5, b6⟩ := h
    refine ⟨nc - 1, fun q => ?_, ⟨a1, a2, a3, a4, rfl, by omega, a7⟩, b1, b2, b3, b4, fun c hc => b5 c (by omega), b6⟩
    have q1 : nI (nc - 1) = g 11 := congrArg (fun z : Nat → Int32 => z 11) q
    rw [a5, nI_eq (by omega) (by omega)] at q1
    exact q1
theorem IV_base {g : Nat → Int32} {a : Nat → Nat → Int32} {np nv nc nl nm : Nat} {x y : Int32} (h : IV g a np nv nc nl nm) (k : pt x y = true) : IV (upd (upd g 90 x) 91 y) (va_up (va_up a 9 (upd (a 9) 10 x)) 10 (upd (a 10) 10 y)) np nv nc nl nm := by
  obtain ⟨a1, b1, b2, b3, b4, b5, b6, b7, b8, b9, b10⟩ := h
  refine ⟨a1, b1, b2, b3, fun v hv => ?_, b5, b6, b7, b8, ?_, ?_⟩
  · show pt (upd (a 9) 10 x v) (upd (a 10) 10 y v) = true
    by_cases z : v = 10
    · subst z; rw [pk_us, pk_us]; exact k
    · rw [pk_un z, pk_un z]; exact b4 v hv
  · show x = upd (a 9) 10 x 10
    rw [pk_us]
  · show y = upd (a 10) 10 y 10
    rw [pk_us]
theorem IV_log {g : Nat → Int32} {a : Nat → Nat → Int32} {np nv nc nl nm : Nat} {x y z r : Int32} {u : GA} (h : IV g a np nv nc nl nm) (e : (r, u) = logF g a nl x y z) : ∃ nl', IV u.1 u.2 np nv nc nl' nm := by
  unfold logF at e
  split at e
  · obtain ⟨-, rfl⟩ := Prod.mk.inj e; exact ⟨nl, h⟩
  · rename_i k1
    split at e
    · obtain ⟨-, rfl⟩ := Prod.mk.inj e; exact ⟨nl, h⟩
    · rename_i k2
      obtain ⟨-, rfl⟩ := Prod.mk.inj e
      have k1 := b_and k1
      have k2 : ¬ nl = 20 := fun q => k2 (decide_eq_true q)
      obtain ⟨⟨a1, a2, a3, a4, a5, a6, a7, a8, a9⟩, b1, b2, b3, b4, b5, b6, b7, b8⟩ := h
      refine ⟨nl + 1, ⟨a1, a2, a3, a4, a5, a6, rfl, by omega, a9⟩, b1, b2, b3, b4, b5, b6, fun i hi => ?_, b8⟩
      show pt (upd (a 21) nl x i) (upd (a 22) nl y i) = true ∧ wit (upd (a 23) nl z i) 0 5 = true
      by_cases q : i = nl
      · subst q; rw [pk_us, pk_us, pk_us]; exact k1
      · rw [pk_un q, pk_un q, pk_un q]; exact b7 i (by omega)
theorem IV_mark {g : Nat → Int32} {a : Nat → Nat → Int32} {np nv nc nl nm : Nat} {p at_ len yr r : Int32} {u : GA} (h : IV g a np nv nc nl nm) (e : (r, u) = markF g a nm p at_ len yr) : ∃ nm', IV u.1 u.2 np nv nc nl nm' := by
  unfold markF at e
  split at e
  · obtain ⟨-, rfl⟩ := Prod.mk.inj e; exact ⟨nm, h⟩
  · split at e
    · obtain ⟨-, rfl⟩ := Prod.mk.inj e; exact ⟨nm, h⟩
    · rename_i k1
      split at e
      · obtain ⟨-, rfl⟩ := Prod.mk.inj e; exact ⟨nm, h⟩
      · rename_i k2
        obtain ⟨-, rfl⟩ := Prod.mk.inj e
        have k1 := b_and k1
        have k2 : ¬ nm = 40 := fun q => k2 (decide_eq_true q)
        obtain ⟨⟨a1, a2, a3, a4, a5, a6, a7, a8, a9, a10⟩, b1, b2, b3, b4, b5, b6, b7, b8, b9⟩ := h
        refine ⟨nm + 1, ⟨a1, a2, a3, a4, a5, a6, a7, a8, rfl, by omega⟩, b1, b2, b3, b4, b5, b6, b7, fun m hm => ?_, b9⟩
        show wit (upd (a 26) nm at_ m) 0 1000 = true
        by_cases q : m = nm
        · subst q; rw [pk_us]; exact k1.1
        · rw [pk_un q]; exact b8 m (by omega)
theorem IV_wipe {g : Nat → Int32} {a : Nat → Nat → Int32} {np nv nc nl nm : Nat} {m r : Int32} {u : Nat → Nat → Int32} (h : IV g a np nv nc nl nm) (e : (r, u) = wipeF g a m) : IV g u np nv nc nl nm := by
  unfold wipeF at e
  split at e
  · obtain ⟨-, rfl⟩ := Prod.mk.inj e; exact h
  · split at e
    · obtain ⟨-, rfl⟩ := Prod.mk.inj e; exact h
    · obtain ⟨-, rfl⟩ := Prod.mk.inj e; exact h
theorem IV_0 : IV g0 a0 0 0 0 0 0 := by
  refine ⟨⟨rfl, by omega, rfl, by omega, rfl, by omega, rfl, by omega, rfl, by omega⟩, fun p h => absurd h (by omega), by decide, by decide, fun v hv => ?_, fun p h => absurd h (by omega), ⟨by decide, by decide, by decide, by decide⟩, fun p h => absurd h (by omega), fun p h => absurd h (by omega), rfl, rfl⟩
  show pt 0 0 = true
  decide
