def rouF (lg : Nat → Nat → Int32) (hov : Int32) (nv : Nat) (v : Int32) (x : Int32) : Int32 := if nset v x = true then -1 else rndC lg hov nv (ix x)
def stoC (lg : Nat → Nat → Int32) (hov : Int32) (nv : Nat) (v : Int32) (x p : Int32) : Int32 := if nset v x = true then -1 else viwF lg hov nv (ix x) p
def fliC (bat : Int32) (rn : Nat → Int32) (v : Int32) (x : Int32) : Int32 := if nset v x = true then -1 else if SPL bat rn (ix x) < 100000000 then SPL bat rn (ix x) / 1000000 else -9
def eneC (bat : Int32) (rn : Nat → Int32) (v : Int32) (x : Int32) : Int32 := if nset v x = true then -1 else if SPL bat rn (ix x) < 100000000 then SPL bat rn (ix x) - SPL bat rn (ix x) / 1000000 * 1000000 else -9

set_option maxHeartbeats 4000000 in
set_option maxRecDepth 100000 in
theorem k_X8_roundN (l : Launch) (E : ED) (q : Nat → Nat) (g : Nat → Int32) (a : Nat → Nat → Int32) (s : Nat → Int32) (t : Nat → Nat → Int32) (nc : Nat) (hc : g 11 = nI nc) (hnc : nc ≤ 4) (nv : Nat) (hv : g 8 = nI nv) (hnv : nv ≤ 10) (hb : g 90 = a 9 10 ∧ g 91 = a 10 10) (hle : LegEq g a nc) (hpt : ∀ v, thr nv v = true → pt (a 9 v) (a 10 v) = true) (x : Int32) : WR l E yX8_round cX8_round 2 .int 6 148 5 12418 [.ref (q 40), .int x] (cW E q g a s t .null []) (fun r (u : Option ((Nat → Nat) × (Nat → Int32) × (Nat → Nat → Int32))) => r = rouF (lgm g a nc nv) (g 19) nv (g 8) x ∧ ∀ v, u = some v → RIS g a nc nv v.2.1 v.2.2 0 ∧ v.1 40 = q 40) (fun u => u.elim (cW E q g a s t .null []) (fun v => cW E v.1 g a v.2.1 v.2.2 (.ref (v.1 49)) (sR E v.1 v.2.1 v.2.2))) := by
  refine WR.mk (by decide) (Nat.le_of_ble_eq_true rfl) [(0, .ref (q 40)), (1, .int x)] rfl (fun Z B ret => ?_)
  refine i_aload_n B 0 dX8_round_0 rfl ?_
  refine i_iload_n B 1 dX8_round_1 rfl ?_
  refine c_roV (rest := []) (As := [.int x]) B (k_X8_isViewSet l E q g a s t .null [] nv hv hnv x) cal_yX8_isViewSet iv_yX8_isViewSet mlX8_114 rfl 0 rfl (by decide) (by decide) rfl (Nat.le_of_ble_eq_true rfl) Has.rf _ rfl dX8_round_2 (fun r hr => ?_)
  subst hr
  refine i_val (v' := .int (bI (!nset (g 8) x))) rfl ?_
  refine i_if_ne B 10 dX8_round_5 (by decide) (fun h1 => ?_) (fun h1 => ?_)
  · replace h1 := bI_n.mp h1
    replace h1 : nset (g 8) x = false := by simpa using h1
    obtain ⟨S, hS, rfl⟩ := nset_ix hnv (by rw [← hv]; exact h1)
    have hpw := pow_le nv hnv
    refine i_aload_n B 0 dX8_round_10 rfl ?_
    refine i_iload_n B 1 dX8_round_11 rfl ?_
    refine c_wqV (cells := 0) (slots := 0) (rest := []) (As := [.int (nI S)]) B (k_X8_routesForN l E q g a s t nc hc hnc nv hv hnv hb hle hpt S hS) cal_yX8_routesFor iv_yX8_routesFor mlX8_153 rfl 0 rfl (by decide) (by decide) rfl (Nat.le_of_ble_eq_true rfl) ([]) ([]) rfl _ rfl dX8_round_12 (fun ⟨q2, s2, t2⟩ hr => ?_)
    dsimp only at hr
    obtain ⟨⟨RS, SS, hRS, hSS, hs63, hs64, hSR, hrv, hsv⟩, hq40⟩ := hr
    refine i_world (ws' := (cW E q2 g a s2 t2 (.ref (q2 49)) (sR E q2 s2 t2))) rfl ?_
    refine i_iload_n B 1 dX8_round_15 rfl ?_
    refine c_roV (rest := []) (As := [.int (nI S)]) B (k_X6_roundCost l E q2 g a s2 t2 S (by omega)) cal_yX6_roundCost iv_yX6_roundCost mlX8_157 rfl 31 rfl (by decide) (by decide) rfl (Nat.le_of_ble_eq_true rfl) Has.rf _ rfl dX8_round_16 (fun r hr => ?_)
    subst hr
    refine i_val (v' := .int (rndC (lgm g a nc nv) (g 19) nv S)) (congrArg Value.int (rdc_eq (hrv.2.2 S hSR))) ?_
    exact ret _ _ _ (some (q2, s2, t2)) rfl dX8_round_19 (⟨by rw [rouF, h1, ix_nI (by omega)]; rfl, fun v h => by (cases h; exact ⟨⟨RS, SS, hRS, hSS, hs63, hs64, Nat.zero_and _, hrv, hsv⟩, hq40⟩)⟩)
  · replace h1 := bI_0.mp h1
    replace h1 : nset (g 8) x = true := by simpa using h1
    refine i_iconst (v := (-1)) B dX8_round_8 (by decide) ?_
    refine i_widen (k := 5) (n := 12418) (by decide) (by decide) ?_
    exact ret _ _ _ none rfl dX8_round_9 (⟨by rw [rouF, h1]; rfl, fun v h => by cases h⟩)

set_option maxHeartbeats 4000000 in
set_option maxRecDepth 100000 in
theorem k_X8_stopN (l : Launch) (E : ED) (q : Nat → Nat) (g : Nat → Int32) (a : Nat → Nat → Int32) (s : Nat → Int32) (t : Nat → Nat → Int32) (nc : Nat) (hc : g 11 = nI nc) (hnc : nc ≤ 4) (nv : Nat) (hv : g 8 = nI nv) (hnv : nv ≤ 10) (hb : g 90 = a 9 10 ∧ g 91 = a 10 10) (hle : LegEq g a nc) (hpt : ∀ v, thr nv v = true → pt (a 9 v) (a 10 v) = true) (hok : ∀ S, S < 2 ^ nv → rnd (lgm g a nc nv) (g 19) nv S < 1000000 → StOK (lgm g a nc nv) (g 19) nv S) (x pl : Int32) : WR l E yX8_stop cX8_stop 3 .int 6 148 5 12418 [.ref (q 40), .int x, .int pl] (cW E q g a s t .null []) (fun r (u : Option ((Nat → Nat) × (Nat → Int32) × (Nat → Nat → Int32))) => r = stoC (lgm g a nc nv) (g 19) nv (g 8) x pl ∧ ∀ v, u = some v → RIS g a nc nv v.2.1 v.2.2 0 ∧ v.1 40 = q 40) (fun u => u.elim (cW E q g a s t .null []) (fun v => cW E v.1 g a v.2.1 v.2.2 (.ref (v.1 49)) (sR E v.1 v.2.1 v.2.2))) := by
  refine WR.mk (by decide) (Nat.le_of_ble_eq_true rfl) [(0, .ref (q 40)), (1, .int x), (2, .int pl)] rfl (fun Z B ret => ?_)
  refine i_aload_n B 0 dX8_stop_0 rfl ?_
  refine i_iload_n B 1 dX8_stop_1 rfl ?_
  refine c_roV (rest := []) (As := [.int x]) B (k_X8_isViewSet l E q g a s t .null [] nv hv hnv x) cal_yX8_isViewSet iv_yX8_isViewSet mlX8_114 rfl 0 rfl (by decide) (by decide) rfl (Nat.le_of_ble_eq_true rfl) Has.rf _ rfl dX8_stop_2 (fun r hr => ?_)
  subst hr
  refine i_val (v' := .int (bI (!nset (g 8) x))) rfl ?_
  refine i_if_ne B 10 dX8_stop_5 (by decide) (fun h1 => ?_) (fun h1 => ?_)
  · replace h1 := bI_n.mp h1
    replace h1 : nset (g 8) x = false := by simpa using h1
    obtain ⟨S, hS, rfl⟩ := nset_ix hnv (by rw [← hv]; exact h1)
    have hpw := pow_le nv hnv
    refine i_aload_n B 0 dX8_stop_10 rfl ?_
    refine i_iload_n B 1 dX8_stop_11 rfl ?_
    refine c_wqV (cells := 0) (slots := 0) (rest := []) (As := [.int (nI S)]) B (k_X8_routesForN l E q g a s t nc hc hnc nv hv hnv hb hle hpt S hS) cal_yX8_routesFor iv_yX8_routesFor mlX8_153 rfl 0 rfl (by decide) (by decide) rfl (Nat.le_of_ble_eq_true rfl) ([]) ([]) rfl _ rfl dX8_stop_12 (fun ⟨q2, s2, t2⟩ hr => ?_)
    dsimp only at hr
    obtain ⟨⟨RS, SS, hRS, hSS, hs63, hs64, hSR, hrv, hsv⟩, hq40⟩ := hr
    refine i_world (ws' := (cW E q2 g a s2 t2 (.ref (q2 49)) (sR E q2 s2 t2))) rfl ?_
    refine i_iload_n B 1 dX8_stop_15 rfl ?_
    refine i_iload_n B 2 dX8_stop_16 rfl ?_
    refine c_roV (rest := []) (As := [.int (nI S), .int pl]) B (k_X6_viewAt l E q2 g a s2 t2 nc nv RS S hrv hRS hSR hnv (hok S hS) pl) cal_yX6_viewAt iv_yX6_viewAt mlX8_162 rfl 31 rfl (by decide) (by decide) rfl (Nat.le_of_ble_eq_true rfl) Has.rf _ rfl dX8_stop_17 (fun r hr => ?_)
    subst hr
    refine i_val (v' := .int (viwF (lgm g a nc nv) (g 19) nv S pl)) rfl ?_
    exact ret _ _ _ (some (q2, s2, t2)) rfl dX8_stop_20 (⟨by rw [stoC, h1, ix_nI (by omega)]; rfl, fun v h => by (cases h; exact ⟨⟨RS, SS, hRS, hSS, hs63, hs64, Nat.zero_and _, hrv, hsv⟩, hq40⟩)⟩)
  · replace h1 := bI_0.mp h1
    replace h1 : nset (g 8) x = true := by simpa using h1
    refine i_iconst (v := (-1)) B dX8_stop_8 (by decide) ?_
    refine i_widen (k := 5) (n := 12418) (by decide) (by decide) ?_
    exact ret _ _ _ none rfl dX8_stop_9 (⟨by rw [stoC, h1]; rfl, fun v h => by cases h⟩)

set_option maxHeartbeats 4000000 in
set_option maxRecDepth 100000 in
theorem k_X8_flightsN (l : Launch) (E : ED) (q : Nat → Nat) (g : Nat → Int32) (a : Nat → Nat → Int32) (s : Nat → Int32) (t : Nat → Nat → Int32) (nc : Nat) (hc : g 11 = nI nc) (hnc : nc ≤ 4) (nv : Nat) (hv : g 8 = nI nv) (hnv : nv ≤ 10) (hb : g 90 = a 9 10 ∧ g 91 = a 10 10) (hle : LegEq g a nc) (hpt : ∀ v, thr nv v = true → pt (a 9 v) (a 10 v) = true) (x : Int32) : WR l E yX8_flights cX8_flights 2 .int 6 148 5 12418 [.ref (q 40), .int x] (cW E q g a s t .null []) (fun r (u : Option ((Nat → Nat) × (Nat → Int32) × (Nat → Nat → Int32))) => r = fliC (g 18) (rnd (lgm g a nc nv) (g 19) nv) (g 8) x ∧ ∀ v, u = some v → RIS g a nc nv v.2.1 v.2.2 0 ∧ v.1 40 = q 40) (fun u => u.elim (cW E q g a s t .null []) (fun v => cW E v.1 g a v.2.1 v.2.2 (.ref (v.1 49)) (sR E v.1 v.2.1 v.2.2))) := by
  refine WR.mk (by decide) (Nat.le_of_ble_eq_true rfl) [(0, .ref (q 40)), (1, .int x)] rfl (fun Z B ret => ?_)
  refine i_aload_n B 0 dX8_flights_0 rfl ?_
  refine i_iload_n B 1 dX8_flights_1 rfl ?_
  refine c_roV (rest := []) (As := [.int x]) B (k_X8_isViewSet l E q g a s t .null [] nv hv hnv x) cal_yX8_isViewSet iv_yX8_isViewSet mlX8_114 rfl 0 rfl (by decide) (by decide) rfl (Nat.le_of_ble_eq_true rfl) Has.rf _ rfl dX8_flights_2 (fun r hr => ?_)
  subst hr
  refine i_val (v' := .int (bI (!nset (g 8) x))) rfl ?_
  refine i_if_ne B 10 dX8_flights_5 (by decide) (fun h1 => ?_) (fun h1 => ?_)
  · replace h1 := bI_n.mp h1
    replace h1 : nset (g 8) x = false := by simpa using h1
    obtain ⟨S, hS, rfl⟩ := nset_ix hnv (by rw [← hv]; exact h1)
    have hpw := pow_le nv hnv
    refine i_aload_n B 0 dX8_flights_10 rfl ?_
    refine i_iload_n B 1 dX8_flights_11 rfl ?_
    refine c_wqV (cells := 0) (slots := 0) (rest := []) (As := [.int (nI S)]) B (k_X8_routesForN l E q g a s t nc hc hnc nv hv hnv hb hle hpt S hS) cal_yX8_routesFor iv_yX8_routesFor mlX8_153 rfl 0 rfl (by decide) (by decide) rfl (Nat.le_of_ble_eq_true rfl) ([]) ([]) rfl _ rfl dX8_flights_12 (fun ⟨q2, s2, t2⟩ hr => ?_)
    dsimp only at hr
    obtain ⟨⟨RS, SS, hRS, hSS, hs63, hs64, hSR, hrv, hsv⟩, hq40⟩ := hr
    refine i_world (ws' := (cW E q2 g a s2 t2 (.ref (q2 49)) (sR E q2 s2 t2))) rfl ?_
    refine i_iload_n B 1 dX8_flights_15 rfl ?_
    refine c_wiV (cells := 5) (slots := 12418) (rest := []) (As := [.int (nI S)]) B (k_X6_fewestTrips l E q2 g a s2 t2 nc nv RS S hrv hRS hSR hnv SS hSS hs64 hsv) cal_yX6_fewestTrips iv_yX6_fewestTrips mlX8_165 rfl 31 rfl (by decide) (by decide) rfl (Nat.le_of_ble_eq_true rfl) ([]) ([]) rfl _ rfl dX8_flights_16 (fun r ⟨sp9, S9⟩ hr => ?_)
    dsimp only at hr
    obtain ⟨hr1, hv8, hl8⟩ := hr
    subst hr1
    refine i_world (ws' := (cW E q2 g a (upd s2 64 (nI S9)) (va_up t2 57 sp9) (.ref (q2 49)) (sR E q2 (upd s2 64 (nI S9)) (va_up t2 57 sp9)))) rfl ?_
    exact ret _ _ _ (some (q2, (upd s2 64 (nI S9)), (va_up t2 57 sp9))) rfl dX8_flights_19 (⟨by rw [fliC, h1, ix_nI (by omega)]; rfl, fun v h => by (cases h; exact ⟨⟨RS, S9, hRS, hl8, hs63, rfl, Nat.zero_and _, hrv, hv8⟩, hq40⟩)⟩)
  · replace h1 := bI_0.mp h1
    replace h1 : nset (g 8) x = true := by simpa using h1
    refine i_iconst (v := (-1)) B dX8_flights_8 (by decide) ?_
    refine i_widen (k := 5) (n := 12418) (by decide) (by decide) ?_
    exact ret _ _ _ none rfl dX8_flights_9 (⟨by rw [fliC, h1]; rfl, fun v h => by cases h⟩)

set_option maxHeartbeats 4000000 in
set_option maxRecDepth 100000 in
theorem k_X8_energyN (l : Launch) (E : ED) (q : Nat → Nat) (g : Nat → Int32) (a : Nat → Nat → Int32) (s : Nat → Int32) (t : Nat → Nat → Int32) (nc : Nat) (hc : g 11 = nI nc) (hnc : nc ≤ 4) (nv : Nat) (hv : g 8 = nI nv) (hnv : nv ≤ 10) (hb : g 90 = a 9 10 ∧ g 91 = a 10 10) (hle : LegEq g a nc) (hpt : ∀ v, thr nv v = true → pt (a 9 v) (a 10 v) = true) (x : Int32) : WR l E yX8_energy cX8_energy 2 .int 6 148 5 12418 [.ref (q 40), .int x] (cW E q g a s t .null []) (fun r (u : Option ((Nat → Nat) × (Nat → Int32) × (Nat → Nat → Int32))) => r = eneC (g 18) (rnd (lgm g a nc nv) (g 19) nv) (g 8) x ∧ ∀ v, u = some v → RIS g a nc nv v.2.1 v.2.2 0 ∧ v.1 40 = q 40) (fun u => u.elim (cW E q g a s t .null []) (fun v => cW E v.1 g a v.2.1 v.2.2 (.ref (v.1 49)) (sR E v.1 v.2.1 v.2.2))) := by
  refine WR.mk (by decide) (Nat.le_of_ble_eq_true rfl) [(0, .ref (q 40)), (1, .int x)] rfl (fun Z B ret => ?_)
  refine i_aload_n B 0 dX8_energy_0 rfl ?_
  refine i_iload_n B 1 dX8_energy_1 rfl ?_
  refine c_roV (rest := []) (As := [.int x]) B (k_X8_isViewSet l E q g a s t .null [] nv hv hnv x) cal_yX8_isViewSet iv_yX8_isViewSet mlX8_114 rfl 0 rfl (by decide) (by decide) rfl (Nat.le_of_ble_eq_true rfl) Has.rf _ rfl dX8_energy_2 (fun r hr => ?_)
  subst hr
  refine i_val (v' := .int (bI (!nset (g 8) x))) rfl ?_
  refine i_if_ne B 10 dX8_energy_5 (by decide) (fun h1 => ?_) (fun h1 => ?_)
  · replace h1 := bI_n.mp h1
    replace h1 : nset (g 8) x = false := by simpa using h1
    obtain ⟨S, hS, rfl⟩ := nset_ix hnv (by rw [← hv]; exact h1)
    have hpw := pow_le nv hnv
    refine i_aload_n B 0 dX8_energy_10 rfl ?_
    refine i_iload_n B 1 dX8_energy_11 rfl ?_
    refine c_wqV (cells := 0) (slots := 0) (rest := []) (As := [.int (nI S)]) B (k_X8_routesForN l E q g a s t nc hc hnc nv hv hnv hb hle hpt S hS) cal_yX8_routesFor iv_yX8_routesFor mlX8_153 rfl 0 rfl (by decide) (by decide) rfl (Nat.le_of_ble_eq_true rfl) ([]) ([]) rfl _ rfl dX8_energy_12 (fun ⟨q2, s2, t2⟩ hr => ?_)
    dsimp only at hr
    obtain ⟨⟨RS, SS, hRS, hSS, hs63, hs64, hSR, hrv, hsv⟩, hq40⟩ := hr
    refine i_world (ws' := (cW E q2 g a s2 t2 (.ref (q2 49)) (sR E q2 s2 t2))) rfl ?_
    refine i_iload_n B 1 dX8_energy_15 rfl ?_
    refine c_wiV (cells := 5) (slots := 12418) (rest := []) (As := [.int (nI S)]) B (k_X6_cheapestTrips l E q2 g a s2 t2 nc nv RS S hrv hRS hSR hnv SS hSS hs64 hsv) cal_yX6_cheapestTrips iv_yX6_cheapestTrips mlX8_168 rfl 31 rfl (by decide) (by decide) rfl (Nat.le_of_ble_eq_true rfl) ([]) ([]) rfl _ rfl dX8_energy_16 (fun r ⟨sp9, S9⟩ hr => ?_)
    dsimp only at hr
    obtain ⟨hr1, hv8, hl8⟩ := hr
    subst hr1
    refine i_world (ws' := (cW E q2 g a (upd s2 64 (nI S9)) (va_up t2 57 sp9) (.ref (q2 49)) (sR E q2 (upd s2 64 (nI S9)) (va_up t2 57 sp9)))) rfl ?_
    exact ret _ _ _ (some (q2, (upd s2 64 (nI S9)), (va_up t2 57 sp9))) rfl dX8_energy_19 (⟨by rw [eneC, h1, ix_nI (by omega)]; rfl, fun v h => by (cases h; exact ⟨⟨RS, S9, hRS, hl8, hs63, rfl, Nat.zero_and _, hrv, hv8⟩, hq40⟩)⟩)
  · replace h1 := bI_0.mp h1
    replace h1 : nset (g 8) x = true := by simpa using h1
    refine i_iconst (v := (-1)) B dX8_energy_8 (by decide) ?_
    refine i_widen (k := 5) (n := 12418) (by decide) (by decide) ?_
    exact ret _ _ _ none rfl dX8_energy_9 (⟨by rw [eneC, h1]; rfl, fun v h => by cases h⟩)

set_option maxHeartbeats 4000000 in
set_option maxRecDepth 100000 in
theorem k_X8_roundR (l : Launch) (E : ED) (q : Nat → Nat) (g : Nat → Int32) (a : Nat → Nat → Int32) (s : Nat → Int32) (t : Nat → Nat → Int32) (nc : Nat) (hc : g 11 = nI nc) (hnc : nc ≤ 4) (nv : Nat) (hv : g 8 = nI nv) (hnv : nv ≤ 10) (hb : g 90 = a 9 10 ∧ g 91 = a 10 10) (hle : LegEq g a nc) (hpt : ∀ v, thr nv v = true → pt (a 9 v) (a 10 v) = true) (hri : RIS g a nc nv s t 0) (x : Int32) : WR l E yX8_round cX8_round 2 .int 6 148 5 12418 [.ref (q 40), .int x] (cW E q g a s t (.ref (q 49)) (sR E q s t)) (fun r (u : (Nat → Int32) × (Nat → Nat → Int32)) => r = rouF (lgm g a nc nv) (g 19) nv (g 8) x ∧ RIS g a nc nv u.1 u.2 0) (fun u => cW E q g a u.1 u.2 (.ref (q 49)) (sR E q u.1 u.2)) := by
  refine WR.mk (by decide) (Nat.le_of_ble_eq_true rfl) [(0, .ref (q 40)), (1, .int x)] rfl (fun Z B ret => ?_)
  refine i_aload_n B 0 dX8_round_0 rfl ?_
  refine i_iload_n B 1 dX8_round_1 rfl ?_
  refine c_roV (rest := []) (As := [.int x]) B (k_X8_isViewSet l E q g a s t (.ref (q 49)) (sR E q s t) nv hv hnv x) cal_yX8_isViewSet iv_yX8_isViewSet mlX8_114 rfl 0 rfl (by decide) (by decide) rfl (Nat.le_of_ble_eq_true rfl) Has.rf _ rfl dX8_round_2 (fun r hr => ?_)
  subst hr
  refine i_val (v' := .int (bI (!nset (g 8) x))) rfl ?_
  refine i_if_ne B 10 dX8_round_5 (by decide) (fun h1 => ?_) (fun h1 => ?_)
  · replace h1 := bI_n.mp h1
    replace h1 : nset (g 8) x = false := by simpa using h1
    obtain ⟨S, hS, rfl⟩ := nset_ix hnv (by rw [← hv]; exact h1)
    have hpw := pow_le nv hnv
    refine i_aload_n B 0 dX8_round_10 rfl ?_
    refine i_iload_n B 1 dX8_round_11 rfl ?_
    refine c_wqV (cells := 0) (slots := 0) (rest := []) (As := [.int (nI S)]) B (k_X8_routesForR l E q g a s t nc hc hnc nv hv hnv hb hle hpt hri S hS) cal_yX8_routesFor iv_yX8_routesFor mlX8_153 rfl 0 rfl (by decide) (by decide) rfl (Nat.le_of_ble_eq_true rfl) ([]) ([]) rfl _ rfl dX8_round_12 (fun ⟨s2, t2⟩ hr => ?_)
    dsimp only at hr
    obtain ⟨RS, SS, hRS, hSS, hs63, hs64, hSR, hrv, hsv⟩ := hr
    refine i_world (ws' := (cW E q g a s2 t2 (.ref (q 49)) (sR E q s2 t2))) rfl ?_
    refine i_iload_n B 1 dX8_round_15 rfl ?_
    refine c_roV (rest := []) (As := [.int (nI S)]) B (k_X6_roundCost l E q g a s2 t2 S (by omega)) cal_yX6_roundCost iv_yX6_roundCost mlX8_157 rfl 31 rfl (by decide) (by decide) rfl (Nat.le_of_ble_eq_true rfl) Has.rf _ rfl dX8_round_16 (fun r hr => ?_)
    subst hr
    refine i_val (v' := .int (rndC (lgm g a nc nv) (g 19) nv S)) (congrArg Value.int (rdc_eq (hrv.2.2 S hSR))) ?_
    refine i_widen (k := 5) (n := 12418) (by decide) (by decide) ?_
    exact ret _ _ _ (s2, t2) rfl dX8_round_19 (⟨by rw [rouF, h1, ix_nI (by omega)]; rfl, ⟨RS, SS, hRS, hSS, hs63, hs64, Nat.zero_and _, hrv, hsv⟩⟩)
  · replace h1 := bI_0.mp h1
    replace h1 : nset (g 8) x = true := by simpa using h1
    refine i_iconst (v := (-1)) B dX8_round_8 (by decide) ?_
    refine i_widen (k := 5) (n := 12418) (by decide) (by decide) ?_
    exact ret _ _ _ (s, t) rfl dX8_round_9 (⟨by rw [rouF, h1]; rfl, hri⟩)

set_option maxHeartbeats 4000000 in
set_option maxRecDepth 100000 in
theorem k_X8_stopR (l : Launch) (E : ED) (q : Nat → Nat) (g : Nat → Int32) (a : Nat → Nat → Int32) (s : Nat → Int32) (t : Nat → Nat → Int32) (nc : Nat) (hc : g 11 = nI nc) (hnc : nc ≤ 4) (nv : Nat) (hv : g 8 = nI nv) (hnv : nv ≤ 10) (hb : g 90 = a 9 10 ∧ g 91 = a 10 10) (hle : LegEq g a nc) (hpt : ∀ v, thr nv v = true → pt (a 9 v) (a 10 v) = true) (hri : RIS g a nc nv s t 0) (hok : ∀ S, S < 2 ^ nv → rnd (lgm g a nc nv) (g 19) nv S < 1000000 → StOK (lgm g a nc nv) (g 19) nv S) (x pl : Int32) : WR l E yX8_stop cX8_stop 3 .int 6 148 5 12418 [.ref (q 40), .int x, .int pl] (cW E q g a s t (.ref (q 49)) (sR E q s t)) (fun r (u : (Nat → Int32) × (Nat → Nat → Int32)) => r = stoC (lgm g a nc nv) (g 19) nv (g 8) x pl ∧ RIS g a nc nv u.1 u.2 0) (fun u => cW E q g a u.1 u.2 (.ref (q 49)) (sR E q u.1 u.2)) := by
  refine WR.mk (by decide) (Nat.le_of_ble_eq_true rfl) [(0, .ref (q 40)), (1, .int x), (2, .int pl)] rfl (fun Z B ret => ?_)
  refine i_aload_n B 0 dX8_stop_0 rfl ?_
  refine i_iload_n B 1 dX8_stop_1 rfl ?_
  refine c_roV (rest := []) (As := [.int x]) B (k_X8_isViewSet l E q g a s t (.ref (q 49)) (sR E q s t) nv hv hnv x) cal_yX8_isViewSet iv_yX8_isViewSet mlX8_114 rfl 0 rfl (by decide) (by decide) rfl (Nat.le_of_ble_eq_true rfl) Has.rf _ rfl dX8_stop_2 (fun r hr => ?_)
  subst hr
  refine i_val (v' := .int (bI (!nset (g 8) x))) rfl ?_
  refine i_if_ne B 10 dX8_stop_5 (by decide) (fun h1 => ?_) (fun h1 => ?_)
  · replace h1 := bI_n.mp h1
    replace h1 : nset (g 8) x = false := by simpa using h1
    obtain ⟨S, hS, rfl⟩ := nset_ix hnv (by rw [← hv]; exact h1)
    have hpw := pow_le nv hnv
    refine i_aload_n B 0 dX8_stop_10 rfl ?_
    refine i_iload_n B 1 dX8_stop_11 rfl ?_
    refine c_wqV (cells := 0) (slots := 0) (rest := []) (As := [.int (nI S)]) B (k_X8_routesForR l E q g a s t nc hc hnc nv hv hnv hb hle hpt hri S hS) cal_yX8_routesFor iv_yX8_routesFor mlX8_153 rfl 0 rfl (by decide) (by decide) rfl (Nat.le_of_ble_eq_true rfl) ([]) ([]) rfl _ rfl dX8_stop_12 (fun ⟨s2, t2⟩ hr => ?_)
    dsimp only at hr
    obtain ⟨RS, SS, hRS, hSS, hs63, hs64, hSR, hrv, hsv⟩ := hr
    refine i_world (ws' := (cW E q g a s2 t2 (.ref (q 49)) (sR E q s2 t2))) rfl ?_
    refine i_iload_n B 1 dX8_stop_15 rfl ?_
    refine i_iload_n B 2 dX8_stop_16 rfl ?_
    refine c_roV (rest := []) (As := [.int (nI S), .int pl]) B (k_X6_viewAt l E q g a s2 t2 nc nv RS S hrv hRS hSR hnv (hok S hS) pl) cal_yX6_viewAt iv_yX6_viewAt mlX8_162 rfl 31 rfl (by decide) (by decide) rfl (Nat.le_of_ble_eq_true rfl) Has.rf _ rfl dX8_stop_17 (fun r hr => ?_)
    subst hr
    refine i_val (v' := .int (viwF (lgm g a nc nv) (g 19) nv S pl)) rfl ?_
    refine i_widen (k := 5) (n := 12418) (by decide) (by decide) ?_
    exact ret _ _ _ (s2, t2) rfl dX8_stop_20 (⟨by rw [stoC, h1, ix_nI (by omega)]; rfl, ⟨RS, SS, hRS, hSS, hs63, hs64, Nat.zero_and _, hrv, hsv⟩⟩)
  · replace h1 := bI_0.mp h1
    replace h1 : nset (g 8) x = true := by simpa using h1
    refine i_iconst (v := (-1)) B dX8_stop_8 (by decide) ?_
    refine i_widen (k := 5) (n := 12418) (by decide) (by decide) ?_
    exact ret _ _ _ (s, t) rfl dX8_stop_9 (⟨by rw [stoC, h1]; rfl, hri⟩)

set_option maxHeartbeats 4000000 in
set_option maxRecDepth 100000 in
theorem k_X8_flightsR (l : Launch) (E : ED) (q : Nat → Nat) (g : Nat → Int32) (a : Nat → Nat → Int32) (s : Nat → Int32) (t : Nat → Nat → Int32) (nc : Nat) (hc : g 11 = nI nc) (hnc : nc ≤ 4) (nv : Nat) (hv : g 8 = nI nv) (hnv : nv ≤ 10) (hb : g 90 = a 9 10 ∧ g 91 = a 10 10) (hle : LegEq g a nc) (hpt : ∀ v, thr nv v = true → pt (a 9 v) (a 10 v) = true) (hri : RIS g a nc nv s t 0) (x : Int32) : WR l E yX8_flights cX8_flights 2 .int 6 148 5 12418 [.ref (q 40), .int x] (cW E q g a s t (.ref (q 49)) (sR E q s t)) (fun r (u : (Nat → Int32) × (Nat → Nat → Int32)) => r = fliC (g 18) (rnd (lgm g a nc nv) (g 19) nv) (g 8) x ∧ RIS g a nc nv u.1 u.2 0) (fun u => cW E q g a u.1 u.2 (.ref (q 49)) (sR E q u.1 u.2)) := by
  refine WR.mk (by decide) (Nat.le_of_ble_eq_true rfl) [(0, .ref (q 40)), (1, .int x)] rfl (fun Z B ret => ?_)
  refine i_aload_n B 0 dX8_flights_0 rfl ?_
  refine i_iload_n B 1 dX8_flights_1 rfl ?_
  refine c_roV (rest := []) (As := [.int x]) B (k_X8_isViewSet l E q g a s t (.ref (q 49)) (sR E q s t) nv hv hnv x) cal_yX8_isViewSet iv_yX8_isViewSet mlX8_114 rfl 0 rfl (by decide) (by decide) rfl (Nat.le_of_ble_eq_true rfl) Has.rf _ rfl dX8_flights_2 (fun r hr => ?_)
  subst hr
  refine i_val (v' := .int (bI (!nset (g 8) x))) rfl ?_
  refine i_if_ne B 10 dX8_flights_5 (by decide) (fun h1 => ?_) (fun h1 => ?_)
  · replace h1 := bI_n.mp h1
    replace h1 : nset (g 8) x = false := by simpa using h1
    obtain ⟨S, hS, rfl⟩ := nset_ix hnv (by rw [← hv]; exact h1)
    have hpw := pow_le nv hnv
    refine i_aload_n B 0 dX8_flights_10 rfl ?_
    refine i_iload_n B 1 dX8_flights_11 rfl ?_
    refine c_wqV (cells := 0) (slots := 0) (rest := []) (As := [.int (nI S)]) B (k_X8_routesForR l E q g a s t nc hc hnc nv hv hnv hb hle hpt hri S hS) cal_yX8_routesFor iv_yX8_routesFor mlX8_153 rfl 0 rfl (by decide) (by decide) rfl (Nat.le_of_ble_eq_true rfl) ([]) ([]) rfl _ rfl dX8_flights_12 (fun ⟨s2, t2⟩ hr => ?_)
    dsimp only at hr
    obtain ⟨RS, SS, hRS, hSS, hs63, hs64, hSR, hrv, hsv⟩ := hr
    refine i_world (ws' := (cW E q g a s2 t2 (.ref (q 49)) (sR E q s2 t2))) rfl ?_
    refine i_iload_n B 1 dX8_flights_15 rfl ?_
    refine c_wiV (cells := 0) (slots := 0) (rest := []) (As := [.int (nI S)]) B (k_X6_fewestTrips l E q g a s2 t2 nc nv RS S hrv hRS hSR hnv SS hSS hs64 hsv) cal_yX6_fewestTrips iv_yX6_fewestTrips mlX8_165 rfl 31 rfl (by decide) (by decide) rfl (Nat.le_of_ble_eq_true rfl) ([]) ([]) rfl _ rfl dX8_flights_16 (fun r ⟨sp9, S9⟩ hr => ?_)
    dsimp only at hr
    obtain ⟨hr1, hv8, hl8⟩ := hr
    subst hr1
    refine i_world (ws' := (cW E q g a (upd s2 64 (nI S9)) (va_up t2 57 sp9) (.ref (q 49)) (sR E q (upd s2 64 (nI S9)) (va_up t2 57 sp9)))) rfl ?_
    refine i_widen (k := 5) (n := 12418) (by decide) (by decide) ?_
    exact ret _ _ _ ((upd s2 64 (nI S9)), (va_up t2 57 sp9)) rfl dX8_flights_19 (⟨by rw [fliC, h1, ix_nI (by omega)]; rfl, ⟨RS, S9, hRS, hl8, hs63, rfl, Nat.zero_and _, hrv, hv8⟩⟩)
  · replace h1 := bI_0.mp h1
    replace h1 : nset (g 8) x = true := by simpa using h1
    refine i_iconst (v := (-1)) B dX8_flights_8 (by decide) ?_
    refine i_widen (k := 5) (n := 12418) (by decide) (by decide) ?_
    exact ret _ _ _ (s, t) rfl dX8_flights_9 (⟨by rw [fliC, h1]; rfl, hri⟩)

set_option maxHeartbeats 4000000 in
set_option maxRecDepth 100000 in
theorem k_X8_energyR (l : Launch) (E : ED) (q : Nat → Nat) (g : Nat → Int32) (a : Nat → Nat → Int32) (s : Nat → Int32) (t : Nat → Nat → Int32) (nc : Nat) (hc : g 11 = nI nc) (hnc : nc ≤ 4) (nv : Nat) (hv : g 8 = nI nv) (hnv : nv ≤ 10) (hb : g 90 = a 9 10 ∧ g 91 = a 10 10) (hle : LegEq g a nc) (hpt : ∀ v, thr nv v = true → pt (a 9 v) (a 10 v) = true) (hri : RIS g a nc nv s t 0) (x : Int32) : WR l E yX8_energy cX8_energy 2 .int 6 148 5 12418 [.ref (q 40), .int x] (cW E q g a s t (.ref (q 49)) (sR E q s t)) (fun r (u : (Nat → Int32) × (Nat → Nat → Int32)) => r = eneC (g 18) (rnd (lgm g a nc nv) (g 19) nv) (g 8) x ∧ RIS g a nc nv u.1 u.2 0) (fun u => cW E q g a u.1 u.2 (.ref (q 49)) (sR E q u.1 u.2)) := by
  refine WR.mk (by decide) (Nat.le_of_ble_eq_true rfl) [(0, .ref (q 40)), (1, .int x)] rfl (fun Z B ret => ?_)
  refine i_aload_n B 0 dX8_energy_0 rfl ?_
  refine i_iload_n B 1 dX8_energy_1 rfl ?_
  refine c_roV (rest := []) (As := [.int x]) B (k_X8_isViewSet l E q g a s t (.ref (q 49)) (sR E q s t) nv hv hnv x) cal_yX8_isViewSet iv_yX8_isViewSet mlX8_114 rfl 0 rfl (by decide) (by decide) rfl (Nat.le_of_ble_eq_true rfl) Has.rf _ rfl dX8_energy_2 (fun r hr => ?_)
  subst hr
  refine i_val (v' := .int (bI (!nset (g 8) x))) rfl ?_
  refine i_if_ne B 10 dX8_energy_5 (by decide) (fun h1 => ?_) (fun h1 => ?_)
  · replace h1 := bI_n.mp h1
    replace h1 : nset (g 8) x = false := by simpa using h1
    obtain ⟨S, hS, rfl⟩ := nset_ix hnv (by rw [← hv]; exact h1)
    have hpw := pow_le nv hnv
    refine i_aload_n B 0 dX8_energy_10 rfl ?_
    refine i_iload_n B 1 dX8_energy_11 rfl ?_
    refine c_wqV (cells := 0) (slots := 0) (rest := []) (As := [.int (nI S)]) B (k_X8_routesForR l E q g a s t nc hc hnc nv hv hnv hb hle hpt hri S hS) cal_yX8_routesFor iv_yX8_routesFor mlX8_153 rfl 0 rfl (by decide) (by decide) rfl (Nat.le_of_ble_eq_true rfl) ([]) ([]) rfl _ rfl dX8_energy_12 (fun ⟨s2, t2⟩ hr => ?_)
    dsimp only at hr
    obtain ⟨RS, SS, hRS, hSS, hs63, hs64, hSR, hrv, hsv⟩ := hr
    refine i_world (ws' := (cW E q g a s2 t2 (.ref (q 49)) (sR E q s2 t2))) rfl ?_
    refine i_iload_n B 1 dX8_energy_15 rfl ?_
    refine c_wiV (cells := 0) (slots := 0) (rest := []) (As := [.int (nI S)]) B (k_X6_cheapestTrips l E q g a s2 t2 nc nv RS S hrv hRS hSR hnv SS hSS hs64 hsv) cal_yX6_cheapestTrips iv_yX6_cheapestTrips mlX8_168 rfl 31 rfl (by decide) (by decide) rfl (Nat.le_of_ble_eq_true rfl) ([]) ([]) rfl _ rfl dX8_energy_16 (fun r ⟨sp9, S9⟩ hr => ?_)
    dsimp only at hr
    obtain ⟨hr1, hv8, hl8⟩ := hr
    subst hr1
    refine i_world (ws' := (cW E q g a (upd s2 64 (nI S9)) (va_up t2 57 sp9) (.ref (q 49)) (sR E q (upd s2 64 (nI S9)) (va_up t2 57 sp9)))) rfl ?_
    refine i_widen (k := 5) (n := 12418) (by decide) (by decide) ?_
    exact ret _ _ _ ((upd s2 64 (nI S9)), (va_up t2 57 sp9)) rfl dX8_energy_19 (⟨by rw [eneC, h1, ix_nI (by omega)]; rfl, ⟨RS, S9, hRS, hl8, hs63, rfl, Nat.zero_and _, hrv, hv8⟩⟩)
  · replace h1 := bI_0.mp h1
    replace h1 : nset (g 8) x = true := by simpa using h1
    refine i_iconst (v := (-1)) B dX8_energy_8 (by decide) ?_
    refine i_widen (k := 5) (n := 12418) (by decide) (by decide) ?_
    exact ret _ _ _ (s, t) rfl dX8_energy_9 (⟨by rw [eneC, h1]; rfl, hri⟩)
