def wres (a : Nat → Nat → Int32) (nm : Nat) (p y1 y2 tol : Int32) : Int32 := wrr (srt a p y1 nm).2 (srt a p y2 nm).2 tol (srt a p y1 nm).1 (srt a p y2 nm).1
def prs (w : Int32) : Int32 := (w + 100000 - 1) / 100000
def drs (w : Int32) : Int32 := prs w * 100000 - w
theorem wres_of (a : Nat → Nat → Int32) (nm : Nat) (p y1 y2 tol : Int32) (r s : Nat → Int32) : wres a nm p y1 y2 tol = wrr (plc a r p y1 nm).2 (plc a s p y2 nm).2 tol (plc a r p y1 nm).1 (plc a s p y2 nm).1 := by
  have e1 := plc_jk a (fun _ => 0) r p y1 nm
  have e2 := plc_jk a (fun _ => 0) s p y2 nm
  rw [wres, srt, srt, ← e1.1, ← e2.1]
  exact wrr_cg _ _ e1.2 e2.2

set_option maxHeartbeats 4000000 in
set_option maxRecDepth 100000 in
theorem k_X4_pairUp (l : Launch) (E : ED) (q : Nat → Nat) (g : Nat → Int32) (a : Nat → Nat → Int32) (s : Nat → Int32) (t : Nat → Nat → Int32) (nm : Nat) (hm : g 24 = nI nm) (hnm : nm ≤ 40) (p y1 y2 tol : Int32) : WV l E yX4_pairUp cX4_pairUp 8 2 49 0 0 [.ref (q 48), .int p, .int y1, .int y2, .int tol] (sM E q g a s t) (fun _ : (Nat → Int32) × (Nat → Int32) × (Nat → Int32) => True) (fun u => sM E q g a (upd (upd s 61 (prs (wres a nm p y1 y2 tol))) 62 (drs (wres a nm p y1 y2 tol))) (va_up (va_up (va_up t 51 u.1) 52 u.2.1) 53 u.2.2)) := by
  refine WV.mk (by decide) (Nat.le_of_ble_eq_true rfl) [(0, .ref (q 48)), (1, .int p), (2, .int y1), (3, .int y2), (4, .int tol)] rfl (fun Z B hI ret => ?_)
  have lb : ∀ (n_lb : Nat) (na : Nat) (nb : Nat) (x : Nat → Int32) (y : Nat → Int32) (i : Nat) (r : Nat → Int32), (na - i < n_lb) → (na ≤ 40) → (nb ≤ 40) → (wres a nm p y1 y2 tol = wrr x y tol na nb) → (i ≤ na) → (∀ k : Nat, k ≤ nb → r k = wrr x y tol i k) → J Z 0 0 (sM E q g a s (va_up (va_up (va_up t 51 x) 52 y) 53 r)) 51 [(7, .int (nI i)), (6, .int (nI nb)), (5, .int (nI na)), (0, .ref (q 48)), (4, .int tol)] [] := by
    intro n_lb
    induction n_lb with
    | zero => intro na nb x y i r hf_lb hna hnb hsp hi hw; omega
    | succ n_lb ih_lb =>
      intro na nb x y i r hf_lb hna hnb hsp hi hw
      refine i_iload B 0 dX4_pairUp_51 rfl ?_
      refine i_iload B 2 dX4_pairUp_53 rfl ?_
      refine i_icmp_ge B 79 dX4_pairUp_55 (by decide) (fun h1 => ?_) (fun h1 => ?_)
      · replace h1 := q_n32.mpr h1
        rw [nI_ltI (by omega) (by omega)] at h1
        refine i_aload_n B 3 dX4_pairUp_79 rfl ?_
        refine i_aload_n B 3 dX4_pairUp_80 rfl ?_
        refine i_get (v := .ref (q 53)) B flX4_34 0 rfl rfl dX4_pairUp_81 ?_
        refine i_iload B 1 dX4_pairUp_84 rfl ?_
        refine i_ialdN B 8 nb rfl rfl (by omega) (by decide) dX4_pairUp_86 ?_
        refine i_val (v' := .int (r nb)) rfl ?_
        refine i_val (v' := .int (wres a nm p y1 y2 tol)) (congrArg Value.int (by rw [hsp, show na = i by omega]; exact hw nb (Nat.le_refl _))) ?_
        refine i_ldc B ckX4_53 dX4_pairUp_87 ?_
        refine i_iadd B dX4_pairUp_89 ?_
        refine i_iconst (v := 1) B dX4_pairUp_90 (by decide) ?_
        refine i_isub B dX4_pairUp_91 ?_
        refine i_ldc B ckX4_53 dX4_pairUp_92 ?_
        refine i_idiv B dX4_pairUp_94 (by decide) ?_
        refine i_val (v' := .int (prs (wres a nm p y1 y2 tol))) (congrArg Value.int (rfl)) ?_
        refine i_put B flX4_54 0 (sM E q g a (upd s 61 (prs (wres a nm p y1 y2 tol))) (va_up (va_up (va_up t 51 x) 52 y) 53 r)) rfl rfl rfl rfl (Nat.le_of_ble_eq_true rfl) rfl dX4_pairUp_95 ?_
        refine i_aload_n B 3 dX4_pairUp_98 rfl ?_
        refine i_aload_n B 3 dX4_pairUp_99 rfl ?_
        refine i_get (v := .int (prs (wres a nm p y1 y2 tol))) B flX4_54 0 rfl rfl dX4_pairUp_100 ?_
        refine i_ldc B ckX4_53 dX4_pairUp_103 ?_
        refine i_imul B dX4_pairUp_105 ?_
        refine i_aload_n B 3 dX4_pairUp_106 rfl ?_
        refine i_get (v := .ref (q 53)) B flX4_34 0 rfl rfl dX4_pairUp_107 ?_
        refine i_iload B 1 dX4_pairUp_110 rfl ?_
        refine i_ialdN B 8 nb rfl rfl (by omega) (by decide) dX4_pairUp_112 ?_
        refine i_val (v' := .int (r nb)) rfl ?_
        refine i_val (v' := .int (wres a nm p y1 y2 tol)) (congrArg Value.int (by rw [hsp, show na = i by omega]; exact hw nb (Nat.le_refl _))) ?_
        refine i_isub B dX4_pairUp_113 ?_
        refine i_val (v' := .int (drs (wres a nm p y1 y2 tol))) (congrArg Value.int (rfl)) ?_
        refine i_put B flX4_57 0 (sM E q g a (upd (upd s 61 (prs (wres a nm p y1 y2 tol))) 62 (drs (wres a nm p y1 y2 tol))) (va_up (va_up (va_up t 51 x) 52 y) 53 r)) rfl rfl rfl rfl (Nat.le_of_ble_eq_true rfl) rfl dX4_pairUp_114 ?_
        exact ret _ _ (x, y, r) dX4_pairUp_117 (trivial)
      · replace h1 := q_m32.mp h1
        rw [nI_ltI (by omega) (by omega)] at h1
        refine i_aload_n B 3 dX4_pairUp_58 rfl ?_
        refine i_aload_n B 3 dX4_pairUp_59 rfl ?_
        refine i_get (v := .ref (q 51)) B flX4_28 0 rfl rfl dX4_pairUp_60 ?_
        refine i_iload B 0 dX4_pairUp_63 rfl ?_
        refine i_ialdN B 6 i rfl rfl (by omega) (by decide) dX4_pairUp_65 ?_
        refine i_val (v' := .int (x i)) rfl ?_
        refine i_iload B 1 dX4_pairUp_66 rfl ?_
        refine i_iload B 4 dX4_pairUp_68 rfl ?_
        refine c_wvV (cells := 0) (slots := 0) (rest := []) (As := [.int (x i), .int (nI nb), .int tol]) B (k_X4_addPlace l E q g a s (va_up (va_up (va_up t 51 x) 52 y) 53 r) nb hnb (x i) tol) cal_yX4_addPlace iv_yX4_addPlace mlX4_49 rfl 0 rfl (by decide) (by decide) rfl (Nat.le_of_ble_eq_true rfl) ([]) ([]) rfl _ rfl dX4_pairUp_70 (fun r2 hr => ?_)
        have hr2 : ∀ k : Nat, k ≤ nb → r2 k = nwr y (x i) tol r k := hr
        refine i_world (ws' := (sM E q g a s (va_up (va_up (va_up t 51 x) 52 y) 53 r2))) rfl ?_
        refine i_iinc (v := (nI (i + 1))) B 0 [(7, .int (nI (i + 1))), (6, .int (nI nb)), (5, .int (nI na)), (0, .ref (q 48)), (4, .int tol)] dX4_pairUp_73 rfl ((nI_1 _)) (by decide) rfl ?_
        refine i_goto B 51 dX4_pairUp_76 (by decide) ?_
        exact ih_lb na nb x y (i + 1) r2 (by omega) hna hnb hsp (by omega) (fun k hk => (hr2 k hk).trans (nwr_cg k (fun m hm => rfl) (fun m hm => hw m (by omega))))
  have la : ∀ (n_la : Nat) (na : Nat) (nb : Nat) (x : Nat → Int32) (y : Nat → Int32) (j : Nat) (r : Nat → Int32), (nb + 1 - j < n_la) → (na ≤ 40) → (nb ≤ 40) → (wres a nm p y1 y2 tol = wrr x y tol na nb) → (j ≤ nb + 1) → (∀ k : Nat, k < j → r k = 0) → J Z 0 0 (sM E q g a s (va_up (va_up (va_up t 51 x) 52 y) 53 r)) 27 [(7, .int (nI j)), (6, .int (nI nb)), (5, .int (nI na)), (0, .ref (q 48)), (4, .int tol)] [] := by
    intro n_la
    induction n_la with
    | zero => intro na nb x y j r hf_la hna hnb hsp hj hz; omega
    | succ n_la ih_la =>
      intro na nb x y j r hf_la hna hnb hsp hj hz
      refine i_iload B 0 dX4_pairUp_27 rfl ?_
      refine i_iload B 1 dX4_pairUp_29 rfl ?_
      refine i_icmp_gt B 48 dX4_pairUp_31 (by decide) (fun h2 => ?_) (fun h2 => ?_)
      · rw [nI_ltI (by omega) (by omega)] at h2
        refine i_iconst (v := 0) B dX4_pairUp_48 (by decide) ?_
        refine i_istore B [(7, .int 0), (6, .int (nI nb)), (5, .int (nI na)), (0, .ref (q 48)), (4, .int tol)] dX4_pairUp_49 (by decide) rfl ?_
        refine i_Leq (congrArg (fun z_9 => ([(7, .int z_9), (6, .int (nI nb)), (5, .int (nI na)), (0, .ref (q 48)), (4, .int tol)] : List (Nat × Value))) (show (0 : Int32) = (nI 0) from rfl)) ?_
        exact lb (na + 1) na nb x y 0 r (by omega) hna hnb hsp (Nat.zero_le _) (fun k hk => hz k (by omega))
      · rw [nI_ltI (by omega) (by omega)] at h2
        refine i_aload_n B 3 dX4_pairUp_34 rfl ?_
        refine i_get (v := .ref (q 53)) B flX4_34 0 rfl rfl dX4_pairUp_35 ?_
        refine i_iload B 0 dX4_pairUp_38 rfl ?_
        refine i_iconst (v := 0) B dX4_pairUp_40 (by decide) ?_
        refine i_iastN (f := r) B 8 j (sM E q g a s (va_up (va_up (va_up t 51 x) 52 y) 53 (upd r j 0))) rfl rfl (by omega) (by decide) rfl dX4_pairUp_41 ?_
        refine i_iinc (v := (nI (j + 1))) B 0 [(7, .int (nI (j + 1))), (6, .int (nI nb)), (5, .int (nI na)), (0, .ref (q 48)), (4, .int tol)] dX4_pairUp_42 rfl ((nI_1 _)) (by decide) rfl ?_
        refine i_goto B 27 dX4_pairUp_45 (by decide) ?_
        exact ih_la na nb x y (j + 1) (upd r j 0) (by omega) hna hnb hsp (by omega) (fun k hk => by (by_cases e : k = j; (rw [e]; exact pk_us); (rw [pk_un e]; exact hz k (by omega))))
  refine i_aload_n B 0 dX4_pairUp_0 rfl ?_
  refine i_iload_n B 1 dX4_pairUp_1 rfl ?_
  refine i_iload_n B 2 dX4_pairUp_2 rfl ?_
  refine i_aload_n B 0 dX4_pairUp_3 rfl ?_
  refine i_get (v := .ref (q 51)) B flX4_28 0 rfl rfl dX4_pairUp_4 ?_
  refine c_wiV (cells := 0) (slots := 0) (rest := []) (As := [.int p, .int y1, .ref (q 51)]) B (k_X4_sort51 l E q g a s t nm hm hnm p y1) cal_yX4_sortPlaces iv_yX4_sortPlaces mlX4_45 rfl 0 rfl (by decide) (by decide) rfl (Nat.le_of_ble_eq_true rfl) ([]) ([]) rfl _ rfl dX4_pairUp_7 (fun r _ hr => ?_)
  subst hr
  refine i_world (ws' := (sM E q g a s (va_up t 51 (plc a (t 51) p y1 nm).2))) rfl ?_
  refine i_istore B [(5, .int (nI (plc a (t 51) p y1 nm).1)), (0, .ref (q 48)), (1, .int p), (2, .int y1), (3, .int y2), (4, .int tol)] dX4_pairUp_10 (by decide) rfl ?_
  refine i_aload_n B 1 dX4_pairUp_12 rfl ?_
  refine i_iload_n B 2 dX4_pairUp_13 rfl ?_
  refine i_iload_n B 4 dX4_pairUp_14 rfl ?_
  refine i_aload_n B 1 dX4_pairUp_15 rfl ?_
  refine i_get (v := .ref (q 52)) B flX4_31 0 rfl rfl dX4_pairUp_16 ?_
  refine c_wiV (cells := 0) (slots := 0) (rest := []) (As := [.int p, .int y2, .ref (q 52)]) B (k_X4_sort52 l E q g a s (va_up t 51 (plc a (t 51) p y1 nm).2) nm hm hnm p y2) cal_yX4_sortPlaces iv_yX4_sortPlaces mlX4_45 rfl 0 rfl (by decide) (by decide) rfl (Nat.le_of_ble_eq_true rfl) ([]) ([]) rfl _ rfl dX4_pairUp_19 (fun r _ hr => ?_)
  subst hr
  refine i_world (ws' := (sM E q g a s (va_up (va_up t 51 (plc a (t 51) p y1 nm).2) 52 (plc a (t 52) p y2 nm).2))) rfl ?_
  refine i_istore B [(6, .int (nI (plc a (t 52) p y2 nm).1)), (5, .int (nI (plc a (t 51) p y1 nm).1)), (0, .ref (q 48)), (1, .int p), (2, .int y1), (3, .int y2), (4, .int tol)] dX4_pairUp_22 (by decide) rfl ?_
  refine i_iconst (v := 0) B dX4_pairUp_24 (by decide) ?_
  refine i_istore B [(7, .int 0), (6, .int (nI (plc a (t 52) p y2 nm).1)), (5, .int (nI (plc a (t 51) p y1 nm).1)), (0, .ref (q 48)), (1, .int p), (2, .int y1), (3, .int y2), (4, .int tol)] dX4_pairUp_25 (by decide) rfl ?_
  refine i_locals [0, 1, 2, 3, 7] (L' := [(7, .int 0), (6, .int (nI (plc a (t 52) p y2 nm).1)), (5, .int (nI (plc a (t 51) p y1 nm).1)), (0, .ref (q 48)), (4, .int tol)]) rfl ?_
  refine i_Leq (congrArg (fun z_9 => ([(7, .int z_9), (6, .int (nI (plc a (t 52) p y2 nm).1)), (5, .int (nI (plc a (t 51) p y1 nm).1)), (0, .ref (q 48)), (4, .int tol)] : List (Nat × Value))) (show (0 : Int32) = (nI 0) from rfl)) ?_
  refine i_world (ws' := (sM E q g a s (va_up (va_up (va_up t 51 (plc a (t 51) p y1 nm).2) 52 (plc a (t 52) p y2 nm).2) 53 (t 53)))) (rfl) ?_
  exact la ((plc a (t 52) p y2 nm).1 + 2) (plc a (t 51) p y1 nm).1 (plc a (t 52) p y2 nm).1 (plc a (t 51) p y1 nm).2 (plc a (t 52) p y2 nm).2 0 (t 53) (by omega) (Nat.le_trans (plc_le _ _ _ _ _) hnm) (Nat.le_trans (plc_le _ _ _ _ _) hnm) (wres_of a nm p y1 y2 tol (t 51) (t 52)) (by omega) (fun k hk => absurd hk (by omega))
