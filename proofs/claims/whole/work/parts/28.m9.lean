def lk0 (M : MS) (a b : Int32) : Bool := decide (M.2.2 33 a.toNatClampNeg = 0) && (decide (M.2.2 30 a.toNatClampNeg = M.2.2 30 b.toNatClampNeg) && decide (M.2.2 32 a.toNatClampNeg = M.2.2 32 b.toNatClampNeg))
def lkE (M : MS) (a b : Int32) (k : Nat) : Bool := decide (M.2.2 31 (8 * a + nI k).toNatClampNeg = M.2.2 31 (8 * b + nI k).toNatClampNeg)
def lkB (M : MS) (a b : Int32) (i : Nat) : Bool := lk0 M a b && (List.range i).all (lkE M a b)
theorem lkB_s {M : MS} {a b : Int32} {i : Nat} : lkB M a b (i + 1) = (lkB M a b i && lkE M a b i) := by
  unfold lkB
  rw [List.range_succ, List.all_append, Bool.and_assoc]
  simp
theorem lkB_f {M : MS} {a b : Int32} {i N : Nat} (h : i ≤ N) (hf : lkB M a b i = false) : lkB M a b N = false := by
  induction N with
  | zero => rw [show i = 0 by omega] at hf; exact hf
  | succ N ih =>
    rcases Nat.lt_or_ge N i with h1 | h1
    · rw [show N + 1 = i by omega]; exact hf
    · rw [lkB_s, ih h1]; rfl
def lkN (M : MS) (a b : Int32) : Bool := lkB M a b (M.2.2 32 b.toNatClampNeg).toNatClampNeg
theorem ix20 {a k : Int32} (ha : bt a 0 19) (hk : bt k 0 7) : vp_in (8 * a + k) 160 := by
  obtain ⟨a1, a2⟩ := bt_iff.mp ha
  obtain ⟨k1, k2⟩ := bt_iff.mp hk
  have h1 := ti_mul (a := 8) (b := a) (x := 8) rfl rfl (by omega)
  have h2 := ti_add h1 (b := k) rfl (by omega)
  exact vp_in_iff.mpr ⟨by omega, by omega⟩
theorem b2_bI {b : Bool} : b2 b = bI (b = true) := by cases b <;> rfl
theorem b2_ok {b : Bool} : okBool (some (.int (b2 b))) := by cases b <;> first | exact Or.inl rfl | exact Or.inr rfl
set_option maxRecDepth 100000 in
set_option maxHeartbeats 4000000 in
theorem kX11_isLike (G : GG) (l : Launch) (q : Nat → Nat) (M : MS) (hq : mInj q) (a b : Int32) (ha : bt a 0 19) (hb : bt b 0 19) (hL : bt (M.2.2 32 b.toNatClampNeg) 0 8) : MC G l yX11_isLike cX11_isLike 5 ((Option.some .boolean)) ({ frames := 0, cells := 0, slots := 0, locals := 0 } : Room) [.ref (q 0), .int a, .int b] (mw G q M) (fun v w' => v = some (.int (bI (lkN M a b = true))) ∧ w' = mw G q M) := by
  refine mc_bool (by decide) (Nat.le_of_ble_eq_true rfl) rfl rfl ?_
  intro p e s m args below meth c A H0 Q X hnm RTN
  have X : Cx G p s m args meth c A H0 cX11_isLike 5 RX11 := X
  obtain ⟨N, hN, hNe, _⟩ := bt_nat (hi := 8) hL
  have hkN : lkN M a b = lkB M a b N := by unfold lkN; rw [hNe, nI_clamp (by omega)]
  have L : ∀ (nn i : Nat) (x u : Int32), x = nI i → u = b2 (lkB M a b i) → i ≤ N → N + 1 ≤ i + nn → AW G p l e ({ frames := 0, cells := 0, slots := 0, locals := 0 } : Room) s m args below meth c 5 A H0 Q (mw G q M) 0 0 48 [(4, .int x), (3, .int u), (0, .ref (q 0)), (1, .int a), (2, .int b)] [] := by
    intro nn
    induction nn with
    | zero => intro i x u hx hu h1 h2; exact absurd h2 (by omega)
    | succ nn ih =>
      intro i x u hx hu h1 h2
      subst hx
      subst hu
      refine aw_iload X dX11_isLike_48 rfl ?_
      refine aw_aload_n X dX11_isLike_50 rfl rfl ?_
      refine am_get X 32 (Nat.le_of_ble_eq_true rfl) fl_X11_151 rfl rfl dX11_isLike_51 ?_
      refine aw_iload_n X dX11_isLike_54 rfl rfl ?_
      refine am_ald X 32 _ (M.2.2 32) hq (by decide) rfl rfl rfl (bt_vp (hb) (by decide) (by decide)) dX11_isLike_55 ?_
      refine aw_icmp_ge (tgt := 102) X dX11_isLike_56 rfl (fun c56 => ?_) (fun c56 => ?_)
      · rw [hNe] at c56
        have h9 : i = N := by have := (nI_leI (a := N) (b := i) (by omega) (by omega)).mp c56; omega
        refine aw_iload_n X dX11_isLike_102 rfl rfl ?_
        refine RTN (some (.int _)) _ _ _ _ _ dX11_isLike_103 (b2_ok) (Nat.le_of_ble_eq_true rfl) (Nat.le_of_ble_eq_true rfl) ?_
        exact ⟨by rw [hkN, ← h9, b2_bI], rfl⟩
      · rw [hNe] at c56
        have h9 : i < N := Nat.lt_of_not_le (fun h => c56 ((nI_leI (a := N) (b := i) (by omega) (by omega)).mpr h))
        refine aw_iload_n X dX11_isLike_59 rfl rfl ?_
        refine aw_if_eq (tgt := 102) X dX11_isLike_60 rfl (fun c60 => ?_) (fun c60 => ?_)
        · rw [b2_0] at c60
          refine aw_iload_n X dX11_isLike_102 rfl rfl ?_
          refine RTN (some (.int _)) _ _ _ _ _ dX11_isLike_103 (b2_ok) (Nat.le_of_ble_eq_true rfl) (Nat.le_of_ble_eq_true rfl) ?_
          exact ⟨by rw [hkN, lkB_f h1 c60, c60]; rfl, rfl⟩
        · rw [b2_n0] at c60
          refine aw_aload_n X dX11_isLike_63 rfl rfl ?_
          refine am_get X 31 (Nat.le_of_ble_eq_true rfl) fl_X11_148 rfl rfl dX11_isLike_64 ?_
          refine aw_bipush X dX11_isLike_67 cb_8 ?_
          refine aw_iload_n X dX11_isLike_69 rfl rfl ?_
          refine aw_imul X dX11_isLike_70 ?_
          refine aw_iload X dX11_isLike_71 rfl ?_
          refine aw_iadd X dX11_isLike_73 ?_
          refine am_ald X 31 _ (M.2.2 31) hq (by decide) rfl rfl rfl (ix20 ha ((bt_nI (n := i) (lo := 0) (hi := 7) (by omega)).mpr ⟨by omega, by omega⟩)) dX11_isLike_74 ?_
          refine aw_aload_n X dX11_isLike_75 rfl rfl ?_
          refine am_get X 31 (Nat.le_of_ble_eq_true rfl) fl_X11_148 rfl rfl dX11_isLike_76 ?_
          refine aw_bipush X dX11_isLike_79 cb_8 ?_
          refine aw_iload_n X dX11_isLike_81 rfl rfl ?_
          refine aw_imul X dX11_isLike_82 ?_
          refine aw_iload X dX11_isLike_83 rfl ?_
          refine aw_iadd X dX11_isLike_85 ?_
          refine am_ald X 31 _ (M.2.2 31) hq (by decide) rfl rfl rfl (ix20 hb ((bt_nI (n := i) (lo := 0) (hi := 7) (by omega)).mpr ⟨by omega, by omega⟩)) dX11_isLike_86 ?_
          refine aw_icmp_ne (tgt := 94) X dX11_isLike_87 rfl (fun c87 => ?_) (fun c87 => ?_)
          · refine aw_iconst X dX11_isLike_94 ci_0 ?_
            refine aw_istore_n (lv' := [(3, _), (4, _), (0, _), (1, _), (2, _)]) X dX11_isLike_95 rfl (by decide) rfl ?_
            refine aw_iinc (lv' := [(4, _), (3, _), (0, _), (1, _), (2, _)]) X dX11_isLike_96 rfl (iinc_1 _) (by decide) rfl ?_
            refine aw_goto (tgt := 48) X dX11_isLike_99 rfl ?_
            refine aw_lv [0, 1, 2, 3, 4] rfl ?_
            exact ih (i + 1) _ _ (nI_1 i) (by rw [lkB_s, c60]; unfold lkE; simp [c87, b2]) (by omega) (by omega)
          · refine aw_iconst X dX11_isLike_90 ci_1 ?_
            refine aw_goto (tgt := 95) X dX11_isLike_91 rfl ?_
            refine aw_istore_n (lv' := [(3, _), (4, _), (0, _), (1, _), (2, _)]) X dX11_isLike_95 rfl (by decide) rfl ?_
            refine aw_iinc (lv' := [(4, _), (3, _), (0, _), (1, _), (2, _)]) X dX11_isLike_96 rfl (iinc_1 _) (by decide) rfl ?_
            refine aw_goto (tgt := 48) X dX11_isLike_99 rfl ?_
            refine aw_lv [0, 1, 2, 3, 4] rfl ?_
            exact ih (i + 1) _ _ (nI_1 i) (by rw [lkB_s, c60]; unfold lkE; simp [c87, b2]) (by omega) (by omega)
  refine aw_aload_n X dX11_isLike_0 rfl rfl ?_
  refine am_get X 33 (Nat.le_of_ble_eq_true rfl) fl_X11_67 rfl rfl dX11_isLike_1 ?_
  refine aw_iload_n X dX11_isLike_4 rfl rfl ?_
  refine am_zld X 33 _ (M.2.2 33) hq (by decide) rfl rfl rfl (bt_vp (ha) (by decide) (by decide)) dX11_isLike_5 ?_
  refine aw_if_ne (tgt := 43) X dX11_isLike_6 rfl (fun c6 => ?_) (fun c6 => ?_)
  · refine aw_iconst X dX11_isLike_43 ci_0 ?_
    refine aw_istore_n (lv' := [(3, _), (0, _), (1, _), (2, _)]) X dX11_isLike_44 rfl (by decide) rfl ?_
    refine aw_iconst X dX11_isLike_45 ci_0 ?_
    refine aw_istore (lv' := [(4, _), (3, _), (0, _), (1, _), (2, _)]) X dX11_isLike_46 (by decide) rfl ?_
    refine aw_lv [0, 1, 2, 3, 4] rfl ?_
    exact L (N + 1) 0 _ _ rfl (by simp [lkB, lk0, b2, c6]) (by omega) (by omega)
  · refine aw_aload_n X dX11_isLike_9 rfl rfl ?_
    refine am_get X 30 (Nat.le_of_ble_eq_true rfl) fl_X11_145 rfl rfl dX11_isLike_10 ?_
    refine aw_iload_n X dX11_isLike_13 rfl rfl ?_
    refine am_ald X 30 _ (M.2.2 30) hq (by decide) rfl rfl rfl (bt_vp (ha) (by decide) (by decide)) dX11_isLike_14 ?_
    refine aw_aload_n X dX11_isLike_15 rfl rfl ?_
    refine am_get X 30 (Nat.le_of_ble_eq_true rfl) fl_X11_145 rfl rfl dX11_isLike_16 ?_
    refine aw_iload_n X dX11_isLike_19 rfl rfl ?_
    refine am_ald X 30 _ (M.2.2 30) hq (by decide) rfl rfl rfl (bt_vp (hb) (by decide) (by decide)) dX11_isLike_20 ?_
    refine aw_icmp_ne (tgt := 43) X dX11_isLike_21 rfl (fun c21 => ?_) (fun c21 => ?_)
    · refine aw_iconst X dX11_isLike_43 ci_0 ?_
      refine aw_istore_n (lv' := [(3, _), (0, _), (1, _), (2, _)]) X dX11_isLike_44 rfl (by decide) rfl ?_
      refine aw_iconst X dX11_isLike_45 ci_0 ?_
      refine aw_istore (lv' := [(4, _), (3, _), (0, _), (1, _), (2, _)]) X dX11_isLike_46 (by decide) rfl ?_
      refine aw_lv [0, 1, 2, 3, 4] rfl ?_
      exact L (N + 1) 0 _ _ rfl (by simp [lkB, lk0, b2, c6, c21]) (by omega) (by omega)
    · refine aw_aload_n X dX11_isLike_24 rfl rfl ?_
      refine am_get X 32 (Nat.le_of_ble_eq_true rfl) fl_X11_151 rfl rfl dX11_isLike_25 ?_
      refine aw_iload_n X dX11_isLike_28 rfl rfl ?_
      refine am_ald X 32 _ (M.2.2 32) hq (by decide) rfl rfl rfl (bt_vp (ha) (by decide) (by decide)) dX11_isLike_29 ?_
      refine aw_aload_n X dX11_isLike_30 rfl rfl ?_
      refine am_get X 32 (Nat.le_of_ble_eq_true rfl) fl_X11_151 rfl rfl dX11_isLike_31 ?_
      refine aw_iload_n X dX11_isLike_34 rfl rfl ?_
      refine am_ald X 32 _ (M.2.2 32) hq (by decide) rfl rfl rfl (bt_vp (hb) (by decide) (by decide)) dX11_isLike_35 ?_
      refine aw_icmp_ne (tgt := 43) X dX11_isLike_36 rfl (fun c36 => ?_) (fun c36 => ?_)
      · refine aw_iconst X dX11_isLike_43 ci_0 ?_
        refine aw_istore_n (lv' := [(3, _), (0, _), (1, _), (2, _)]) X dX11_isLike_44 rfl (by decide) rfl ?_
        refine aw_iconst X dX11_isLike_45 ci_0 ?_
        refine aw_istore (lv' := [(4, _), (3, _), (0, _), (1, _), (2, _)]) X dX11_isLike_46 (by decide) rfl ?_
        refine aw_lv [0, 1, 2, 3, 4] rfl ?_
        exact L (N + 1) 0 _ _ rfl (by simp [lkB, lk0, b2, c6, c21, c36]) (by omega) (by omega)
      · refine aw_iconst X dX11_isLike_39 ci_1 ?_
        refine aw_goto (tgt := 44) X dX11_isLike_40 rfl ?_
        refine aw_istore_n (lv' := [(3, _), (0, _), (1, _), (2, _)]) X dX11_isLike_44 rfl (by decide) rfl ?_
        refine aw_iconst X dX11_isLike_45 ci_0 ?_
        refine aw_istore (lv' := [(4, _), (3, _), (0, _), (1, _), (2, _)]) X dX11_isLike_46 (by decide) rfl ?_
        refine aw_lv [0, 1, 2, 3, 4] rfl ?_
        exact L (N + 1) 0 _ _ rfl (by simp [lkB, lk0, b2, c6, c21, c36]) (by omega) (by omega)
