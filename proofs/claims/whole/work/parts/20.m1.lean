set_option maxRecDepth 100000 in
set_option maxHeartbeats 4000000 in
theorem kX11_thrown (G : GG) (l : Launch) (q : Nat → Nat) (M : MS) (hq : mInj q) : MC G l yX11_thrown cX11_thrown 1 ((Option.some .int)) ({ frames := 0, cells := 0, slots := 0, locals := 0 } : Room) [.ref (q 0)] (mw G q M) (fun v w' => v = some (.int (M.1 0)) ∧ w' = mw G q M) := by
  refine mc_int (by decide) (Nat.le_of_ble_eq_true rfl) rfl rfl ?_
  intro p e s m args below meth c A H0 Q X hnm RTN
  have X : Cx G p s m args meth c A H0 cX11_thrown 1 RX11 := X
  refine aw_aload_n X dX11_thrown_0 rfl rfl ?_
  refine am_get X 0 (Nat.le_of_ble_eq_true rfl) fl_X11_1 rfl rfl dX11_thrown_1 ?_
  refine RTN (some (.int _)) _ _ _ _ _ dX11_thrown_4 (⟨_, rfl⟩) (Nat.le_of_ble_eq_true rfl) (Nat.le_of_ble_eq_true rfl) ?_
  exact ⟨rfl, rfl⟩
set_option maxRecDepth 100000 in
set_option maxHeartbeats 4000000 in
theorem kX11_in (G : GG) (l : Launch) (w : WM) (x lo hi : Int64) : MC G l yX11_in cX11_in 6 ((Option.some .boolean)) ({ frames := 0, cells := 0, slots := 0, locals := 0 } : Room) [.long x, .long lo, .long hi] w (fun v w' => v = some (.int (bI (lo ≤ x ∧ x ≤ hi))) ∧ w' = w) := by
  refine mc_bool (by decide) (Nat.le_of_ble_eq_true rfl) rfl rfl ?_
  intro p e s m args below meth c A H0 Q X hnm RTN
  have X : Cx G p s m args meth c A H0 cX11_in 6 RX11 := X
  refine aw_lload_n X dX11_in_0 rfl rfl ?_
  refine aw_lload_n X dX11_in_1 rfl rfl ?_
  refine aw_lcmp X dX11_in_2 ?_
  refine aw_if_lt (tgt := 17) X dX11_in_3 rfl (fun c3 => ?_) (fun c3 => ?_)
  · refine aw_iconst X dX11_in_17 ci_0 ?_
    refine RTN (some (.int _)) _ _ _ _ _ dX11_in_18 (by first | exact Or.inl rfl | exact Or.inr rfl) (Nat.le_of_ble_eq_true rfl) (Nat.le_of_ble_eq_true rfl) ?_
    refine ⟨?_, rfl⟩; rw [lg_cmp_lt] at c3; (try rw [lg_cmp_gt] at c10); (first | (rw [bI_t]; exact ⟨Int64.not_lt.mp c3, Int64.not_lt.mp c10⟩) | (rw [bI_f]; exact fun h => absurd h.1 (Int64.not_le.mpr c3)) | (rw [bI_f]; exact fun h => absurd h.2 (Int64.not_le.mpr c10)))
  · refine aw_lload_n X dX11_in_6 rfl rfl ?_
    refine aw_lload X dX11_in_7 rfl ?_
    refine aw_lcmp X dX11_in_9 ?_
    refine aw_if_gt (tgt := 17) X dX11_in_10 rfl (fun c10 => ?_) (fun c10 => ?_)
    · refine aw_iconst X dX11_in_17 ci_0 ?_
      refine RTN (some (.int _)) _ _ _ _ _ dX11_in_18 (by first | exact Or.inl rfl | exact Or.inr rfl) (Nat.le_of_ble_eq_true rfl) (Nat.le_of_ble_eq_true rfl) ?_
      refine ⟨?_, rfl⟩; rw [lg_cmp_lt] at c3; (try rw [lg_cmp_gt] at c10); (first | (rw [bI_t]; exact ⟨Int64.not_lt.mp c3, Int64.not_lt.mp c10⟩) | (rw [bI_f]; exact fun h => absurd h.1 (Int64.not_le.mpr c3)) | (rw [bI_f]; exact fun h => absurd h.2 (Int64.not_le.mpr c10)))
    · refine aw_iconst X dX11_in_13 ci_1 ?_
      refine aw_goto (tgt := 18) X dX11_in_14 rfl ?_
      refine RTN (some (.int _)) _ _ _ _ _ dX11_in_18 (by first | exact Or.inl rfl | exact Or.inr rfl) (Nat.le_of_ble_eq_true rfl) (Nat.le_of_ble_eq_true rfl) ?_
      refine ⟨?_, rfl⟩; rw [lg_cmp_lt] at c3; (try rw [lg_cmp_gt] at c10); (first | (rw [bI_t]; exact ⟨Int64.not_lt.mp c3, Int64.not_lt.mp c10⟩) | (rw [bI_f]; exact fun h => absurd h.1 (Int64.not_le.mpr c3)) | (rw [bI_f]; exact fun h => absurd h.2 (Int64.not_le.mpr c10)))
set_option maxRecDepth 100000 in
set_option maxHeartbeats 4000000 in
theorem kX11_inI (G : GG) (l : Launch) (w : WM) (x : Int32) (a b : Int64) (lo hi : Int) (ha : a.toInt = lo) (hb : b.toInt = hi) : MC G l yX11_in cX11_in 6 ((Option.some .boolean)) ({ frames := 0, cells := 0, slots := 0, locals := 0 } : Room) [.long x.toInt64, .long a, .long b] w (fun v w' => v = some (.int (bI (bt x lo hi))) ∧ w' = w) := by
  refine mc_bool (by decide) (Nat.le_of_ble_eq_true rfl) rfl rfl ?_
  intro p e s m args below meth c A H0 Q X hnm RTN
  have X : Cx G p s m args meth c A H0 cX11_in 6 RX11 := X
  refine aw_lload_n X dX11_in_0 rfl rfl ?_
  refine aw_lload_n X dX11_in_1 rfl rfl ?_
  refine aw_lcmp X dX11_in_2 ?_
  refine aw_if_lt (tgt := 17) X dX11_in_3 rfl (fun c3 => ?_) (fun c3 => ?_)
  · refine aw_iconst X dX11_in_17 ci_0 ?_
    refine RTN (some (.int _)) _ _ _ _ _ dX11_in_18 (by first | exact Or.inl rfl | exact Or.inr rfl) (Nat.le_of_ble_eq_true rfl) (Nat.le_of_ble_eq_true rfl) ?_
    refine ⟨?_, rfl⟩; rw [lg_cmp_lt] at c3; (try rw [lg_cmp_gt] at c10); (first | (rw [bI_t]; exact (bt_in ha hb).mp ⟨Int64.not_lt.mp c3, Int64.not_lt.mp c10⟩) | (rw [bI_f]; exact fun h => absurd ((bt_in ha hb).mpr h).1 (Int64.not_le.mpr c3)) | (rw [bI_f]; exact fun h => absurd ((bt_in ha hb).mpr h).2 (Int64.not_le.mpr c10)))
  · refine aw_lload_n X dX11_in_6 rfl rfl ?_
    refine aw_lload X dX11_in_7 rfl ?_
    refine aw_lcmp X dX11_in_9 ?_
    refine aw_if_gt (tgt := 17) X dX11_in_10 rfl (fun c10 => ?_) (fun c10 => ?_)
    · refine aw_iconst X dX11_in_17 ci_0 ?_
      refine RTN (some (.int _)) _ _ _ _ _ dX11_in_18 (by first | exact Or.inl rfl | exact Or.inr rfl) (Nat.le_of_ble_eq_true rfl) (Nat.le_of_ble_eq_true rfl) ?_
      refine ⟨?_, rfl⟩; rw [lg_cmp_lt] at c3; (try rw [lg_cmp_gt] at c10); (first | (rw [bI_t]; exact (bt_in ha hb).mp ⟨Int64.not_lt.mp c3, Int64.not_lt.mp c10⟩) | (rw [bI_f]; exact fun h => absurd ((bt_in ha hb).mpr h).1 (Int64.not_le.mpr c3)) | (rw [bI_f]; exact fun h => absurd ((bt_in ha hb).mpr h).2 (Int64.not_le.mpr c10)))
    · refine aw_iconst X dX11_in_13 ci_1 ?_
      refine aw_goto (tgt := 18) X dX11_in_14 rfl ?_
      refine RTN (some (.int _)) _ _ _ _ _ dX11_in_18 (by first | exact Or.inl rfl | exact Or.inr rfl) (Nat.le_of_ble_eq_true rfl) (Nat.le_of_ble_eq_true rfl) ?_
      refine ⟨?_, rfl⟩; rw [lg_cmp_lt] at c3; (try rw [lg_cmp_gt] at c10); (first | (rw [bI_t]; exact (bt_in ha hb).mp ⟨Int64.not_lt.mp c3, Int64.not_lt.mp c10⟩) | (rw [bI_f]; exact fun h => absurd ((bt_in ha hb).mpr h).1 (Int64.not_le.mpr c3)) | (rw [bI_f]; exact fun h => absurd ((bt_in ha hb).mpr h).2 (Int64.not_le.mpr c10)))
set_option maxRecDepth 100000 in
set_option maxHeartbeats 4000000 in
theorem kX11_fails (G : GG) (l : Launch) (q : Nat → Nat) (M : MS) (hq : mInj q) (f : Int32) : MC G l yX11_fails cX11_fails 2 ((Option.some .int)) ({ frames := 0, cells := 0, slots := 0, locals := 0 } : Room) [.ref (q 0), .int f] (mw G q M) (fun v w' => v = some (.int ((-10) - f)) ∧ w' = mw G q (sI M 5 f)) := by
  refine mc_int (by decide) (Nat.le_of_ble_eq_true rfl) rfl rfl ?_
  intro p e s m args below meth c A H0 Q X hnm RTN
  have X : Cx G p s m args meth c A H0 cX11_fails 2 RX11 := X
  refine aw_aload_n X dX11_fails_0 rfl rfl ?_
  refine aw_iload_n X dX11_fails_1 rfl rfl ?_
  refine am_put X 5 (M' := sI _ 5 _) (Nat.le_of_ble_eq_true rfl) fl_X11_7 rfl rfl (rfl) (rfl) (mf_5 _ _ _) rfl dX11_fails_2 ?_
  refine aw_bipush X dX11_fails_5 cb_m10 ?_
  refine aw_iload_n X dX11_fails_7 rfl rfl ?_
  refine aw_isub X dX11_fails_8 ?_
  refine RTN (some (.int _)) _ _ _ _ _ dX11_fails_9 (⟨_, rfl⟩) (Nat.le_of_ble_eq_true rfl) (Nat.le_of_ble_eq_true rfl) ?_
  exact ⟨rfl, rfl⟩
set_option maxRecDepth 100000 in
set_option maxHeartbeats 4000000 in
theorem kX11_isRow (G : GG) (l : Launch) (w : WM) (r : Int32) : MC G l yX11_isRow cX11_isRow 1 ((Option.some .boolean)) ({ frames := 1, cells := 0, slots := 0, locals := 25 } : Room) [.int r] w (fun v w' => v = some (.int (bI (bt r 0 7))) ∧ w' = w) := by
  refine mc_bool (by decide) (Nat.le_of_ble_eq_true rfl) rfl rfl ?_
  intro p e s m args below meth c A H0 Q X hnm RTN
  have X : Cx G p s m args meth c A H0 cX11_isRow 1 RX11 := X
  refine aw_iload_n X dX11_isRow_0 rfl rfl ?_
  refine aw_i2l X dX11_isRow_1 ?_
  refine aw_lconst X dX11_isRow_2 cl_0 ?_
  refine aw_ldc2 X kl_X11_10 dX11_isRow_3 ?_
  refine aw_callS X (kX11_inI _ _ _ _ _ _ 0 7 rfl rfl) okm_X11_in ml_X11_12 st_X11_in rfl rfl (Nat.le_of_ble_eq_true rfl) ⟨Nat.le_of_ble_eq_true rfl, Nat.le_of_ble_eq_true rfl, Nat.le_of_ble_eq_true rfl, Nat.le_of_ble_eq_true rfl⟩ dX11_isRow_6 (fun v w2 hp => ?_)
  obtain ⟨rfl, rfl⟩ := hp
  refine RTN (some (.int _)) _ _ _ _ _ dX11_isRow_9 (bI_ok) (Nat.le_of_ble_eq_true rfl) (Nat.le_of_ble_eq_true rfl) ?_
  exact ⟨rfl, rfl⟩
def mo_lend (M : MS) (r f : Int32) : Int32 × MS :=
  if bt r 0 7 ∧ bt f 0 7 then (1, sF (sI M 0 0) 1 r.toNatClampNeg (M.2.2 1 f.toNatClampNeg)) else (-2, sI M 0 0)
set_option maxRecDepth 100000 in
set_option maxHeartbeats 4000000 in
theorem kX11_lend (G : GG) (l : Launch) (q : Nat → Nat) (M : MS) (hq : mInj q) (r f : Int32) : MC G l yX11_lend cX11_lend 3 ((Option.some .int)) ({ frames := 2, cells := 0, slots := 0, locals := 45 } : Room) [.ref (q 0), .int r, .int f] (mw G q M) (fun v w' => v = some (.int (mo_lend M r f).1) ∧ w' = mw G q (mo_lend M r f).2) := by
  refine mc_int (by decide) (Nat.le_of_ble_eq_true rfl) rfl rfl ?_
  intro p e s m args below meth c A H0 Q X hnm RTN
  have X : Cx G p s m args meth c A H0 cX11_lend 3 RX11 := X
  refine aw_aload_n X dX11_lend_0 rfl rfl ?_
  refine aw_iconst X dX11_lend_1 ci_0 ?_
  refine am_put X 0 (M' := sI _ 0 _) (Nat.le_of_ble_eq_true rfl) fl_X11_1 rfl rfl (rfl) (rfl) (mf_0 _ _ _) rfl dX11_lend_2 ?_
  refine aw_iload_n X dX11_lend_5 rfl rfl ?_
  refine aw_callS X (kX11_isRow _ _ _ _) okm_X11_isRow ml_X11_29 st_X11_isRow rfl rfl (Nat.le_of_ble_eq_true rfl) ⟨Nat.le_of_ble_eq_true rfl, Nat.le_of_ble_eq_true rfl, Nat.le_of_ble_eq_true rfl, Nat.le_of_ble_eq_true rfl⟩ dX11_lend_6 (fun v w2 hp => ?_)
  obtain ⟨rfl, rfl⟩ := hp
  refine aw_if_eq (tgt := 19) X dX11_lend_9 rfl (fun c9 => ?_) (fun c9 => ?_)
  · rw [bI_0] at c9
    refine aw_bipush X dX11_lend_19 cb_m2 ?_
    refine RTN (some (.int _)) _ _ _ _ _ dX11_lend_21 (⟨_, rfl⟩) (Nat.le_of_ble_eq_true rfl) (Nat.le_of_ble_eq_true rfl) ?_
    constructor <;> simp only [mo_lend, c9, if_true, if_false, not_true_eq_false, not_false_eq_true, and_self, true_and, and_true, false_and, and_false, or_true, true_or, or_false, false_or, reduceCtorEq, ne_eq]
  · rw [bI_n0] at c9
    refine aw_iload_n X dX11_lend_12 rfl rfl ?_
    refine aw_callS X (kX11_isRow _ _ _ _) okm_X11_isRow ml_X11_29 st_X11_isRow rfl rfl (Nat.le_of_ble_eq_true rfl) ⟨Nat.le_of_ble_eq_true rfl, Nat.le_of_ble_eq_true rfl, Nat.le_of_ble_eq_true rfl, Nat.le_of_ble_eq_true rfl⟩ dX11_lend_13 (fun v w2 hp => ?_)
    obtain ⟨rfl, rfl⟩ := hp
    refine aw_if_ne (tgt := 22) X dX11_lend_16 rfl (fun c16 => ?_) (fun c16 => ?_)
    · rw [bI_n0] at c16
      refine aw_aload_n X dX11_lend_22 rfl rfl ?_
      refine am_get X 1 (Nat.le_of_ble_eq_true rfl) fl_X11_16 rfl rfl dX11_lend_23 ?_
      refine aw_iload_n X dX11_lend_26 rfl rfl ?_
      refine aw_aload_n X dX11_lend_27 rfl rfl ?_
      refine am_get X 1 (Nat.le_of_ble_eq_true rfl) fl_X11_16 rfl rfl dX11_lend_28 ?_
      refine aw_iload_n X dX11_lend_31 rfl rfl ?_
      refine am_ald X 1 _ hq (by decide) rfl rfl (bt_vp c16 (by decide) (by decide)) dX11_lend_32 ?_
      refine am_ast X 1 _ hq (by decide) rfl rfl (bt_vp c9 (by decide) (by decide)) dX11_lend_33 ?_
      refine aw_iconst X dX11_lend_34 ci_1 ?_
      refine RTN (some (.int _)) _ _ _ _ _ dX11_lend_35 (⟨_, rfl⟩) (Nat.le_of_ble_eq_true rfl) (Nat.le_of_ble_eq_true rfl) ?_
      constructor <;> simp only [mo_lend, c9, c16, if_true, if_false, not_true_eq_false, not_false_eq_true, and_self, true_and, and_true, false_and, and_false, or_true, true_or, or_false, false_or, reduceCtorEq, ne_eq]
    · rw [bI_0] at c16
      refine aw_bipush X dX11_lend_19 cb_m2 ?_
      refine RTN (some (.int _)) _ _ _ _ _ dX11_lend_21 (⟨_, rfl⟩) (Nat.le_of_ble_eq_true rfl) (Nat.le_of_ble_eq_true rfl) ?_
      constructor <;> simp only [mo_lend, c9, c16, if_true, if_false, not_true_eq_false, not_false_eq_true, and_self, true_and, and_true, false_and, and_false, or_true, true_or, or_false, false_or, reduceCtorEq, ne_eq]
