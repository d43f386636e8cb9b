set_option maxRecDepth 100000 in
set_option maxHeartbeats 4000000 in
theorem kX11_thrown (G : GG) (l : Launch) (q : Nat → Nat) (M : MS) (hq : mInj q) : MC G l yX11_thrown cX11_thrown 1 ((Option.some .int)) ({ frames := 0, cells := 0, slots := 0, locals := 0 } : Room) [.ref (q 0)] (mw G q M) (fun v w' => v = some (.int (M.1 0)) ∧ w' = mw G q M) := by
  refine mc_int (by decide) (Nat.le_of_ble_eq_true rfl) rfl rfl ?_
  intro p e s m args below meth c A H0 Q X hnm RTN
  have X : Cx G p s m args meth c A H0 cX11_thrown 1 RX11 := X
  refine aw_aload_n X dX11_thrown_0 rfl rfl ?_
  refine am_get X 0 (Nat.le_of_ble_eq_true rfl) fl_X11_1 rfl rfl dX11_thrown_1 ?_
  refine RTN (some (.int _)) _ _ _ _ _ dX11_thrown_4 (⟨_, rfl⟩) (Nat.le_of_ble_eq_true rfl) (Nat.le_of_ble_eq_true rfl) ?_
  exact ⟨rfl, rfl⟩
set_option maxRecDepth 100000 in
set_option maxHeartbeats 4000000 in
theorem kX11_in (G : GG) (l : Launch) (w : WM) (x lo hi : Int64) : MC G l yX11_in cX11_in 6 ((Option.some .boolean)) ({ frames := 0, cells := 0, slots := 0, locals := 0 } : Room) [.long x, .long lo, .long hi] w (fun v w' => v = some (.int (bI (lo ≤ x ∧ x ≤ hi))) ∧ w' = w) := by
  refine mc_bool (by decide) (Nat.le_of_ble_eq_true rfl) rfl rfl ?_
  intro p e s m args below meth c A H0 Q X hnm RTN
  have X : Cx G p s m args meth c A H0 cX11_in 6 RX11 := X
  refine aw_lload_n X dX11_in_0 rfl rfl ?_
  refine aw_lload_n X dX11_in_1 rfl rfl ?_
  refine aw_lcmp X dX11_in_2 ?_
  refine aw_if_lt (tgt := 17) X dX11_in_3 rfl (fun c3 => ?_) (fun c3 => ?_)
  · refine aw_iconst X dX11_in_17 ci_0 ?_
    refine RTN (some (.int _)) _ _ _ _ _ dX11_in_18 (by first | exact Or.inl rfl | exact Or.inr rfl) (Nat.le_of_ble_eq_true rfl) (Nat.le_of_ble_eq_true rfl) ?_
    refine ⟨?_, rfl⟩; rw [lg_cmp_lt] at c3; (try rw [lg_cmp_gt] at c10); (first | (rw [bI_t]; exact ⟨Int64.not_lt.mp c3, Int64.not_lt.mp c10⟩) | (rw [bI_f]; exact fun h => absurd h.1 (Int64.not_le.mpr c3)) | (rw [bI_f]; exact fun h => absurd h.2 (Int64.not_le.mpr c10)))
  · refine aw_lload_n X dX11_in_6 rfl rfl ?_
    refine aw_lload X dX11_in_7 rfl ?_
    refine aw_lcmp X dX11_in_9 ?_
    refine aw_if_gt (tgt := 17) X dX11_in_10 rfl (fun c10 => ?_) (fun c10 => ?_)
    · refine aw_iconst X dX11_in_17 ci_0 ?_
      refine RTN (some (.int _)) _ _ _ _ _ dX11_in_18 (by first | exact Or.inl rfl | exact Or.inr rfl) (Nat.le_of_ble_eq_true rfl) (Nat.le_of_ble_eq_true rfl) ?_
      refine ⟨?_, rfl⟩; rw [lg_cmp_lt] at c3; (try rw [lg_cmp_gt] at c10); (first | (rw [bI_t]; exact ⟨Int64.not_lt.mp c3, Int64.not_lt.mp c10⟩) | (rw [bI_f]; exact fun h => absurd h.1 (Int64.not_le.mpr c3)) | (rw [bI_f]; exact fun h => absurd h.2 (Int64.not_le.mpr c10)))
    · refine aw_iconst X dX11_in_13 ci_1 ?_
      refine aw_goto (tgt := 18) X dX11_in_14 rfl ?_
      refine RTN (some (.int _)) _ _ _ _ _ dX11_in_18 (by first | exact Or.inl rfl | exact Or.inr rfl) (Nat.le_of_ble_eq_true rfl) (Nat.le_of_ble_eq_true rfl) ?_
      refine ⟨?_, rfl⟩; rw [lg_cmp_lt] at c3; (try rw [lg_cmp_gt] at c10); (first | (rw [bI_t]; exact ⟨Int64.not_lt.mp c3, Int64.not_lt.mp c10⟩) | (rw [bI_f]; exact fun h => absurd h.1 (Int64.not_le.mpr c3)) | (rw [bI_f]; exact fun h => absurd h.2 (Int64.not_le.mpr c10)))
set_option maxRecDepth 100000 in
set_option maxHeartbeats 4000000 in
theorem kX11_fails (G : GG) (l : Launch) (q : Nat → Nat) (M : MS) (hq : mInj q) (f : Int32) : MC G l yX11_fails cX11_fails 2 ((Option.some .int)) ({ frames := 0, cells := 0, slots := 0, locals := 0 } : Room) [.ref (q 0), .int f] (mw G q M) (fun v w' => v = some (.int ((-10) - f)) ∧ w' = mw G q (sI M 5 f)) := by
  refine mc_int (by decide) (Nat.le_of_ble_eq_true rfl) rfl rfl ?_
  intro p e s m args below meth c A H0 Q X hnm RTN
  have X : Cx G p s m args meth c A H0 cX11_fails 2 RX11 := X
  refine aw_aload_n X dX11_fails_0 rfl rfl ?_
  refine aw_iload_n X dX11_fails_1 rfl rfl ?_
  refine am_put X 5 (M' := sI _ 5 _) (Nat.le_of_ble_eq_true rfl) fl_X11_7 rfl rfl (rfl) (rfl) (mf_5 _ _ _) rfl dX11_fails_2 ?_
  refine aw_bipush X dX11_fails_5 cb_m10 ?_
  refine aw_iload_n X dX11_fails_7 rfl rfl ?_
  refine aw_isub X dX11_fails_8 ?_
  refine RTN (some (.int _)) _ _ _ _ _ dX11_fails_9 (⟨_, rfl⟩) (Nat.le_of_ble_eq_true rfl) (Nat.le_of_ble_eq_true rfl) ?_
  exact ⟨rfl, rfl⟩
