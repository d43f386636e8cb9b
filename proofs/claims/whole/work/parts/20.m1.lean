set_option maxRecDepth 100000 in
set_option maxHeartbeats 4000000 in
theorem kX11_thrown (G : GG) (l : Launch) (q : Nat → Nat) (M : MS) (hq : mInj q) : MC G l yX11_thrown cX11_thrown 1 ((Option.some .int)) ({ frames := 0, cells := 0, slots := 0, locals := 0 } : Room) [.ref (q 0)] (mw G q M) (fun v w' => v = some (.int (M.1 0)) ∧ w' = mw G q M) := by
  refine mc_int (by decide) (Nat.le_of_ble_eq_true rfl) rfl rfl ?_
  intro p e s m args below meth c A H0 Q X hnm RTN
  have X : Cx G p s m args meth c A H0 cX11_thrown 1 RX11 := X
  refine aw_aload_n X dX11_thrown_0 rfl rfl ?_
  refine am_get X 0 (v := .int (M.1 0)) (Nat.le_of_ble_eq_true rfl) fl_X11_1 rfl rfl dX11_thrown_1 ?_
  refine RTN (some (.int _)) _ _ _ _ _ dX11_thrown_4 (⟨_, rfl⟩) (Nat.le_of_ble_eq_true rfl) (Nat.le_of_ble_eq_true rfl) ?_
  exact ⟨rfl, rfl⟩
set_option maxRecDepth 100000 in
set_option maxHeartbeats 4000000 in
theorem kX11_in (G : GG) (l : Launch) (w : WM) (x lo hi : Int64) : MC G l yX11_in cX11_in 6 ((Option.some .boolean)) ({ frames := 0, cells := 0, slots := 0, locals := 0 } : Room) [.long x, .long lo, .long hi] w (fun v w' => v = some (.int (bI (lo ≤ x ∧ x ≤ hi))) ∧ w' = w) := by
  refine mc_bool (by decide) (Nat.le_of_ble_eq_true rfl) rfl rfl ?_
  intro p e s m args below meth c A H0 Q X hnm RTN
  have X : Cx G p s m args meth c A H0 cX11_in 6 RX11 := X
  refine aw_lload_n X dX11_in_0 rfl rfl ?_
  refine aw_lload_n X dX11_in_1 rfl rfl ?_
  refine aw_lcmp X dX11_in_2 ?_
  refine aw_if_lt (tgt := 17) X dX11_in_3 rfl (fun c3 => ?_) (fun c3 => ?_)
  · refine aw_iconst X dX11_in_17 ci_0 ?_
    refine RTN (some (.int _)) _ _ _ _ _ dX11_in_18 (by first | exact Or.inl rfl | exact Or.inr rfl) (Nat.le_of_ble_eq_true rfl) (Nat.le_of_ble_eq_true rfl) ?_
    refine ⟨?_, rfl⟩; rw [lg_cmp_lt] at c3; (try rw [lg_cmp_gt] at c10); (first | (rw [bI_t]; exact ⟨Int64.not_lt.mp c3, Int64.not_lt.mp c10⟩) | (rw [bI_f]; exact fun h => absurd h.1 (Int64.not_le.mpr c3)) | (rw [bI_f]; exact fun h => absurd h.2 (Int64.not_le.mpr c10)))
  · refine aw_lload_n X dX11_in_6 rfl rfl ?_
    refine aw_lload X dX11_in_7 rfl ?_
    refine aw_lcmp X dX11_in_9 ?_
    refine aw_if_gt (tgt := 17) X dX11_in_10 rfl (fun c10 => ?_) (fun c10 => ?_)
    · refine aw_iconst X dX11_in_17 ci_0 ?_
      refine RTN (some (.int _)) _ _ _ _ _ dX11_in_18 (by first | exact Or.inl rfl | exact Or.inr rfl) (Nat.le_of_ble_eq_true rfl) (Nat.le_of_ble_eq_true rfl) ?_
      refine ⟨?_, rfl⟩; rw [lg_cmp_lt] at c3; (try rw [lg_cmp_gt] at c10); (first | (rw [bI_t]; exact ⟨Int64.not_lt.mp c3, Int64.not_lt.mp c10⟩) | (rw [bI_f]; exact fun h => absurd h.1 (Int64.not_le.mpr c3)) | (rw [bI_f]; exact fun h => absurd h.2 (Int64.not_le.mpr c10)))
    · refine aw_iconst X dX11_in_13 ci_1 ?_
      refine aw_goto (tgt := 18) X dX11_in_14 rfl ?_
      refine RTN (some (.int _)) _ _ _ _ _ dX11_in_18 (by first | exact Or.inl rfl | exact Or.inr rfl) (Nat.le_of_ble_eq_true rfl) (Nat.le_of_ble_eq_true rfl) ?_
      refine ⟨?_, rfl⟩; rw [lg_cmp_lt] at c3; (try rw [lg_cmp_gt] at c10); (first | (rw [bI_t]; exact ⟨Int64.not_lt.mp c3, Int64.not_lt.mp c10⟩) | (rw [bI_f]; exact fun h => absurd h.1 (Int64.not_le.mpr c3)) | (rw [bI_f]; exact fun h => absurd h.2 (Int64.not_le.mpr c10)))
set_option maxRecDepth 100000 in
set_option maxHeartbeats 4000000 in
theorem kX11_inI (G : GG) (l : Launch) (w : WM) (x : Int32) (a b : Int64) (lo hi : Int) (ha : a.toInt = lo) (hb : b.toInt = hi) : MC G l yX11_in cX11_in 6 ((Option.some .boolean)) ({ frames := 0, cells := 0, slots := 0, locals := 0 } : Room) [.long x.toInt64, .long a, .long b] w (fun v w' => v = some (.int (bI (bt x lo hi = true))) ∧ w' = w) := by
  refine mc_bool (by decide) (Nat.le_of_ble_eq_true rfl) rfl rfl ?_
  intro p e s m args below meth c A H0 Q X hnm RTN
  have X : Cx G p s m args meth c A H0 cX11_in 6 RX11 := X
  refine aw_lload_n X dX11_in_0 rfl rfl ?_
  refine aw_lload_n X dX11_in_1 rfl rfl ?_
  refine aw_lcmp X dX11_in_2 ?_
  refine aw_if_lt (tgt := 17) X dX11_in_3 rfl (fun c3 => ?_) (fun c3 => ?_)
  · refine aw_iconst X dX11_in_17 ci_0 ?_
    refine RTN (some (.int _)) _ _ _ _ _ dX11_in_18 (by first | exact Or.inl rfl | exact Or.inr rfl) (Nat.le_of_ble_eq_true rfl) (Nat.le_of_ble_eq_true rfl) ?_
    refine ⟨?_, rfl⟩; rw [lg_cmp_lt] at c3; (try rw [lg_cmp_gt] at c10); (first | (rw [bI_t]; exact (bt_in ha hb).mp ⟨Int64.not_lt.mp c3, Int64.not_lt.mp c10⟩) | (rw [bI_f]; exact fun h => absurd ((bt_in ha hb).mpr h).1 (Int64.not_le.mpr c3)) | (rw [bI_f]; exact fun h => absurd ((bt_in ha hb).mpr h).2 (Int64.not_le.mpr c10)))
  · refine aw_lload_n X dX11_in_6 rfl rfl ?_
    refine aw_lload X dX11_in_7 rfl ?_
    refine aw_lcmp X dX11_in_9 ?_
    refine aw_if_gt (tgt := 17) X dX11_in_10 rfl (fun c10 => ?_) (fun c10 => ?_)
    · refine aw_iconst X dX11_in_17 ci_0 ?_
      refine RTN (some (.int _)) _ _ _ _ _ dX11_in_18 (by first | exact Or.inl rfl | exact Or.inr rfl) (Nat.le_of_ble_eq_true rfl) (Nat.le_of_ble_eq_true rfl) ?_
      refine ⟨?_, rfl⟩; rw [lg_cmp_lt] at c3; (try rw [lg_cmp_gt] at c10); (first | (rw [bI_t]; exact (bt_in ha hb).mp ⟨Int64.not_lt.mp c3, Int64.not_lt.mp c10⟩) | (rw [bI_f]; exact fun h => absurd ((bt_in ha hb).mpr h).1 (Int64.not_le.mpr c3)) | (rw [bI_f]; exact fun h => absurd ((bt_in ha hb).mpr h).2 (Int64.not_le.mpr c10)))
    · refine aw_iconst X dX11_in_13 ci_1 ?_
      refine aw_goto (tgt := 18) X dX11_in_14 rfl ?_
      refine RTN (some (.int _)) _ _ _ _ _ dX11_in_18 (by first | exact Or.inl rfl | exact Or.inr rfl) (Nat.le_of_ble_eq_true rfl) (Nat.le_of_ble_eq_true rfl) ?_
      refine ⟨?_, rfl⟩; rw [lg_cmp_lt] at c3; (try rw [lg_cmp_gt] at c10); (first | (rw [bI_t]; exact (bt_in ha hb).mp ⟨Int64.not_lt.mp c3, Int64.not_lt.mp c10⟩) | (rw [bI_f]; exact fun h => absurd ((bt_in ha hb).mpr h).1 (Int64.not_le.mpr c3)) | (rw [bI_f]; exact fun h => absurd ((bt_in ha hb).mpr h).2 (Int64.not_le.mpr c10)))
set_option maxRecDepth 100000 in
set_option maxHeartbeats 4000000 in
theorem kX11_fails (G : GG) (l : Launch) (q : Nat → Nat) (M : MS) (hq : mInj q) (f : Int32) : MC G l yX11_fails cX11_fails 2 ((Option.some .int)) ({ frames := 0, cells := 0, slots := 0, locals := 0 } : Room) [.ref (q 0), .int f] (mw G q M) (fun v w' => v = some (.int ((-10) - f)) ∧ w' = mw G q (sI M 5 f)) := by
  refine mc_int (by decide) (Nat.le_of_ble_eq_true rfl) rfl rfl ?_
  intro p e s m args below meth c A H0 Q X hnm RTN
  have X : Cx G p s m args meth c A H0 cX11_fails 2 RX11 := X
  refine aw_aload_n X dX11_fails_0 rfl rfl ?_
  refine aw_iload_n X dX11_fails_1 rfl rfl ?_
  refine am_put X 5 (M' := sI _ 5 _) (Nat.le_of_ble_eq_true rfl) fl_X11_7 rfl rfl (rfl) (rfl) (mf_5 _ _ _) rfl dX11_fails_2 ?_
  refine aw_bipush X dX11_fails_5 cb_m10 ?_
  refine aw_iload_n X dX11_fails_7 rfl rfl ?_
  refine aw_isub X dX11_fails_8 ?_
  refine RTN (some (.int _)) _ _ _ _ _ dX11_fails_9 (⟨_, rfl⟩) (Nat.le_of_ble_eq_true rfl) (Nat.le_of_ble_eq_true rfl) ?_
  exact ⟨rfl, rfl⟩
set_option maxRecDepth 100000 in
set_option maxHeartbeats 4000000 in
theorem kX11_isRow (G : GG) (l : Launch) (w : WM) (r : Int32) : MC G l yX11_isRow cX11_isRow 1 ((Option.some .boolean)) ({ frames := 1, cells := 0, slots := 0, locals := 25 } : Room) [.int r] w (fun v w' => v = some (.int (bI (bt r 0 7 = true))) ∧ w' = w) := by
  refine mc_bool (by decide) (Nat.le_of_ble_eq_true rfl) rfl rfl ?_
  intro p e s m args below meth c A H0 Q X hnm RTN
  have X : Cx G p s m args meth c A H0 cX11_isRow 1 RX11 := X
  refine aw_iload_n X dX11_isRow_0 rfl rfl ?_
  refine aw_i2l X dX11_isRow_1 ?_
  refine aw_lconst X dX11_isRow_2 cl_0 ?_
  refine aw_ldc2 X kl_X11_10 dX11_isRow_3 ?_
  refine aw_callS X (kX11_inI _ _ _ _ _ _ 0 7 rfl rfl) okm_X11_in ml_X11_12 st_X11_in rfl rfl (Nat.le_of_ble_eq_true rfl) ⟨Nat.le_of_ble_eq_true rfl, Nat.le_of_ble_eq_true rfl, Nat.le_of_ble_eq_true rfl, Nat.le_of_ble_eq_true rfl⟩ dX11_isRow_6 (fun v w2 hp => ?_)
  obtain ⟨rfl, rfl⟩ := hp
  refine RTN (some (.int _)) _ _ _ _ _ dX11_isRow_9 (bI_ok) (Nat.le_of_ble_eq_true rfl) (Nat.le_of_ble_eq_true rfl) ?_
  exact ⟨rfl, rfl⟩
def mo_lend (M : MS) (r f : Int32) : Int32 × MS :=
  if bt r 0 7 ∧ bt f 0 7 then (1, sF (sI M 0 0) 1 r.toNatClampNeg (M.2.2 1 f.toNatClampNeg)) else (-2, sI M 0 0)
set_option maxRecDepth 100000 in
set_option maxHeartbeats 4000000 in
theorem kX11_lend (G : GG) (l : Launch) (q : Nat → Nat) (M : MS) (hq : mInj q) (r f : Int32) : MC G l yX11_lend cX11_lend 3 ((Option.some .int)) ({ frames := 2, cells := 0, slots := 0, locals := 45 } : Room) [.ref (q 0), .int r, .int f] (mw G q M) (fun v w' => v = some (.int (mo_lend M r f).1) ∧ w' = mw G q (mo_lend M r f).2) := by
  refine mc_int (by decide) (Nat.le_of_ble_eq_true rfl) rfl rfl ?_
  intro p e s m args below meth c A H0 Q X hnm RTN
  have X : Cx G p s m args meth c A H0 cX11_lend 3 RX11 := X
  refine aw_aload_n X dX11_lend_0 rfl rfl ?_
  refine aw_iconst X dX11_lend_1 ci_0 ?_
  refine am_put X 0 (M' := sI _ 0 _) (Nat.le_of_ble_eq_true rfl) fl_X11_1 rfl rfl (rfl) (rfl) (mf_0 _ _ _) rfl dX11_lend_2 ?_
  refine aw_iload_n X dX11_lend_5 rfl rfl ?_
  refine aw_callS X (kX11_isRow _ _ _ _) okm_X11_isRow ml_X11_29 st_X11_isRow rfl rfl (Nat.le_of_ble_eq_true rfl) ⟨Nat.le_of_ble_eq_true rfl, Nat.le_of_ble_eq_true rfl, Nat.le_of_ble_eq_true rfl, Nat.le_of_ble_eq_true rfl⟩ dX11_lend_6 (fun v w2 hp => ?_)
  obtain ⟨rfl, rfl⟩ := hp
  refine aw_if_eq (tgt := 19) X dX11_lend_9 rfl (fun c9 => ?_) (fun c9 => ?_)
  · rw [bI_0] at c9
    refine aw_bipush X dX11_lend_19 cb_m2 ?_
    refine RTN (some (.int _)) _ _ _ _ _ dX11_lend_21 (⟨_, rfl⟩) (Nat.le_of_ble_eq_true rfl) (Nat.le_of_ble_eq_true rfl) ?_
    first | (constructor <;> ((try simp only [mo_lend, c9, if_true, if_false, not_true_eq_false, not_false_eq_true, and_self, true_and, and_true, false_and, and_false, or_true, true_or, or_false, false_or, reduceCtorEq, ne_eq]); (try rfl); done)) | (clear RTN X; constructor <;> ((try simp_all only [mo_lend, if_true, if_false, not_true_eq_false, not_false_eq_true, and_self, true_and, and_true, false_and, and_false, or_true, true_or, or_false, false_or, reduceCtorEq, ne_eq]); (try rfl); done))
  · rw [bI_n0] at c9
    refine aw_iload_n X dX11_lend_12 rfl rfl ?_
    refine aw_callS X (kX11_isRow _ _ _ _) okm_X11_isRow ml_X11_29 st_X11_isRow rfl rfl (Nat.le_of_ble_eq_true rfl) ⟨Nat.le_of_ble_eq_true rfl, Nat.le_of_ble_eq_true rfl, Nat.le_of_ble_eq_true rfl, Nat.le_of_ble_eq_true rfl⟩ dX11_lend_13 (fun v w2 hp => ?_)
    obtain ⟨rfl, rfl⟩ := hp
    refine aw_if_ne (tgt := 22) X dX11_lend_16 rfl (fun c16 => ?_) (fun c16 => ?_)
    · rw [bI_n0] at c16
      refine aw_aload_n X dX11_lend_22 rfl rfl ?_
      refine am_get X 1 (Nat.le_of_ble_eq_true rfl) fl_X11_16 rfl rfl dX11_lend_23 ?_
      refine aw_iload_n X dX11_lend_26 rfl rfl ?_
      refine aw_aload_n X dX11_lend_27 rfl rfl ?_
      refine am_get X 1 (Nat.le_of_ble_eq_true rfl) fl_X11_16 rfl rfl dX11_lend_28 ?_
      refine aw_iload_n X dX11_lend_31 rfl rfl ?_
      refine am_ald X 1 _ (M.2.2 1) hq (by decide) rfl rfl rfl (bt_vp c16 (by decide) (by decide)) dX11_lend_32 ?_
      refine am_ast X 1 _ hq (by decide) rfl rfl (bt_vp c9 (by decide) (by decide)) dX11_lend_33 ?_
      refine aw_iconst X dX11_lend_34 ci_1 ?_
      refine RTN (some (.int _)) _ _ _ _ _ dX11_lend_35 (⟨_, rfl⟩) (Nat.le_of_ble_eq_true rfl) (Nat.le_of_ble_eq_true rfl) ?_
      first | (constructor <;> ((try simp only [mo_lend, c9, c16, if_true, if_false, not_true_eq_false, not_false_eq_true, and_self, true_and, and_true, false_and, and_false, or_true, true_or, or_false, false_or, reduceCtorEq, ne_eq]); (try rfl); done)) | (clear RTN X; constructor <;> ((try simp_all only [mo_lend, if_true, if_false, not_true_eq_false, not_false_eq_true, and_self, true_and, and_true, false_and, and_false, or_true, true_or, or_false, false_or, reduceCtorEq, ne_eq]); (try rfl); done))
    · rw [bI_0] at c16
      refine aw_bipush X dX11_lend_19 cb_m2 ?_
      refine RTN (some (.int _)) _ _ _ _ _ dX11_lend_21 (⟨_, rfl⟩) (Nat.le_of_ble_eq_true rfl) (Nat.le_of_ble_eq_true rfl) ?_
      first | (constructor <;> ((try simp only [mo_lend, c9, c16, if_true, if_false, not_true_eq_false, not_false_eq_true, and_self, true_and, and_true, false_and, and_false, or_true, true_or, or_false, false_or, reduceCtorEq, ne_eq]); (try rfl); done)) | (clear RTN X; constructor <;> ((try simp_all only [mo_lend, if_true, if_false, not_true_eq_false, not_false_eq_true, and_self, true_and, and_true, false_and, and_false, or_true, true_or, or_false, false_or, reduceCtorEq, ne_eq]); (try rfl); done))
def mo_ag (M : MS) (a sort k : Int32) : Int32 :=
  if a = 0 then 1 else if M.2.2 2 a.toNatClampNeg = sort ∨ (sort = 3 ∧ M.2.2 2 a.toNatClampNeg = 4) then (if bt k 0 (M.2.2 3 a.toNatClampNeg - 1).toInt then 0 else 3) else 2
set_option maxRecDepth 100000 in
set_option maxHeartbeats 4000000 in
theorem kX11_against (G : GG) (l : Launch) (q : Nat → Nat) (M : MS) (hq : mInj q) (a sort k : Int32) (ha : bt a 0 24) : MC G l yX11_against cX11_against 5 ((Option.some .int)) ({ frames := 1, cells := 0, slots := 0, locals := 25 } : Room) [.ref (q 0), .int a, .int sort, .int k] (mw G q M) (fun v w' => v = some (.int (mo_ag M a sort k)) ∧ w' = mw G q M) := by
  refine mc_int (by decide) (Nat.le_of_ble_eq_true rfl) rfl rfl ?_
  intro p e s m args below meth c A H0 Q X hnm RTN
  have X : Cx G p s m args meth c A H0 cX11_against 5 RX11 := X
  refine aw_iload_n X dX11_against_0 rfl rfl ?_
  refine aw_if_ne (tgt := 6) X dX11_against_1 rfl (fun c1 => ?_) (fun c1 => ?_)
  · refine aw_aload_n X dX11_against_6 rfl rfl ?_
    refine am_get X 2 (Nat.le_of_ble_eq_true rfl) fl_X11_43 rfl rfl dX11_against_7 ?_
    refine aw_iload_n X dX11_against_10 rfl rfl ?_
    refine am_ald X 2 _ (M.2.2 2) hq (by decide) rfl rfl rfl (bt_vp ha (by decide) (by decide)) dX11_against_11 ?_
    refine aw_iload_n X dX11_against_12 rfl rfl ?_
    refine aw_icmp_eq (tgt := 31) X dX11_against_13 rfl (fun c13 => ?_) (fun c13 => ?_)
    · refine aw_iconst X dX11_against_31 ci_1 ?_
      refine aw_goto (tgt := 36) X dX11_against_32 rfl ?_
      refine aw_istore (lv' := [(4, _), (0, _), (1, _), (2, _), (3, _)]) X dX11_against_36 (by decide) rfl ?_
      refine aw_iload X dX11_against_38 rfl ?_
      refine aw_if_ne (tgt := 47) X dX11_against_40 rfl (fun c40 => ?_) (fun c40 => ?_)
      · refine aw_iload_n X dX11_against_47 rfl rfl ?_
        refine aw_i2l X dX11_against_48 ?_
        refine aw_lconst X dX11_against_49 cl_0 ?_
        refine aw_aload_n X dX11_against_50 rfl rfl ?_
        refine am_get X 3 (Nat.le_of_ble_eq_true rfl) fl_X11_46 rfl rfl dX11_against_51 ?_
        refine aw_iload_n X dX11_against_54 rfl rfl ?_
        refine am_ald X 3 _ (M.2.2 3) hq (by decide) rfl rfl rfl (bt_vp ha (by decide) (by decide)) dX11_against_55 ?_
        refine aw_iconst X dX11_against_56 ci_1 ?_
        refine aw_isub X dX11_against_57 ?_
        refine aw_i2l X dX11_against_58 ?_
        refine aw_callS X (kX11_inI _ _ _ k 0 _ 0 ((M.2.2 3 a.toNatClampNeg - 1).toInt) rfl (i64_32 _)) okm_X11_in ml_X11_12 st_X11_in rfl rfl (Nat.le_of_ble_eq_true rfl) ⟨Nat.le_of_ble_eq_true rfl, Nat.le_of_ble_eq_true rfl, Nat.le_of_ble_eq_true rfl, Nat.le_of_ble_eq_true rfl⟩ dX11_against_59 (fun v w2 hp => ?_)
        obtain ⟨rfl, rfl⟩ := hp
        refine aw_if_ne (tgt := 69) X dX11_against_62 rfl (fun c62 => ?_) (fun c62 => ?_)
        · rw [bI_n0] at c62
          refine aw_iconst X dX11_against_69 ci_0 ?_
          refine RTN (some (.int _)) _ _ _ _ _ dX11_against_70 (⟨_, rfl⟩) (Nat.le_of_ble_eq_true rfl) (Nat.le_of_ble_eq_true rfl) ?_
          first | (constructor <;> ((try simp only [mo_ag, c1, c13, c62, if_true, if_false, not_true_eq_false, not_false_eq_true, and_self, true_and, and_true, false_and, and_false, or_true, true_or, or_false, false_or, reduceCtorEq, ne_eq]); (try rfl); done)) | (clear RTN X; constructor <;> ((try simp_all only [mo_ag, if_true, if_false, not_true_eq_false, not_false_eq_true, and_self, true_and, and_true, false_and, and_false, or_true, true_or, or_false, false_or, reduceCtorEq, ne_eq]); (try rfl); done))
        · rw [bI_0] at c62
          refine aw_iconst X dX11_against_65 ci_3 ?_
          refine aw_goto (tgt := 70) X dX11_against_66 rfl ?_
          refine RTN (some (.int _)) _ _ _ _ _ dX11_against_70 (⟨_, rfl⟩) (Nat.le_of_ble_eq_true rfl) (Nat.le_of_ble_eq_true rfl) ?_
          first | (constructor <;> ((try simp only [mo_ag, c1, c13, c62, if_true, if_false, not_true_eq_false, not_false_eq_true, and_self, true_and, and_true, false_and, and_false, or_true, true_or, or_false, false_or, reduceCtorEq, ne_eq]); (try rfl); done)) | (clear RTN X; constructor <;> ((try simp_all only [mo_ag, if_true, if_false, not_true_eq_false, not_false_eq_true, and_self, true_and, and_true, false_and, and_false, or_true, true_or, or_false, false_or, reduceCtorEq, ne_eq]); (try rfl); done))
      · exact absurd c40 (by decide)
    · refine aw_iload_n X dX11_against_16 rfl rfl ?_
      refine aw_iconst X dX11_against_17 ci_3 ?_
      refine aw_icmp_ne (tgt := 35) X dX11_against_18 rfl (fun c18 => ?_) (fun c18 => ?_)
      · refine aw_iconst X dX11_against_35 ci_0 ?_
        refine aw_istore (lv' := [(4, _), (0, _), (1, _), (2, _), (3, _)]) X dX11_against_36 (by decide) rfl ?_
        refine aw_iload X dX11_against_38 rfl ?_
        refine aw_if_ne (tgt := 47) X dX11_against_40 rfl (fun c40 => ?_) (fun c40 => ?_)
        · exact absurd c40 (by decide)
        · refine aw_iconst X dX11_against_43 ci_2 ?_
          refine aw_goto (tgt := 70) X dX11_against_44 rfl ?_
          refine RTN (some (.int _)) _ _ _ _ _ dX11_against_70 (⟨_, rfl⟩) (Nat.le_of_ble_eq_true rfl) (Nat.le_of_ble_eq_true rfl) ?_
          first | (constructor <;> ((try simp only [mo_ag, c1, c13, c18, if_true, if_false, not_true_eq_false, not_false_eq_true, and_self, true_and, and_true, false_and, and_false, or_true, true_or, or_false, false_or, reduceCtorEq, ne_eq]); (try rfl); done)) | (clear RTN X; constructor <;> ((try simp_all only [mo_ag, if_true, if_false, not_true_eq_false, not_false_eq_true, and_self, true_and, and_true, false_and, and_false, or_true, true_or, or_false, false_or, reduceCtorEq, ne_eq]); (try rfl); done))
      · refine aw_aload_n X dX11_against_21 rfl rfl ?_
        refine am_get X 2 (Nat.le_of_ble_eq_true rfl) fl_X11_43 rfl rfl dX11_against_22 ?_
        refine aw_iload_n X dX11_against_25 rfl rfl ?_
        refine am_ald X 2 _ (M.2.2 2) hq (by decide) rfl rfl rfl (bt_vp ha (by decide) (by decide)) dX11_against_26 ?_
        refine aw_iconst X dX11_against_27 ci_4 ?_
        refine aw_icmp_ne (tgt := 35) X dX11_against_28 rfl (fun c28 => ?_) (fun c28 => ?_)
        · refine aw_iconst X dX11_against_35 ci_0 ?_
          refine aw_istore (lv' := [(4, _), (0, _), (1, _), (2, _), (3, _)]) X dX11_against_36 (by decide) rfl ?_
          refine aw_iload X dX11_against_38 rfl ?_
          refine aw_if_ne (tgt := 47) X dX11_against_40 rfl (fun c40 => ?_) (fun c40 => ?_)
          · exact absurd c40 (by decide)
          · refine aw_iconst X dX11_against_43 ci_2 ?_
            refine aw_goto (tgt := 70) X dX11_against_44 rfl ?_
            refine RTN (some (.int _)) _ _ _ _ _ dX11_against_70 (⟨_, rfl⟩) (Nat.le_of_ble_eq_true rfl) (Nat.le_of_ble_eq_true rfl) ?_
            first | (constructor <;> ((try simp only [mo_ag, c1, c13, c18, c28, if_true, if_false, not_true_eq_false, not_false_eq_true, and_self, true_and, and_true, false_and, and_false, or_true, true_or, or_false, false_or, reduceCtorEq, ne_eq]); (try rfl); done)) | (clear RTN X; constructor <;> ((try simp_all only [mo_ag, if_true, if_false, not_true_eq_false, not_false_eq_true, and_self, true_and, and_true, false_and, and_false, or_true, true_or, or_false, false_or, reduceCtorEq, ne_eq]); (try rfl); done))
        · refine aw_iconst X dX11_against_31 ci_1 ?_
          refine aw_goto (tgt := 36) X dX11_against_32 rfl ?_
          refine aw_istore (lv' := [(4, _), (0, _), (1, _), (2, _), (3, _)]) X dX11_against_36 (by decide) rfl ?_
          refine aw_iload X dX11_against_38 rfl ?_
          refine aw_if_ne (tgt := 47) X dX11_against_40 rfl (fun c40 => ?_) (fun c40 => ?_)
          · refine aw_iload_n X dX11_against_47 rfl rfl ?_
            refine aw_i2l X dX11_against_48 ?_
            refine aw_lconst X dX11_against_49 cl_0 ?_
            refine aw_aload_n X dX11_against_50 rfl rfl ?_
            refine am_get X 3 (Nat.le_of_ble_eq_true rfl) fl_X11_46 rfl rfl dX11_against_51 ?_
            refine aw_iload_n X dX11_against_54 rfl rfl ?_
            refine am_ald X 3 _ (M.2.2 3) hq (by decide) rfl rfl rfl (bt_vp ha (by decide) (by decide)) dX11_against_55 ?_
            refine aw_iconst X dX11_against_56 ci_1 ?_
            refine aw_isub X dX11_against_57 ?_
            refine aw_i2l X dX11_against_58 ?_
            refine aw_callS X (kX11_inI _ _ _ k 0 _ 0 ((M.2.2 3 a.toNatClampNeg - 1).toInt) rfl (i64_32 _)) okm_X11_in ml_X11_12 st_X11_in rfl rfl (Nat.le_of_ble_eq_true rfl) ⟨Nat.le_of_ble_eq_true rfl, Nat.le_of_ble_eq_true rfl, Nat.le_of_ble_eq_true rfl, Nat.le_of_ble_eq_true rfl⟩ dX11_against_59 (fun v w2 hp => ?_)
            obtain ⟨rfl, rfl⟩ := hp
            refine aw_if_ne (tgt := 69) X dX11_against_62 rfl (fun c62 => ?_) (fun c62 => ?_)
            · rw [bI_n0] at c62
              refine aw_iconst X dX11_against_69 ci_0 ?_
              refine RTN (some (.int _)) _ _ _ _ _ dX11_against_70 (⟨_, rfl⟩) (Nat.le_of_ble_eq_true rfl) (Nat.le_of_ble_eq_true rfl) ?_
              first | (constructor <;> ((try simp only [mo_ag, c1, c13, c18, c28, c62, if_true, if_false, not_true_eq_false, not_false_eq_true, and_self, true_and, and_true, false_and, and_false, or_true, true_or, or_false, false_or, reduceCtorEq, ne_eq]); (try rfl); done)) | (clear RTN X; constructor <;> ((try simp_all only [mo_ag, if_true, if_false, not_true_eq_false, not_false_eq_true, and_self, true_and, and_true, false_and, and_false, or_true, true_or, or_false, false_or, reduceCtorEq, ne_eq]); (try rfl); done))
            · rw [bI_0] at c62
              refine aw_iconst X dX11_against_65 ci_3 ?_
              refine aw_goto (tgt := 70) X dX11_against_66 rfl ?_
              refine RTN (some (.int _)) _ _ _ _ _ dX11_against_70 (⟨_, rfl⟩) (Nat.le_of_ble_eq_true rfl) (Nat.le_of_ble_eq_true rfl) ?_
              first | (constructor <;> ((try simp only [mo_ag, c1, c13, c18, c28, c62, if_true, if_false, not_true_eq_false, not_false_eq_true, and_self, true_and, and_true, false_and, and_false, or_true, true_or, or_false, false_or, reduceCtorEq, ne_eq]); (try rfl); done)) | (clear RTN X; constructor <;> ((try simp_all only [mo_ag, if_true, if_false, not_true_eq_false, not_false_eq_true, and_self, true_and, and_true, false_and, and_false, or_true, true_or, or_false, false_or, reduceCtorEq, ne_eq]); (try rfl); done))
          · exact absurd c40 (by decide)
  · refine aw_iconst X dX11_against_4 ci_1 ?_
    refine RTN (some (.int _)) _ _ _ _ _ dX11_against_5 (⟨_, rfl⟩) (Nat.le_of_ble_eq_true rfl) (Nat.le_of_ble_eq_true rfl) ?_
    first | (constructor <;> ((try simp only [mo_ag, c1, if_true, if_false, not_true_eq_false, not_false_eq_true, and_self, true_and, and_true, false_and, and_false, or_true, true_or, or_false, false_or, reduceCtorEq, ne_eq]); (try rfl); done)) | (clear RTN X; constructor <;> ((try simp_all only [mo_ag, if_true, if_false, not_true_eq_false, not_false_eq_true, and_self, true_and, and_true, false_and, and_false, or_true, true_or, or_false, false_or, reduceCtorEq, ne_eq]); (try rfl); done))
def mo_pl (M : MS) (t : Int32) : Option Nat := (List.range 8).find? (fun k => decide (0 < t) && decide (M.2.2 6 k = t))
def mo_fp (M : MS) : Option Nat := (List.range 8).find? (fun k => decide (M.2.2 6 k = 0))
theorem ge_i {i N : Nat} {c : Int32} (hc : c = nI N) (hi : i < 2 ^ 31) (hN : N < 2 ^ 31) (h : c ≤ nI i) : N ≤ i := by rw [hc] at h; exact (nI_leI hN hi).mp h
theorem lt_i {i N : Nat} {c : Int32} (hc : c = nI N) (hi : i < 2 ^ 31) (hN : N < 2 ^ 31) (h : ¬ c ≤ nI i) : i < N := by rw [hc] at h; exact Nat.lt_of_not_le (fun z => h ((nI_leI hN hi).mpr z))
set_option maxRecDepth 100000 in
set_option maxHeartbeats 4000000 in
theorem kX11_freePlace (G : GG) (l : Launch) (q : Nat → Nat) (M : MS) (hq : mInj q) : MC G l yX11_freePlace cX11_freePlace 2 ((Option.some .int)) ({ frames := 0, cells := 0, slots := 0, locals := 0 } : Room) [.ref (q 0)] (mw G q M) (fun v w' => v = some (.int (oI (mo_fp M))) ∧ w' = mw G q M) := by
  refine mc_int (by decide) (Nat.le_of_ble_eq_true rfl) rfl rfl ?_
  intro p e s m args below meth c A H0 Q X hnm RTN
  have X : Cx G p s m args meth c A H0 cX11_freePlace 2 RX11 := X
  have L : ∀ (nn : Nat) (i : Nat) (x : Int32), (x = nI i) → (i ≤ 8) → (∀ j, j < i → (fun k => decide (M.2.2 6 k = 0)) j = false) → (9 ≤ i + nn) → AW G p l e ({ frames := 0, cells := 0, slots := 0, locals := 0 } : Room) s m args below meth c 2 A H0 Q (mw G q M) 0 0 2 [(1, .int x), (0, .ref (q 0))] [] := by
    intro nn
    induction nn with
    | zero => intro i x hx h1 hb h2; exact absurd h2 (by omega)
    | succ nn ih =>
      intro i x hx h1 hb h2
      subst hx
      refine aw_iload_n X dX11_freePlace_2 rfl rfl ?_
      refine aw_bipush X dX11_freePlace_3 cb_8 ?_
      refine aw_icmp_ge (tgt := 25) X dX11_freePlace_5 rfl (fun c5 => ?_) (fun c5 => ?_)
      · have h9 : i = 8 := by have := ge_i (N := 8) rfl (by omega) (by decide) c5; omega
        subst h9
        refine aw_iconst X dX11_freePlace_25 ci_m1 ?_
        refine RTN (some (.int _)) _ _ _ _ _ dX11_freePlace_26 (⟨_, rfl⟩) (Nat.le_of_ble_eq_true rfl) (Nat.le_of_ble_eq_true rfl) ?_
        exact ⟨by rw [mo_fp, fr_none hb]; rfl, rfl⟩
      · have h9 : i < 8 := lt_i (N := 8) rfl (by omega) (by decide) c5
        refine aw_aload_n X dX11_freePlace_8 rfl rfl ?_
        refine am_get X 6 (Nat.le_of_ble_eq_true rfl) fl_X11_20 rfl rfl dX11_freePlace_9 ?_
        refine aw_iload_n X dX11_freePlace_12 rfl rfl ?_
        refine am_ald X 6 _ (M.2.2 6) hq (by decide) rfl rfl rfl (vp_in_nI h9 (by decide)) dX11_freePlace_13 ?_
        refine aw_if_ne (tgt := 19) X dX11_freePlace_14 rfl (fun c14 => ?_) (fun c14 => ?_)
        · rw [nI_clamp (by omega)] at c14
          refine aw_iinc (lv' := [(1, _), (0, _)]) X dX11_freePlace_19 rfl (iinc_1 _) (by decide) rfl ?_
          refine aw_goto (tgt := 2) X dX11_freePlace_22 rfl ?_
          refine aw_lv [0, 1] rfl ?_
          exact ih (i + 1) _ (nI_1 i) (by omega) (lt_s hb (by rw [decide_eq_false_iff_not]; exact c14)) (by omega)
        · rw [nI_clamp (by omega)] at c14
          refine aw_iload_n X dX11_freePlace_17 rfl rfl ?_
          refine RTN (some (.int _)) _ _ _ _ _ dX11_freePlace_18 (⟨_, rfl⟩) (Nat.le_of_ble_eq_true rfl) (Nat.le_of_ble_eq_true rfl) ?_
          exact ⟨by rw [mo_fp, fr_some h9 hb (by rw [decide_eq_true_iff]; exact c14)]; rfl, rfl⟩
  refine aw_iconst X dX11_freePlace_0 ci_0 ?_
  refine aw_istore_n (lv' := [(1, _), (0, _)]) X dX11_freePlace_1 rfl (by decide) rfl ?_
  refine aw_lv [0, 1] rfl ?_
  exact L 9 0 _ rfl (by decide) (fun j h => absurd h (Nat.not_lt_zero j)) (by decide)
set_option maxRecDepth 100000 in
set_option maxHeartbeats 4000000 in
theorem kX11_placeOf (G : GG) (l : Launch) (q : Nat → Nat) (M : MS) (hq : mInj q) (t : Int32) : MC G l yX11_placeOf cX11_placeOf 3 ((Option.some .int)) ({ frames := 0, cells := 0, slots := 0, locals := 0 } : Room) [.ref (q 0), .int t] (mw G q M) (fun v w' => v = some (.int (oI (mo_pl M t))) ∧ w' = mw G q M) := by
  refine mc_int (by decide) (Nat.le_of_ble_eq_true rfl) rfl rfl ?_
  intro p e s m args below meth c A H0 Q X hnm RTN
  have X : Cx G p s m args meth c A H0 cX11_placeOf 3 RX11 := X
  have L : ∀ (nn : Nat) (i : Nat) (x : Int32), (x = nI i) → (i ≤ 8) → (∀ j, j < i → (fun k => decide (0 < t) && decide (M.2.2 6 k = t)) j = false) → (9 ≤ i + nn) → AW G p l e ({ frames := 0, cells := 0, slots := 0, locals := 0 } : Room) s m args below meth c 3 A H0 Q (mw G q M) 0 0 2 [(2, .int x), (0, .ref (q 0)), (1, .int t)] [] := by
    intro nn
    induction nn with
    | zero => intro i x hx h1 hb h2; exact absurd h2 (by omega)
    | succ nn ih =>
      intro i x hx h1 hb h2
      subst hx
      refine aw_iload_n X dX11_placeOf_2 rfl rfl ?_
      refine aw_bipush X dX11_placeOf_3 cb_8 ?_
      refine aw_icmp_ge (tgt := 30) X dX11_placeOf_5 rfl (fun c5 => ?_) (fun c5 => ?_)
      · have h9 : i = 8 := by have := ge_i (N := 8) rfl (by omega) (by decide) c5; omega
        subst h9
        refine aw_iconst X dX11_placeOf_30 ci_m1 ?_
        refine RTN (some (.int _)) _ _ _ _ _ dX11_placeOf_31 (⟨_, rfl⟩) (Nat.le_of_ble_eq_true rfl) (Nat.le_of_ble_eq_true rfl) ?_
        exact ⟨by rw [mo_pl, fr_none hb]; rfl, rfl⟩
      · have h9 : i < 8 := lt_i (N := 8) rfl (by omega) (by decide) c5
        refine aw_iload_n X dX11_placeOf_8 rfl rfl ?_
        refine aw_if_le (tgt := 24) X dX11_placeOf_9 rfl (fun c9 => ?_) (fun c9 => ?_)
        · refine aw_iinc (lv' := [(2, _), (0, _), (1, _)]) X dX11_placeOf_24 rfl (iinc_1 _) (by decide) rfl ?_
          refine aw_goto (tgt := 2) X dX11_placeOf_27 rfl ?_
          refine aw_lv [0, 1, 2] rfl ?_
          exact ih (i + 1) _ (nI_1 i) (by omega) (lt_s hb (by first | (rw [Bool.and_eq_false_iff]; right; rw [decide_eq_false_iff_not]; exact c19) | (rw [Bool.and_eq_false_iff]; left; rw [decide_eq_false_iff_not]; exact Int32.not_lt.mpr c9))) (by omega)
        · refine aw_aload_n X dX11_placeOf_12 rfl rfl ?_
          refine am_get X 6 (Nat.le_of_ble_eq_true rfl) fl_X11_20 rfl rfl dX11_placeOf_13 ?_
          refine aw_iload_n X dX11_placeOf_16 rfl rfl ?_
          refine am_ald X 6 _ (M.2.2 6) hq (by decide) rfl rfl rfl (vp_in_nI h9 (by decide)) dX11_placeOf_17 ?_
          refine aw_iload_n X dX11_placeOf_18 rfl rfl ?_
          refine aw_icmp_ne (tgt := 24) X dX11_placeOf_19 rfl (fun c19 => ?_) (fun c19 => ?_)
          · rw [nI_clamp (by omega)] at c19
            refine aw_iinc (lv' := [(2, _), (0, _), (1, _)]) X dX11_placeOf_24 rfl (iinc_1 _) (by decide) rfl ?_
            refine aw_goto (tgt := 2) X dX11_placeOf_27 rfl ?_
            refine aw_lv [0, 1, 2] rfl ?_
            exact ih (i + 1) _ (nI_1 i) (by omega) (lt_s hb (by first | (rw [Bool.and_eq_false_iff]; right; rw [decide_eq_false_iff_not]; exact c19) | (rw [Bool.and_eq_false_iff]; left; rw [decide_eq_false_iff_not]; exact Int32.not_lt.mpr c9))) (by omega)
          · rw [nI_clamp (by omega)] at c19
            refine aw_iload_n X dX11_placeOf_22 rfl rfl ?_
            refine RTN (some (.int _)) _ _ _ _ _ dX11_placeOf_23 (⟨_, rfl⟩) (Nat.le_of_ble_eq_true rfl) (Nat.le_of_ble_eq_true rfl) ?_
            exact ⟨by rw [mo_pl, fr_some h9 hb (by rw [Bool.and_eq_true, decide_eq_true_iff, decide_eq_true_iff]; exact ⟨Int32.not_le.mp c9, c19⟩)]; rfl, rfl⟩
  refine aw_iconst X dX11_placeOf_0 ci_0 ?_
  refine aw_istore_n (lv' := [(2, _), (0, _), (1, _)]) X dX11_placeOf_1 rfl (by decide) rfl ?_
  refine aw_lv [0, 1, 2] rfl ?_
  exact L 9 0 _ rfl (by decide) (fun j h => absurd h (Nat.not_lt_zero j)) (by decide)
def mo_begin (M : MS) (k : Nat) (kind wide mode : Int32) : MS :=
  sF (sF (sF (sF (sF (sF (sF (sF (sF (sF (sF (sF (sI M 7 (M.1 7 + 1)) 6 k (M.1 7 + 1)) 8 k kind) 9 k wide) 10 k mode) 11 k 0) 12 k 0) 13 k 0) 14 k 0) 15 k 0) 16 k (-1)) 17 k 0) 19 k 0
set_option maxRecDepth 100000 in
set_option maxHeartbeats 4000000 in
theorem kX11_begin (G : GG) (l : Launch) (q : Nat → Nat) (M : MS) (hq : mInj q) (k kind wide mode : Int32) (hk : bt k 0 7) (hw : vp_nar .boolean wide = wide) : MC G l yX11_begin cX11_begin 5 ((Option.some .int)) ({ frames := 0, cells := 0, slots := 0, locals := 0 } : Room) [.ref (q 0), .int k, .int kind, .int wide, .int mode] (mw G q M) (fun v w' => v = some (.int (M.1 7 + 1)) ∧ w' = mw G q (mo_begin M k.toNatClampNeg kind wide mode)) := by
  refine mc_int (by decide) (Nat.le_of_ble_eq_true rfl) rfl rfl ?_
  intro p e s m args below meth c A H0 Q X hnm RTN
  have X : Cx G p s m args meth c A H0 cX11_begin 5 RX11 := X
  refine aw_aload_n X dX11_begin_0 rfl rfl ?_
  refine aw_dup X dX11_begin_1 rfl ?_
  refine am_get X 7 (v := .int (M.1 7)) (Nat.le_of_ble_eq_true rfl) fl_X11_71 rfl rfl dX11_begin_2 ?_
  refine aw_iconst X dX11_begin_5 ci_1 ?_
  refine aw_iadd X dX11_begin_6 ?_
  refine am_put X 7 (M' := sI _ 7 _) (Nat.le_of_ble_eq_true rfl) fl_X11_71 rfl rfl (rfl) (rfl) (mf_7 _ _ _) rfl dX11_begin_7 ?_
  refine aw_aload_n X dX11_begin_10 rfl rfl ?_
  refine am_get X 6 (Nat.le_of_ble_eq_true rfl) fl_X11_20 rfl rfl dX11_begin_11 ?_
  refine aw_iload_n X dX11_begin_14 rfl rfl ?_
  refine aw_aload_n X dX11_begin_15 rfl rfl ?_
  refine am_get X 7 (v := .int ((M.1 7) + 1)) (Nat.le_of_ble_eq_true rfl) fl_X11_71 rfl rfl dX11_begin_16 ?_
  refine am_ast X 6 _ hq (by decide) rfl rfl (bt_vp (hk) (by decide) (by decide)) dX11_begin_19 ?_
  refine aw_aload_n X dX11_begin_20 rfl rfl ?_
  refine am_get X 8 (Nat.le_of_ble_eq_true rfl) fl_X11_23 rfl rfl dX11_begin_21 ?_
  refine aw_iload_n X dX11_begin_24 rfl rfl ?_
  refine aw_iload_n X dX11_begin_25 rfl rfl ?_
  refine am_ast X 8 _ hq (by decide) rfl rfl (bt_vp (hk) (by decide) (by decide)) dX11_begin_26 ?_
  refine aw_aload_n X dX11_begin_27 rfl rfl ?_
  refine am_get X 9 (Nat.le_of_ble_eq_true rfl) fl_X11_74 rfl rfl dX11_begin_28 ?_
  refine aw_iload_n X dX11_begin_31 rfl rfl ?_
  refine aw_iload_n X dX11_begin_32 rfl rfl ?_
  refine am_zst X 9 _ hq (by decide) rfl rfl (hw) (bt_vp (hk) (by decide) (by decide)) dX11_begin_33 ?_
  refine aw_aload_n X dX11_begin_34 rfl rfl ?_
  refine am_get X 10 (Nat.le_of_ble_eq_true rfl) fl_X11_77 rfl rfl dX11_begin_35 ?_
  refine aw_iload_n X dX11_begin_38 rfl rfl ?_
  refine aw_iload X dX11_begin_39 rfl ?_
  refine am_ast X 10 _ hq (by decide) rfl rfl (bt_vp (hk) (by decide) (by decide)) dX11_begin_41 ?_
  refine aw_aload_n X dX11_begin_42 rfl rfl ?_
  refine am_get X 11 (Nat.le_of_ble_eq_true rfl) fl_X11_80 rfl rfl dX11_begin_43 ?_
  refine aw_iload_n X dX11_begin_46 rfl rfl ?_
  refine aw_iconst X dX11_begin_47 ci_0 ?_
  refine am_ast X 11 _ hq (by decide) rfl rfl (bt_vp (hk) (by decide) (by decide)) dX11_begin_48 ?_
  refine aw_aload_n X dX11_begin_49 rfl rfl ?_
  refine am_get X 12 (Nat.le_of_ble_eq_true rfl) fl_X11_83 rfl rfl dX11_begin_50 ?_
  refine aw_iload_n X dX11_begin_53 rfl rfl ?_
  refine aw_iconst X dX11_begin_54 ci_0 ?_
  refine am_ast X 12 _ hq (by decide) rfl rfl (bt_vp (hk) (by decide) (by decide)) dX11_begin_55 ?_
  refine aw_aload_n X dX11_begin_56 rfl rfl ?_
  refine am_get X 13 (Nat.le_of_ble_eq_true rfl) fl_X11_86 rfl rfl dX11_begin_57 ?_
  refine aw_iload_n X dX11_begin_60 rfl rfl ?_
  refine aw_iconst X dX11_begin_61 ci_0 ?_
  refine am_ast X 13 _ hq (by decide) rfl rfl (bt_vp (hk) (by decide) (by decide)) dX11_begin_62 ?_
  refine aw_aload_n X dX11_begin_63 rfl rfl ?_
  refine am_get X 14 (Nat.le_of_ble_eq_true rfl) fl_X11_89 rfl rfl dX11_begin_64 ?_
  refine aw_iload_n X dX11_begin_67 rfl rfl ?_
  refine aw_iconst X dX11_begin_68 ci_0 ?_
  refine am_ast X 14 _ hq (by decide) rfl rfl (bt_vp (hk) (by decide) (by decide)) dX11_begin_69 ?_
  refine aw_aload_n X dX11_begin_70 rfl rfl ?_
  refine am_get X 15 (Nat.le_of_ble_eq_true rfl) fl_X11_26 rfl rfl dX11_begin_71 ?_
  refine aw_iload_n X dX11_begin_74 rfl rfl ?_
  refine aw_iconst X dX11_begin_75 ci_0 ?_
  refine am_ast X 15 _ hq (by decide) rfl rfl (bt_vp (hk) (by decide) (by decide)) dX11_begin_76 ?_
  refine aw_aload_n X dX11_begin_77 rfl rfl ?_
  refine am_get X 16 (Nat.le_of_ble_eq_true rfl) fl_X11_92 rfl rfl dX11_begin_78 ?_
  refine aw_iload_n X dX11_begin_81 rfl rfl ?_
  refine aw_iconst X dX11_begin_82 ci_m1 ?_
  refine am_ast X 16 _ hq (by decide) rfl rfl (bt_vp (hk) (by decide) (by decide)) dX11_begin_83 ?_
  refine aw_aload_n X dX11_begin_84 rfl rfl ?_
  refine am_get X 17 (Nat.le_of_ble_eq_true rfl) fl_X11_95 rfl rfl dX11_begin_85 ?_
  refine aw_iload_n X dX11_begin_88 rfl rfl ?_
  refine aw_iconst X dX11_begin_89 ci_0 ?_
  refine am_ast X 17 _ hq (by decide) rfl rfl (bt_vp (hk) (by decide) (by decide)) dX11_begin_90 ?_
  refine aw_aload_n X dX11_begin_91 rfl rfl ?_
  refine am_get X 19 (Nat.le_of_ble_eq_true rfl) fl_X11_98 rfl rfl dX11_begin_92 ?_
  refine aw_iload_n X dX11_begin_95 rfl rfl ?_
  refine aw_iconst X dX11_begin_96 ci_0 ?_
  refine am_ast X 19 _ hq (by decide) rfl rfl (bt_vp (hk) (by decide) (by decide)) dX11_begin_97 ?_
  refine aw_aload_n X dX11_begin_98 rfl rfl ?_
  refine am_get X 7 (v := .int ((M.1 7) + 1)) (Nat.le_of_ble_eq_true rfl) fl_X11_71 rfl rfl dX11_begin_99 ?_
  refine RTN (some (.int _)) _ _ _ _ _ dX11_begin_102 (⟨_, rfl⟩) (Nat.le_of_ble_eq_true rfl) (Nat.le_of_ble_eq_true rfl) ?_
  exact ⟨rfl, rfl⟩
def mo_end (M : MS) (k : Nat) : Int32 := if M.2.2 8 k = 2 then M.2.2 36 (M.2.2 16 k).toNatClampNeg / (if M.2.2 9 k = 0 then 1 else 4) else M.2.2 12 k
def sgn (v : Int32) : Int32 := if v &&& 2097151 ≤ 1114111 then v &&& 2097151 else 63
def mo_cnt (M : MS) (k : Nat) : MS := sL (sF M 13 k (M.2.2 13 k + 1)) 21 (M.2.1 21 + 1)
set_option maxRecDepth 100000 in
set_option maxHeartbeats 4000000 in
theorem kX11_endOf (G : GG) (l : Launch) (q : Nat → Nat) (M : MS) (hq : mInj q) (k : Int32) (hk : bt k 0 7) (hf : M.2.2 8 k.toNatClampNeg = 2 → bt (M.2.2 16 k.toNatClampNeg) 0 19) : MC G l yX11_endOf cX11_endOf 2 ((Option.some .int)) ({ frames := 0, cells := 0, slots := 0, locals := 0 } : Room) [.ref (q 0), .int k] (mw G q M) (fun v w' => v = some (.int (mo_end M k.toNatClampNeg)) ∧ w' = mw G q M) := by
  refine mc_int (by decide) (Nat.le_of_ble_eq_true rfl) rfl rfl ?_
  intro p e s m args below meth c A H0 Q X hnm RTN
  have X : Cx G p s m args meth c A H0 cX11_endOf 2 RX11 := X
  refine aw_aload_n X dX11_endOf_0 rfl rfl ?_
  refine am_get X 8 (Nat.le_of_ble_eq_true rfl) fl_X11_23 rfl rfl dX11_endOf_1 ?_
  refine aw_iload_n X dX11_endOf_4 rfl rfl ?_
  refine am_ald X 8 _ (M.2.2 8) hq (by decide) rfl rfl rfl (bt_vp (hk) (by decide) (by decide)) dX11_endOf_5 ?_
  refine aw_iconst X dX11_endOf_6 ci_2 ?_
  refine aw_icmp_ne (tgt := 39) X dX11_endOf_7 rfl (fun c7 => ?_) (fun c7 => ?_)
  · refine aw_aload_n X dX11_endOf_39 rfl rfl ?_
    refine am_get X 12 (Nat.le_of_ble_eq_true rfl) fl_X11_83 rfl rfl dX11_endOf_40 ?_
    refine aw_iload_n X dX11_endOf_43 rfl rfl ?_
    refine am_ald X 12 _ (M.2.2 12) hq (by decide) rfl rfl rfl (bt_vp (hk) (by decide) (by decide)) dX11_endOf_44 ?_
    refine RTN (some (.int _)) _ _ _ _ _ dX11_endOf_45 (⟨_, rfl⟩) (Nat.le_of_ble_eq_true rfl) (Nat.le_of_ble_eq_true rfl) ?_
    first | (constructor <;> ((try simp only [mo_end, c7, if_true, if_false, not_true_eq_false, not_false_eq_true, and_self, true_and, and_true, false_and, and_false, or_true, true_or, or_false, false_or, reduceCtorEq, ne_eq]); (try rfl); done)) | (clear RTN X; constructor <;> ((try simp_all only [mo_end, if_true, if_false, not_true_eq_false, not_false_eq_true, and_self, true_and, and_true, false_and, and_false, or_true, true_or, or_false, false_or, reduceCtorEq, ne_eq]); (try rfl); done))
  · refine aw_aload_n X dX11_endOf_10 rfl rfl ?_
    refine am_get X 36 (Nat.le_of_ble_eq_true rfl) fl_X11_121 rfl rfl dX11_endOf_11 ?_
    refine aw_aload_n X dX11_endOf_14 rfl rfl ?_
    refine am_get X 16 (Nat.le_of_ble_eq_true rfl) fl_X11_92 rfl rfl dX11_endOf_15 ?_
    refine aw_iload_n X dX11_endOf_18 rfl rfl ?_
    refine am_ald X 16 _ (M.2.2 16) hq (by decide) rfl rfl rfl (bt_vp (hk) (by decide) (by decide)) dX11_endOf_19 ?_
    refine am_ald X 36 _ (M.2.2 36) hq (by decide) rfl rfl rfl (bt_vp (hf c7) (by decide) (by decide)) dX11_endOf_20 ?_
    refine aw_aload_n X dX11_endOf_21 rfl rfl ?_
    refine am_get X 9 (Nat.le_of_ble_eq_true rfl) fl_X11_74 rfl rfl dX11_endOf_22 ?_
    refine aw_iload_n X dX11_endOf_25 rfl rfl ?_
    refine am_zld X 9 _ (M.2.2 9) hq (by decide) rfl rfl rfl (bt_vp (hk) (by decide) (by decide)) dX11_endOf_26 ?_
    refine aw_if_eq (tgt := 34) X dX11_endOf_27 rfl (fun c27 => ?_) (fun c27 => ?_)
    · refine aw_iconst X dX11_endOf_34 ci_1 ?_
      refine aw_idiv X dX11_endOf_35 (by decide) ?_
      refine aw_goto (tgt := 45) X dX11_endOf_36 rfl ?_
      refine RTN (some (.int _)) _ _ _ _ _ dX11_endOf_45 (⟨_, rfl⟩) (Nat.le_of_ble_eq_true rfl) (Nat.le_of_ble_eq_true rfl) ?_
      first | (constructor <;> ((try simp only [mo_end, c7, c27, if_true, if_false, not_true_eq_false, not_false_eq_true, and_self, true_and, and_true, false_and, and_false, or_true, true_or, or_false, false_or, reduceCtorEq, ne_eq]); (try rfl); done)) | (clear RTN X; constructor <;> ((try simp_all only [mo_end, if_true, if_false, not_true_eq_false, not_false_eq_true, and_self, true_and, and_true, false_and, and_false, or_true, true_or, or_false, false_or, reduceCtorEq, ne_eq]); (try rfl); done))
    · refine aw_iconst X dX11_endOf_30 ci_4 ?_
      refine aw_goto (tgt := 35) X dX11_endOf_31 rfl ?_
      refine aw_idiv X dX11_endOf_35 (by decide) ?_
      refine aw_goto (tgt := 45) X dX11_endOf_36 rfl ?_
      refine RTN (some (.int _)) _ _ _ _ _ dX11_endOf_45 (⟨_, rfl⟩) (Nat.le_of_ble_eq_true rfl) (Nat.le_of_ble_eq_true rfl) ?_
      first | (constructor <;> ((try simp only [mo_end, c7, c27, if_true, if_false, not_true_eq_false, not_false_eq_true, and_self, true_and, and_true, false_and, and_false, or_true, true_or, or_false, false_or, reduceCtorEq, ne_eq]); (try rfl); done)) | (clear RTN X; constructor <;> ((try simp_all only [mo_end, if_true, if_false, not_true_eq_false, not_false_eq_true, and_self, true_and, and_true, false_and, and_false, or_true, true_or, or_false, false_or, reduceCtorEq, ne_eq]); (try rfl); done))
set_option maxRecDepth 100000 in
set_option maxHeartbeats 4000000 in
theorem kX11_counted (G : GG) (l : Launch) (q : Nat → Nat) (M : MS) (hq : mInj q) (k : Int32) (hk : bt k 0 7) : MC G l yX11_counted cX11_counted 2 (none) ({ frames := 0, cells := 0, slots := 0, locals := 0 } : Room) [.ref (q 0), .int k] (mw G q M) (fun v w' => v = none ∧ w' = mw G q (mo_cnt M k.toNatClampNeg)) := by
  refine mc_void (by decide) (Nat.le_of_ble_eq_true rfl) rfl rfl ?_
  intro p e s m args below meth c A H0 Q X hnm RTN
  have X : Cx G p s m args meth c A H0 cX11_counted 2 RX11 := X
  refine aw_aload_n X dX11_counted_0 rfl rfl ?_
  refine am_get X 13 (Nat.le_of_ble_eq_true rfl) fl_X11_86 rfl rfl dX11_counted_1 ?_
  refine aw_iload_n X dX11_counted_4 rfl rfl ?_
  refine aw_dup2_11 X dX11_counted_5 rfl rfl ?_
  refine am_ald X 13 _ (M.2.2 13) hq (by decide) rfl rfl rfl (bt_vp (hk) (by decide) (by decide)) dX11_counted_6 ?_
  refine aw_iconst X dX11_counted_7 ci_1 ?_
  refine aw_iadd X dX11_counted_8 ?_
  refine am_ast X 13 _ hq (by decide) rfl rfl (bt_vp (hk) (by decide) (by decide)) dX11_counted_9 ?_
  refine aw_aload_n X dX11_counted_10 rfl rfl ?_
  refine aw_dup X dX11_counted_11 rfl ?_
  refine am_get X 21 (v := .long (M.2.1 21)) (Nat.le_of_ble_eq_true rfl) fl_X11_168 rfl rfl dX11_counted_12 ?_
  refine aw_lconst X dX11_counted_15 cl_1 ?_
  refine aw_ladd X dX11_counted_16 ?_
  refine am_put X 21 (M' := sL _ 21 _) (Nat.le_of_ble_eq_true rfl) fl_X11_168 rfl rfl (rfl) (rfl) (mf_21 _ _ _) rfl dX11_counted_17 ?_
  refine RTN (none) _ _ _ _ _ dX11_counted_20 (rfl) (Nat.le_of_ble_eq_true rfl) (Nat.le_of_ble_eq_true rfl) ?_
  exact ⟨rfl, rfl⟩
set_option maxRecDepth 100000 in
set_option maxHeartbeats 4000000 in
theorem kX11_signOf (G : GG) (l : Launch) (w : WM) (x : Int32) : MC G l yX11_signOf cX11_signOf 2 ((Option.some .int)) ({ frames := 0, cells := 0, slots := 0, locals := 0 } : Room) [.int x] w (fun v w' => v = some (.int (sgn x)) ∧ w' = w) := by
  refine mc_int (by decide) (Nat.le_of_ble_eq_true rfl) rfl rfl ?_
  intro p e s m args below meth c A H0 Q X hnm RTN
  have X : Cx G p s m args meth c A H0 cX11_signOf 2 RX11 := X
  refine aw_iload_n X dX11_signOf_0 rfl rfl ?_
  refine aw_ldc X kc_X11_163 dX11_signOf_1 ?_
  refine aw_iand X dX11_signOf_3 ?_
  refine aw_istore_n (lv' := [(1, _), (0, _)]) X dX11_signOf_4 rfl (by decide) rfl ?_
  refine aw_iload_n X dX11_signOf_5 rfl rfl ?_
  refine aw_ldc X kc_X11_164 dX11_signOf_6 ?_
  refine aw_icmp_le (tgt := 16) X dX11_signOf_8 rfl (fun c8 => ?_) (fun c8 => ?_)
  · refine aw_iload_n X dX11_signOf_16 rfl rfl ?_
    refine RTN (some (.int _)) _ _ _ _ _ dX11_signOf_17 (⟨_, rfl⟩) (Nat.le_of_ble_eq_true rfl) (Nat.le_of_ble_eq_true rfl) ?_
    first | (constructor <;> ((try simp only [sgn, c8, if_true, if_false, not_true_eq_false, not_false_eq_true, and_self, true_and, and_true, false_and, and_false, or_true, true_or, or_false, false_or, reduceCtorEq, ne_eq]); (try rfl); done)) | (clear RTN X; constructor <;> ((try simp_all only [sgn, if_true, if_false, not_true_eq_false, not_false_eq_true, and_self, true_and, and_true, false_and, and_false, or_true, true_or, or_false, false_or, reduceCtorEq, ne_eq]); (try rfl); done))
  · refine aw_bipush X dX11_signOf_11 cb_63 ?_
    refine aw_goto (tgt := 17) X dX11_signOf_13 rfl ?_
    refine RTN (some (.int _)) _ _ _ _ _ dX11_signOf_17 (⟨_, rfl⟩) (Nat.le_of_ble_eq_true rfl) (Nat.le_of_ble_eq_true rfl) ?_
    first | (constructor <;> ((try simp only [sgn, c8, if_true, if_false, not_true_eq_false, not_false_eq_true, and_self, true_and, and_true, false_and, and_false, or_true, true_or, or_false, false_or, reduceCtorEq, ne_eq]); (try rfl); done)) | (clear RTN X; constructor <;> ((try simp_all only [sgn, if_true, if_false, not_true_eq_false, not_false_eq_true, and_self, true_and, and_true, false_and, and_false, or_true, true_or, or_false, false_or, reduceCtorEq, ne_eq]); (try rfl); done))
set_option maxRecDepth 100000 in
set_option maxHeartbeats 4000000 in
theorem kX11_isReference (G : GG) (l : Launch) (q : Nat → Nat) (M : MS) (hq : mInj q) (r : Int32) (N : Int32) (hN : M.1 29 = N) : MC G l yX11_isReference cX11_isReference 2 ((Option.some .boolean)) ({ frames := 1, cells := 0, slots := 0, locals := 25 } : Room) [.ref (q 0), .int r] (mw G q M) (fun v w' => v = some (.int (bI (bt r 0 (N - 1).toInt = true))) ∧ w' = mw G q M) := by
  refine mc_bool (by decide) (Nat.le_of_ble_eq_true rfl) rfl rfl ?_
  intro p e s m args below meth c A H0 Q X hnm RTN
  have X : Cx G p s m args meth c A H0 cX11_isReference 2 RX11 := X
  refine aw_iload_n X dX11_isReference_0 rfl rfl ?_
  refine aw_i2l X dX11_isReference_1 ?_
  refine aw_lconst X dX11_isReference_2 cl_0 ?_
  refine aw_aload_n X dX11_isReference_3 rfl rfl ?_
  refine am_get X 29 (v := .int (M.1 29)) (Nat.le_of_ble_eq_true rfl) fl_X11_194 rfl rfl dX11_isReference_4 ?_
  refine aw_iconst X dX11_isReference_7 ci_1 ?_
  refine aw_isub X dX11_isReference_8 ?_
  refine aw_i2l X dX11_isReference_9 ?_
  refine aw_callS X (kX11_inI _ _ _ r 0 _ 0 ((M.1 29 - 1).toInt) rfl (i64_32 _)) okm_X11_in ml_X11_12 st_X11_in rfl rfl (Nat.le_of_ble_eq_true rfl) ⟨Nat.le_of_ble_eq_true rfl, Nat.le_of_ble_eq_true rfl, Nat.le_of_ble_eq_true rfl, Nat.le_of_ble_eq_true rfl⟩ dX11_isReference_10 (fun v w2 hp => ?_)
  obtain ⟨rfl, rfl⟩ := hp
  refine RTN (some (.int _)) _ _ _ _ _ dX11_isReference_13 (bI_ok) (Nat.le_of_ble_eq_true rfl) (Nat.le_of_ble_eq_true rfl) ?_
  exact ⟨by rw [hN], rfl⟩
