/-! streams -/
def st_get (f : Nat → Int32) : Bool := decide (f 1 = 2) || decide (f 1 = 3)
def st_nar (f : Nat → Int32) (c : Int32) : Int32 := if f 2 = 0 ∧ 255 < c then 63 else c
theorem i1n0' : ¬ (1 : Int32) = 0 := by decide
theorem fit_b {x : Int32} (h : x = 0 ∨ x = 1) : fits .boolean (.int x) = true := by
  rcases h with h | h <;> rw [h] <;> rfl
set_option maxRecDepth 100000 in
set_option maxHeartbeats 4000000 in
theorem kX9_mayGet (G : GG) (l : Launch) (w : WM) (b : Nat) (f : Nat → Int32) (ec xo : Option Nat) (hO : w b = some (sC f ec xo)) : MC G l yX9_mayGet cX9_mayGet 1 ((Option.some .boolean)) ({ frames := 0, cells := 0, slots := 0, locals := 0 } : Room) [.ref b] w (fun v w' => v = some (.int (bI (st_get f = true))) ∧ w' = w) := by
  refine mc_bool (by decide) (Nat.le_of_ble_eq_true rfl) rfl rfl ?_
  intro p e s m args below meth c A H0 Q X hnm RTN
  have X : Cx G p s m args meth c A H0 cX9_mayGet 1 RX9 := X
  refine aw_aload_n X dX9_mayGet_0 rfl rfl ?_
  refine aw_getS X (k := 1) hO (by decide) fl_X9_15 rfl dX9_mayGet_1 ?_
  refine aw_iconst X dX9_mayGet_4 ci_2 ?_
  refine aw_icmp_eq (tgt := 16) X dX9_mayGet_5 rfl (fun c5 => ?_) (fun c5 => ?_)
  · refine aw_iconst X dX9_mayGet_16 ci_1 ?_
    refine aw_goto (tgt := 21) X dX9_mayGet_17 rfl ?_
    refine RTN (some (.int _)) _ _ _ _ _ dX9_mayGet_21 (by first | exact Or.inl rfl | exact Or.inr rfl) (Nat.le_of_ble_eq_true rfl) (Nat.le_of_ble_eq_true rfl) ?_
    exact ⟨by rw [bI_b]; simp [st_get, b2, (eq_true c5)], rfl⟩
  · refine aw_aload_n X dX9_mayGet_8 rfl rfl ?_
    refine aw_getS X (k := 1) hO (by decide) fl_X9_15 rfl dX9_mayGet_9 ?_
    refine aw_iconst X dX9_mayGet_12 ci_3 ?_
    refine aw_icmp_ne (tgt := 20) X dX9_mayGet_13 rfl (fun c13 => ?_) (fun c13 => ?_)
    · refine aw_iconst X dX9_mayGet_20 ci_0 ?_
      refine RTN (some (.int _)) _ _ _ _ _ dX9_mayGet_21 (by first | exact Or.inl rfl | exact Or.inr rfl) (Nat.le_of_ble_eq_true rfl) (Nat.le_of_ble_eq_true rfl) ?_
      exact ⟨by rw [bI_b]; simp [st_get, b2, c5, c13], rfl⟩
    · refine aw_iconst X dX9_mayGet_16 ci_1 ?_
      refine aw_goto (tgt := 21) X dX9_mayGet_17 rfl ?_
      refine RTN (some (.int _)) _ _ _ _ _ dX9_mayGet_21 (by first | exact Or.inl rfl | exact Or.inr rfl) (Nat.le_of_ble_eq_true rfl) (Nat.le_of_ble_eq_true rfl) ?_
      exact ⟨by rw [bI_b]; simp [st_get, b2, c5, (eq_true c13)], rfl⟩
set_option maxRecDepth 100000 in
set_option maxHeartbeats 4000000 in
theorem kX9_narrowed (G : GG) (l : Launch) (w : WM) (b : Nat) (f : Nat → Int32) (ec xo : Option Nat) (hO : w b = some (sC f ec xo)) (c1 : Int32) : MC G l yX9_narrowed cX9_narrowed 2 ((Option.some .int)) ({ frames := 0, cells := 0, slots := 0, locals := 0 } : Room) [.ref b, .int c1] w (fun v w' => v = some (.int (st_nar f c1)) ∧ w' = w) := by
  refine mc_int (by decide) (Nat.le_of_ble_eq_true rfl) rfl rfl ?_
  intro p e s m args below meth c A H0 Q X hnm RTN
  have X : Cx G p s m args meth c A H0 cX9_narrowed 2 RX9 := X
  refine aw_aload_n X dX9_narrowed_0 rfl rfl ?_
  refine aw_getS X (k := 2) hO (by decide) fl_X9_18 rfl dX9_narrowed_1 ?_
  refine aw_if_ne (tgt := 14) X dX9_narrowed_4 rfl (fun c4 => ?_) (fun c4 => ?_)
  · refine aw_iload_n X dX9_narrowed_14 rfl rfl ?_
    refine aw_goto (tgt := 20) X dX9_narrowed_15 rfl ?_
    refine RTN (some (.int _)) _ _ _ _ _ dX9_narrowed_20 (⟨_, rfl⟩) (Nat.le_of_ble_eq_true rfl) (Nat.le_of_ble_eq_true rfl) ?_
    exact ⟨by unfold st_nar; (first | rw [if_neg (fun h => c4 h.1)] | rw [if_pos ⟨c4, c11⟩]), rfl⟩
  · refine aw_iload_n X dX9_narrowed_7 rfl rfl ?_
    refine aw_sipush X dX9_narrowed_8 cs_255 ?_
    refine aw_icmp_gt (tgt := 18) X dX9_narrowed_11 rfl (fun c11 => ?_) (fun c11 => ?_)
    · refine aw_bipush X dX9_narrowed_18 cb_63 ?_
      refine RTN (some (.int _)) _ _ _ _ _ dX9_narrowed_20 (⟨_, rfl⟩) (Nat.le_of_ble_eq_true rfl) (Nat.le_of_ble_eq_true rfl) ?_
      exact ⟨by unfold st_nar; (first | rw [if_neg (fun h => absurd h.2 c11)] | rw [if_pos ⟨c4, c11⟩]), rfl⟩
    · refine aw_iload_n X dX9_narrowed_14 rfl rfl ?_
      refine aw_goto (tgt := 20) X dX9_narrowed_15 rfl ?_
      refine RTN (some (.int _)) _ _ _ _ _ dX9_narrowed_20 (⟨_, rfl⟩) (Nat.le_of_ble_eq_true rfl) (Nat.le_of_ble_eq_true rfl) ?_
      exact ⟨by unfold st_nar; (first | rw [if_neg (fun h => absurd h.2 c11)] | rw [if_pos ⟨c4, c11⟩]), rfl⟩
set_option maxRecDepth 100000 in
set_option maxHeartbeats 4000000 in
theorem kX9_init_X5 (G : GG) (l : Launch) (w : WM) (b : Nat) (kd md wd : Int32) (hwd : wd = 0 ∨ wd = 1) (hO : w b = some (.inr (7, [.int 0, .int 0, .int 0, .int 0, .int 0, .int 0, .int 0, .null, .null, .int 0, .int 0]))) : MC G l yX9_init cX9_init 4 (none) ({ frames := 1, cells := 0, slots := 0, locals := 20 } : Room) [.ref b, .int kd, .int md, .int wd] w (fun v w' => v = none ∧ w' = wm_up w b (.inr (7, [.int kd, .int md, .int wd, .int 0, .int 0, .int 0, .int 0, .null, .null, .int 0, .int 0]))) := by
  refine mc_void (by decide) (Nat.le_of_ble_eq_true rfl) rfl rfl ?_
  intro p e s m args below meth c A H0 Q X hnm RTN
  have X : Cx G p s m args meth c A H0 cX9_init 4 RX9 := X
  have hin : meth.name = "<init>" := hnm
  refine aw_aload_n X dX9_init_0 rfl rfl ?_
  refine aw_objInit X ml_X9_3 im_obj cd_obj (Nat.le_of_ble_eq_true rfl) (Nat.le_of_ble_eq_true rfl) dX9_init_1 ?_
  refine aw_aload_n X dX9_init_4 rfl rfl ?_
  refine aw_iload_n X dX9_init_5 rfl rfl ?_
  refine aw_putF2 X hin okX5 (k := 0) (fs' := [.int kd, .int 0, .int 0, .int 0, .int 0, .int 0, .int 0, .null, .null, .int 0, .int 0]) hO (Nat.le_of_ble_eq_true rfl) fl_X9_9 (Or.inl rfl) rfl rfl (rfl ) ( rfl) (Nat.le_of_ble_eq_true rfl) rfl dX9_init_6 (fun w1 hk2 hn3 he4 => ?_)
  refine aw_aload_n X dX9_init_9 rfl rfl ?_
  refine aw_iload_n X dX9_init_10 rfl rfl ?_
  refine aw_putF2 X hin okX5 (k := 1) (fs' := [.int kd, .int md, .int 0, .int 0, .int 0, .int 0, .int 0, .null, .null, .int 0, .int 0]) hk2 (Nat.le_of_ble_eq_true rfl) fl_X9_15 (Or.inl rfl) rfl rfl (rfl ) ( rfl) (Nat.le_of_ble_eq_true rfl) rfl dX9_init_11 (fun w5 hk6 hn7 he8 => ?_)
  refine aw_aload_n X dX9_init_14 rfl rfl ?_
  refine aw_iload_n X dX9_init_15 rfl rfl ?_
  refine aw_putF2 X hin okX5 (k := 2) (fs' := [.int kd, .int md, .int wd, .int 0, .int 0, .int 0, .int 0, .null, .null, .int 0, .int 0]) hk6 (Nat.le_of_ble_eq_true rfl) fl_X9_18 (Or.inl rfl) rfl rfl (nar_b hwd ) ( fit_b hwd) (Nat.le_of_ble_eq_true rfl) rfl dX9_init_16 (fun w9 hk10 hn11 he12 => ?_)
  refine RTN (none) _ _ _ _ _ dX9_init_19 (rfl) (Nat.le_of_ble_eq_true rfl) (Nat.le_of_ble_eq_true rfl) ?_
  exact ⟨rfl, by rw [he12, he8, he4, wm_up_up, wm_up_up]⟩
set_option maxRecDepth 100000 in
set_option maxHeartbeats 4000000 in
theorem kX9_init_X3 (G : GG) (l : Launch) (w : WM) (b : Nat) (kd md wd : Int32) (hwd : wd = 0 ∨ wd = 1) (hO : w b = some (.inr (5, [.int 0, .int 0, .int 0, .int 0, .int 0, .int 0, .int 0, .null, .null, .int 0]))) : MC G l yX9_init cX9_init 4 (none) ({ frames := 1, cells := 0, slots := 0, locals := 20 } : Room) [.ref b, .int kd, .int md, .int wd] w (fun v w' => v = none ∧ w' = wm_up w b (.inr (5, [.int kd, .int md, .int wd, .int 0, .int 0, .int 0, .int 0, .null, .null, .int 0]))) := by
  refine mc_void (by decide) (Nat.le_of_ble_eq_true rfl) rfl rfl ?_
  intro p e s m args below meth c A H0 Q X hnm RTN
  have X : Cx G p s m args meth c A H0 cX9_init 4 RX9 := X
  have hin : meth.name = "<init>" := hnm
  refine aw_aload_n X dX9_init_0 rfl rfl ?_
  refine aw_objInit X ml_X9_3 im_obj cd_obj (Nat.le_of_ble_eq_true rfl) (Nat.le_of_ble_eq_true rfl) dX9_init_1 ?_
  refine aw_aload_n X dX9_init_4 rfl rfl ?_
  refine aw_iload_n X dX9_init_5 rfl rfl ?_
  refine aw_putF2 X hin okX3 (k := 0) (fs' := [.int kd, .int 0, .int 0, .int 0, .int 0, .int 0, .int 0, .null, .null, .int 0]) hO (Nat.le_of_ble_eq_true rfl) fl_X9_9 (Or.inl rfl) rfl rfl (rfl ) ( rfl) (Nat.le_of_ble_eq_true rfl) rfl dX9_init_6 (fun w13 hk14 hn15 he16 => ?_)
  refine aw_aload_n X dX9_init_9 rfl rfl ?_
  refine aw_iload_n X dX9_init_10 rfl rfl ?_
  refine aw_putF2 X hin okX3 (k := 1) (fs' := [.int kd, .int md, .int 0, .int 0, .int 0, .int 0, .int 0, .null, .null, .int 0]) hk14 (Nat.le_of_ble_eq_true rfl) fl_X9_15 (Or.inl rfl) rfl rfl (rfl ) ( rfl) (Nat.le_of_ble_eq_true rfl) rfl dX9_init_11 (fun w17 hk18 hn19 he20 => ?_)
  refine aw_aload_n X dX9_init_14 rfl rfl ?_
  refine aw_iload_n X dX9_init_15 rfl rfl ?_
  refine aw_putF2 X hin okX3 (k := 2) (fs' := [.int kd, .int md, .int wd, .int 0, .int 0, .int 0, .int 0, .null, .null, .int 0]) hk18 (Nat.le_of_ble_eq_true rfl) fl_X9_18 (Or.inl rfl) rfl rfl (nar_b hwd ) ( fit_b hwd) (Nat.le_of_ble_eq_true rfl) rfl dX9_init_16 (fun w21 hk22 hn23 he24 => ?_)
  refine RTN (none) _ _ _ _ _ dX9_init_19 (rfl) (Nat.le_of_ble_eq_true rfl) (Nat.le_of_ble_eq_true rfl) ?_
  exact ⟨rfl, by rw [he24, he20, he16, wm_up_up, wm_up_up]⟩
set_option maxRecDepth 100000 in
set_option maxHeartbeats 4000000 in
theorem kX9_init_X1 (G : GG) (l : Launch) (w : WM) (b : Nat) (kd md wd : Int32) (hwd : wd = 0 ∨ wd = 1) (hO : w b = some (.inr (3, [.int 0, .int 0, .int 0, .int 0, .int 0, .int 0, .int 0, .null, .null, .int 0]))) : MC G l yX9_init cX9_init 4 (none) ({ frames := 1, cells := 0, slots := 0, locals := 20 } : Room) [.ref b, .int kd, .int md, .int wd] w (fun v w' => v = none ∧ w' = wm_up w b (.inr (3, [.int kd, .int md, .int wd, .int 0, .int 0, .int 0, .int 0, .null, .null, .int 0]))) := by
  refine mc_void (by decide) (Nat.le_of_ble_eq_true rfl) rfl rfl ?_
  intro p e s m args below meth c A H0 Q X hnm RTN
  have X : Cx G p s m args meth c A H0 cX9_init 4 RX9 := X
  have hin : meth.name = "<init>" := hnm
  refine aw_aload_n X dX9_init_0 rfl rfl ?_
  refine aw_objInit X ml_X9_3 im_obj cd_obj (Nat.le_of_ble_eq_true rfl) (Nat.le_of_ble_eq_true rfl) dX9_init_1 ?_
  refine aw_aload_n X dX9_init_4 rfl rfl ?_
  refine aw_iload_n X dX9_init_5 rfl rfl ?_
  refine aw_putF2 X hin okX1 (k := 0) (fs' := [.int kd, .int 0, .int 0, .int 0, .int 0, .int 0, .int 0, .null, .null, .int 0]) hO (Nat.le_of_ble_eq_true rfl) fl_X9_9 (Or.inl rfl) rfl rfl (rfl ) ( rfl) (Nat.le_of_ble_eq_true rfl) rfl dX9_init_6 (fun w25 hk26 hn27 he28 => ?_)
  refine aw_aload_n X dX9_init_9 rfl rfl ?_
  refine aw_iload_n X dX9_init_10 rfl rfl ?_
  refine aw_putF2 X hin okX1 (k := 1) (fs' := [.int kd, .int md, .int 0, .int 0, .int 0, .int 0, .int 0, .null, .null, .int 0]) hk26 (Nat.le_of_ble_eq_true rfl) fl_X9_15 (Or.inl rfl) rfl rfl (rfl ) ( rfl) (Nat.le_of_ble_eq_true rfl) rfl dX9_init_11 (fun w29 hk30 hn31 he32 => ?_)
  refine aw_aload_n X dX9_init_14 rfl rfl ?_
  refine aw_iload_n X dX9_init_15 rfl rfl ?_
  refine aw_putF2 X hin okX1 (k := 2) (fs' := [.int kd, .int md, .int wd, .int 0, .int 0, .int 0, .int 0, .null, .null, .int 0]) hk30 (Nat.le_of_ble_eq_true rfl) fl_X9_18 (Or.inl rfl) rfl rfl (nar_b hwd ) ( fit_b hwd) (Nat.le_of_ble_eq_true rfl) rfl dX9_init_16 (fun w33 hk34 hn35 he36 => ?_)
  refine RTN (none) _ _ _ _ _ dX9_init_19 (rfl) (Nat.le_of_ble_eq_true rfl) (Nat.le_of_ble_eq_true rfl) ?_
  exact ⟨rfl, by rw [he36, he32, he28, wm_up_up, wm_up_up]⟩
set_option maxRecDepth 100000 in
set_option maxHeartbeats 4000000 in
theorem kX9_init_X7 (G : GG) (l : Launch) (w : WM) (b : Nat) (kd md wd : Int32) (hwd : wd = 0 ∨ wd = 1) (hO : w b = some (.inr (9, [.int 0, .int 0, .int 0, .int 0, .int 0, .int 0, .int 0, .null, .null]))) : MC G l yX9_init cX9_init 4 (none) ({ frames := 1, cells := 0, slots := 0, locals := 20 } : Room) [.ref b, .int kd, .int md, .int wd] w (fun v w' => v = none ∧ w' = wm_up w b (.inr (9, [.int kd, .int md, .int wd, .int 0, .int 0, .int 0, .int 0, .null, .null]))) := by
  refine mc_void (by decide) (Nat.le_of_ble_eq_true rfl) rfl rfl ?_
  intro p e s m args below meth c A H0 Q X hnm RTN
  have X : Cx G p s m args meth c A H0 cX9_init 4 RX9 := X
  have hin : meth.name = "<init>" := hnm
  refine aw_aload_n X dX9_init_0 rfl rfl ?_
  refine aw_objInit X ml_X9_3 im_obj cd_obj (Nat.le_of_ble_eq_true rfl) (Nat.le_of_ble_eq_true rfl) dX9_init_1 ?_
  refine aw_aload_n X dX9_init_4 rfl rfl ?_
  refine aw_iload_n X dX9_init_5 rfl rfl ?_
  refine aw_putF2 X hin okX7 (k := 0) (fs' := [.int kd, .int 0, .int 0, .int 0, .int 0, .int 0, .int 0, .null, .null]) hO (Nat.le_of_ble_eq_true rfl) fl_X9_9 (Or.inl rfl) rfl rfl (rfl ) ( rfl) (Nat.le_of_ble_eq_true rfl) rfl dX9_init_6 (fun w37 hk38 hn39 he40 => ?_)
  refine aw_aload_n X dX9_init_9 rfl rfl ?_
  refine aw_iload_n X dX9_init_10 rfl rfl ?_
  refine aw_putF2 X hin okX7 (k := 1) (fs' := [.int kd, .int md, .int 0, .int 0, .int 0, .int 0, .int 0, .null, .null]) hk38 (Nat.le_of_ble_eq_true rfl) fl_X9_15 (Or.inl rfl) rfl rfl (rfl ) ( rfl) (Nat.le_of_ble_eq_true rfl) rfl dX9_init_11 (fun w41 hk42 hn43 he44 => ?_)
  refine aw_aload_n X dX9_init_14 rfl rfl ?_
  refine aw_iload_n X dX9_init_15 rfl rfl ?_
  refine aw_putF2 X hin okX7 (k := 2) (fs' := [.int kd, .int md, .int wd, .int 0, .int 0, .int 0, .int 0, .null, .null]) hk42 (Nat.le_of_ble_eq_true rfl) fl_X9_18 (Or.inl rfl) rfl rfl (nar_b hwd ) ( fit_b hwd) (Nat.le_of_ble_eq_true rfl) rfl dX9_init_16 (fun w45 hk46 hn47 he48 => ?_)
  refine RTN (none) _ _ _ _ _ dX9_init_19 (rfl) (Nat.le_of_ble_eq_true rfl) (Nat.le_of_ble_eq_true rfl) ?_
  exact ⟨rfl, by rw [he48, he44, he40, wm_up_up, wm_up_up]⟩
set_option maxRecDepth 100000 in
set_option maxHeartbeats 4000000 in
theorem kX5_init (G : GG) (l : Launch) (w : WM) (b : Nat) (hO : w b = some (.inr (7, [.int 0, .int 0, .int 0, .int 0, .int 0, .int 0, .int 0, .null, .null, .int 0, .int 0]))) : MC G l yX5_init cX5_init 1 (none) ({ frames := 2, cells := 1, slots := 20, locals := 43 } : Room) [.ref b] w (fun v w' => v = none ∧ ∃ pa : Nat, w pa = none ∧ w' b = some (sC (fun k => if k = 1 then 1 else if k = 2 then 1 else 0) none (some pa)) ∧ w' pa = some (.inl (gA G 0, 20, .inl (fun _ => 0))) ∧ ∀ c, c ≠ b → c ≠ pa → w' c = w c) := by
  refine mc_void (by decide) (Nat.le_of_ble_eq_true rfl) rfl rfl ?_
  intro p e s m args below meth c A H0 Q X hnm RTN
  have X : Cx G p s m args meth c A H0 cX5_init 1 RX5 := X
  have hin : meth.name = "<init>" := hnm
  refine aw_aload_n X dX5_init_0 rfl rfl ?_
  refine aw_iconst X dX5_init_1 ci_0 ?_
  refine aw_iconst X dX5_init_2 ci_1 ?_
  refine aw_iconst X dX5_init_3 ci_1 ?_
  refine aw_callI X (kX9_init_X5 _ _ _ _ _ _ _ (Or.inr rfl) hO) okm_X9_init rfl ml_X5_3 im_X9_init rfl rfl (Nat.le_of_ble_eq_true rfl) ⟨Nat.le_of_ble_eq_true rfl, Nat.le_of_ble_eq_true rfl, Nat.le_of_ble_eq_true rfl, Nat.le_of_ble_eq_true rfl⟩ dX5_init_4 (fun v w2 hp => ?_)
  obtain ⟨rfl, hw49⟩ := hp
  have hk50 := (congrFun hw49 b).trans wm_ups
  refine aw_aload_n X dX5_init_7 rfl rfl ?_
  refine aw_bipush X dX5_init_8 cb_20 ?_
  refine aw_newi2 (n := 20) X (by decide) (by decide) (by decide) (Nat.le_of_ble_eq_true rfl) (Nat.le_of_ble_eq_true rfl) dX5_init_10 (fun q51 w52 hf53 hk54 hn55 he56 => ?_)
  have hk57 := (hn55 _ (ne_fr hk50 hf53)).trans hk50
  refine aw_putF2 X hin okX5 (k := 8) (fs' := [.int 0, .int 1, .int 1, .int 0, .int 0, .int 0, .int 0, .null, .ref q51, .int 0, .int 0]) hk57 (Nat.le_of_ble_eq_true rfl) fl_X5_9 (Or.inl rfl) rfl rfl (rfl ) ( rfl) (Nat.le_of_ble_eq_true rfl) rfl dX5_init_12 (fun w58 hk59 hn60 he61 => ?_)
  have hk62 := (hn60 _ (Ne.symm (ne_oa hk57 hk54))).trans hk54
  refine RTN (none) _ _ _ _ _ dX5_init_15 (rfl) (Nat.le_of_ble_eq_true rfl) (Nat.le_of_ble_eq_true rfl) ?_
  have hqb : b ≠ q51 := (ne_oa hk59 hk62)
  refine ⟨rfl, q51, by have h := hf53; rw [hw49, wm_upn (Ne.symm hqb)] at h; exact h, ?_, hk62, fun c h1 h2 => by rw [he61, wm_upn h1, he56, wm_upn h2, hw49, wm_upn h1]⟩
  rw [hk59]; rfl
set_option maxRecDepth 100000 in
set_option maxHeartbeats 4000000 in
theorem kX3_init0 (G : GG) (l : Launch) (w : WM) (b : Nat) (n md wd : Int32) (hwd : wd = 0 ∨ wd = 1) (hO : w b = some (.inr (5, [.int 0, .int 0, .int 0, .int 0, .int 0, .int 0, .int 0, .null, .null, .int 0]))) : MC G l yX3_init cX3_init 5 (none) ({ frames := 2, cells := 0, slots := 0, locals := 43 } : Room) [.ref b, .null, .int n, .int md, .int wd] w (fun v w' => v = none ∧ w' = wm_up w b (sC (fun k => if k = 0 then 1 else if k = 1 then md else if k = 2 then wd else if k = 9 then n else 0) none none)) := by
  refine mc_void (by decide) (Nat.le_of_ble_eq_true rfl) rfl rfl ?_
  intro p e s m args below meth c A H0 Q X hnm RTN
  have X : Cx G p s m args meth c A H0 cX3_init 5 RX3 := X
  have hin : meth.name = "<init>" := hnm
  refine aw_aload_n X dX3_init_0 rfl rfl ?_
  refine aw_iconst X dX3_init_1 ci_1 ?_
  refine aw_iload_n X dX3_init_2 rfl rfl ?_
  refine aw_iload X dX3_init_3 rfl ?_
  refine aw_callI X (kX9_init_X3 _ _ _ _ _ _ _ hwd hO) okm_X9_init rfl ml_X3_3 im_X9_init rfl rfl (Nat.le_of_ble_eq_true rfl) ⟨Nat.le_of_ble_eq_true rfl, Nat.le_of_ble_eq_true rfl, Nat.le_of_ble_eq_true rfl, Nat.le_of_ble_eq_true rfl⟩ dX3_init_5 (fun v w2 hp => ?_)
  obtain ⟨rfl, hw63⟩ := hp
  have hk64 := (congrFun hw63 b).trans wm_ups
  refine aw_aload_n X dX3_init_8 rfl rfl ?_
  refine aw_aload_nN X dX3_init_9 rfl rfl ?_
  refine aw_putF2 X hin okX3 (k := 8) (fs' := [.int 1, .int md, .int wd, .int 0, .int 0, .int 0, .int 0, .null, .null, .int 0]) hk64 (Nat.le_of_ble_eq_true rfl) fl_X3_9 (Or.inl rfl) rfl rfl (rfl ) ( rfl) (Nat.le_of_ble_eq_true rfl) rfl dX3_init_10 (fun w65 hk66 hn67 he68 => ?_)
  refine aw_aload_n X dX3_init_13 rfl rfl ?_
  refine aw_iload_n X dX3_init_14 rfl rfl ?_
  refine aw_putF2 X hin okX3 (k := 9) (fs' := [.int 1, .int md, .int wd, .int 0, .int 0, .int 0, .int 0, .null, .null, .int n]) hk66 (Nat.le_of_ble_eq_true rfl) fl_X3_15 (Or.inl rfl) rfl rfl (rfl ) ( rfl) (Nat.le_of_ble_eq_true rfl) rfl dX3_init_15 (fun w69 hk70 hn71 he72 => ?_)
  refine RTN (none) _ _ _ _ _ dX3_init_18 (rfl) (Nat.le_of_ble_eq_true rfl) (Nat.le_of_ble_eq_true rfl) ?_
  exact ⟨rfl, by rw [he72, he68, hw63, wm_up_up, wm_up_up]; rfl⟩
set_option maxRecDepth 100000 in
set_option maxHeartbeats 4000000 in
theorem kX3_init (G : GG) (l : Launch) (w : WM) (b ia : Nat) (n md wd : Int32) (hwd : wd = 0 ∨ wd = 1) (hO : w b = some (.inr (5, [.int 0, .int 0, .int 0, .int 0, .int 0, .int 0, .int 0, .null, .null, .int 0]))) : MC G l yX3_init cX3_init 5 (none) ({ frames := 2, cells := 0, slots := 0, locals := 43 } : Room) [.ref b, .ref ia, .int n, .int md, .int wd] w (fun v w' => v = none ∧ w' = wm_up w b (sC (fun k => if k = 0 then 1 else if k = 1 then md else if k = 2 then wd else if k = 9 then n else 0) none (some ia))) := by
  refine mc_void (by decide) (Nat.le_of_ble_eq_true rfl) rfl rfl ?_
  intro p e s m args below meth c A H0 Q X hnm RTN
  have X : Cx G p s m args meth c A H0 cX3_init 5 RX3 := X
  have hin : meth.name = "<init>" := hnm
  refine aw_aload_n X dX3_init_0 rfl rfl ?_
  refine aw_iconst X dX3_init_1 ci_1 ?_
  refine aw_iload_n X dX3_init_2 rfl rfl ?_
  refine aw_iload X dX3_init_3 rfl ?_
  refine aw_callI X (kX9_init_X3 _ _ _ _ _ _ _ hwd hO) okm_X9_init rfl ml_X3_3 im_X9_init rfl rfl (Nat.le_of_ble_eq_true rfl) ⟨Nat.le_of_ble_eq_true rfl, Nat.le_of_ble_eq_true rfl, Nat.le_of_ble_eq_true rfl, Nat.le_of_ble_eq_true rfl⟩ dX3_init_5 (fun v w2 hp => ?_)
  obtain ⟨rfl, hw73⟩ := hp
  have hk74 := (congrFun hw73 b).trans wm_ups
  refine aw_aload_n X dX3_init_8 rfl rfl ?_
  refine aw_aload_n X dX3_init_9 rfl rfl ?_
  refine aw_putF2 X hin okX3 (k := 8) (fs' := [.int 1, .int md, .int wd, .int 0, .int 0, .int 0, .int 0, .null, .ref ia, .int 0]) hk74 (Nat.le_of_ble_eq_true rfl) fl_X3_9 (Or.inl rfl) rfl rfl (rfl ) ( rfl) (Nat.le_of_ble_eq_true rfl) rfl dX3_init_10 (fun w75 hk76 hn77 he78 => ?_)
  refine aw_aload_n X dX3_init_13 rfl rfl ?_
  refine aw_iload_n X dX3_init_14 rfl rfl ?_
  refine aw_putF2 X hin okX3 (k := 9) (fs' := [.int 1, .int md, .int wd, .int 0, .int 0, .int 0, .int 0, .null, .ref ia, .int n]) hk76 (Nat.le_of_ble_eq_true rfl) fl_X3_15 (Or.inl rfl) rfl rfl (rfl ) ( rfl) (Nat.le_of_ble_eq_true rfl) rfl dX3_init_15 (fun w79 hk80 hn81 he82 => ?_)
  refine RTN (none) _ _ _ _ _ dX3_init_18 (rfl) (Nat.le_of_ble_eq_true rfl) (Nat.le_of_ble_eq_true rfl) ?_
  exact ⟨rfl, by rw [he82, he78, hw73, wm_up_up, wm_up_up]; rfl⟩
set_option maxRecDepth 100000 in
set_option maxHeartbeats 4000000 in
theorem kX7_init (G : GG) (l : Launch) (w : WM) (b it : Nat) (wd : Int32) (hwd : wd = 0 ∨ wd = 1) (hO : w b = some (.inr (9, [.int 0, .int 0, .int 0, .int 0, .int 0, .int 0, .int 0, .null, .null]))) : MC G l yX7_init cX7_init 3 (none) ({ frames := 2, cells := 0, slots := 0, locals := 43 } : Room) [.ref b, .ref it, .int wd] w (fun v w' => v = none ∧ w' = wm_up w b (sC (fun k => if k = 0 then 3 else if k = 1 then 2 else if k = 2 then wd else 0) none (some it))) := by
  refine mc_void (by decide) (Nat.le_of_ble_eq_true rfl) rfl rfl ?_
  intro p e s m args below meth c A H0 Q X hnm RTN
  have X : Cx G p s m args meth c A H0 cX7_init 3 RX7 := X
  have hin : meth.name = "<init>" := hnm
  refine aw_aload_n X dX7_init_0 rfl rfl ?_
  refine aw_iconst X dX7_init_1 ci_3 ?_
  refine aw_iconst X dX7_init_2 ci_2 ?_
  refine aw_iload_n X dX7_init_3 rfl rfl ?_
  refine aw_callI X (kX9_init_X7 _ _ _ _ _ _ _ hwd hO) okm_X9_init rfl ml_X7_3 im_X9_init rfl rfl (Nat.le_of_ble_eq_true rfl) ⟨Nat.le_of_ble_eq_true rfl, Nat.le_of_ble_eq_true rfl, Nat.le_of_ble_eq_true rfl, Nat.le_of_ble_eq_true rfl⟩ dX7_init_4 (fun v w2 hp => ?_)
  obtain ⟨rfl, hw83⟩ := hp
  have hk84 := (congrFun hw83 b).trans wm_ups
  refine aw_aload_n X dX7_init_7 rfl rfl ?_
  refine aw_aload_n X dX7_init_8 rfl rfl ?_
  refine aw_putF2 X hin okX7 (k := 8) (fs' := [.int 3, .int 2, .int wd, .int 0, .int 0, .int 0, .int 0, .null, .ref it]) hk84 (Nat.le_of_ble_eq_true rfl) fl_X7_9 (Or.inl rfl) rfl rfl (rfl ) ( rfl) (Nat.le_of_ble_eq_true rfl) rfl dX7_init_9 (fun w85 hk86 hn87 he88 => ?_)
  refine RTN (none) _ _ _ _ _ dX7_init_12 (rfl) (Nat.le_of_ble_eq_true rfl) (Nat.le_of_ble_eq_true rfl) ?_
  exact ⟨rfl, by rw [he88, hw83, wm_up_up]; rfl⟩
set_option maxRecDepth 100000 in
set_option maxHeartbeats 4000000 in
theorem kX5_end (G : GG) (l : Launch) (w : WM) (b : Nat) : MC G l yX5_end cX5_end 1 ((Option.some .int)) ({ frames := 0, cells := 0, slots := 0, locals := 0 } : Room) [.ref b] w (fun v w' => v = some (.int 0) ∧ w' = w) := by
  refine mc_int (by decide) (Nat.le_of_ble_eq_true rfl) rfl rfl ?_
  intro p e s m args below meth c A H0 Q X hnm RTN
  have X : Cx G p s m args meth c A H0 cX5_end 1 RX5 := X
  refine aw_iconst X dX5_end_0 ci_0 ?_
  refine RTN (some (.int _)) _ _ _ _ _ dX5_end_1 (⟨_, rfl⟩) (Nat.le_of_ble_eq_true rfl) (Nat.le_of_ble_eq_true rfl) ?_
  exact ⟨rfl, rfl⟩
set_option maxRecDepth 100000 in
set_option maxHeartbeats 4000000 in
theorem kX5_read (G : GG) (l : Launch) (w : WM) (b : Nat) : MC G l yX5_read cX5_read 1 ((Option.some .int)) ({ frames := 0, cells := 0, slots := 0, locals := 0 } : Room) [.ref b] w (fun v w' => v = some (.int (-1)) ∧ w' = w) := by
  refine mc_int (by decide) (Nat.le_of_ble_eq_true rfl) rfl rfl ?_
  intro p e s m args below meth c A H0 Q X hnm RTN
  have X : Cx G p s m args meth c A H0 cX5_read 1 RX5 := X
  refine aw_iconst X dX5_read_0 ci_m1 ?_
  refine RTN (some (.int _)) _ _ _ _ _ dX5_read_1 (⟨_, rfl⟩) (Nat.le_of_ble_eq_true rfl) (Nat.le_of_ble_eq_true rfl) ?_
  exact ⟨rfl, rfl⟩
set_option maxRecDepth 100000 in
set_option maxHeartbeats 4000000 in
theorem kX7_write (G : GG) (l : Launch) (w : WM) (b : Nat) (c1 : Int32) : MC G l yX7_write cX7_write 2 ((Option.some .int)) ({ frames := 0, cells := 0, slots := 0, locals := 0 } : Room) [.ref b, .int c1] w (fun v w' => v = some (.int (-4)) ∧ w' = w) := by
  refine mc_int (by decide) (Nat.le_of_ble_eq_true rfl) rfl rfl ?_
  intro p e s m args below meth c A H0 Q X hnm RTN
  have X : Cx G p s m args meth c A H0 cX7_write 2 RX7 := X
  refine aw_bipush X dX7_write_0 cb_m4 ?_
  refine RTN (some (.int _)) _ _ _ _ _ dX7_write_2 (⟨_, rfl⟩) (Nat.le_of_ble_eq_true rfl) (Nat.le_of_ble_eq_true rfl) ?_
  exact ⟨rfl, rfl⟩
theorem sC_5 {f f' : Nat → Int32} {e x : Option Nat} (h : f 0 = 0) (h' : f' 0 = 0) {l : List Value} (hl : l = sH f' e ++ [va_rf x, .int (f' 9), .int (f' 10)]) : (.inr (7, l) : va_E) = sC f' e x := by rw [sC_0 h', hl]
set_option maxRecDepth 100000 in
set_option maxHeartbeats 4000000 in
theorem kX5_write (G : GG) (l : Launch) (w : WM) (b : Nat) (f : Nat → Int32) (ec : Option Nat) (xa : Nat) (hk : f 0 = 0) (hO0 : w b = some (sC f ec (some xa))) (g : Nat → Int32) (hV : w xa = some (.inl (gA G 0, 20, .inl g))) (h9 : bt (f 9) 0 19) (c1 : Int32) : MC G l yX5_write cX5_write 2 ((Option.some .int)) ({ frames := 1, cells := 0, slots := 0, locals := 21 } : Room) [.ref b, .int c1] w (fun v w' => v = some (.int 1) ∧ w' b = some (sC (upd (upd f 9 (f 9 + 1 - (f 9 + 1) / 20 * 20)) 10 (if 20 < f 10 + 1 then 20 else f 10 + 1)) ec (some xa)) ∧ w' xa = some (.inl (gA G 0, 20, .inl (upd g (f 9).toNatClampNeg c1))) ∧ ∀ c, c ≠ b → c ≠ xa → w' c = w c) := by
  refine mc_int (by decide) (Nat.le_of_ble_eq_true rfl) rfl rfl ?_
  intro p e s m args below meth c A H0 Q X hnm RTN
  have X : Cx G p s m args meth c A H0 cX5_write 2 RX5 := X
  have hO : w b = some (.inr (7, [.int (f 0), .int (f 1), .int (f 2), .int (f 3), .int (f 4), .int (f 5), .int (f 6), va_rf ec, .ref xa, .int (f 9), .int (f 10)])) := by rw [hO0, sC_0 hk]; rfl
  refine aw_aload_n X dX5_write_0 rfl rfl ?_
  refine aw_get X okX5 (k := 8) hO (Nat.le_of_ble_eq_true rfl) fl_X5_9 (Or.inl rfl) rfl dX5_write_1 ?_
  refine aw_aload_n X dX5_write_4 rfl rfl ?_
  refine aw_get X okX5 (k := 9) hO (Nat.le_of_ble_eq_true rfl) fl_X5_15 (Or.inl rfl) rfl dX5_write_5 ?_
  refine aw_iload_n X dX5_write_8 rfl rfl ?_
  refine aw_iast2 X hV (bt_vp h9 (by decide) (by decide)) dX5_write_9 (fun w89 hk90 hn91 he92 => ?_)
  have hk93 := (hn91 _ (ne_oa hO hV)).trans hO
  refine aw_aload_n X dX5_write_10 rfl rfl ?_
  refine aw_aload_n X dX5_write_11 rfl rfl ?_
  refine aw_get X okX5 (k := 9) hk93 (Nat.le_of_ble_eq_true rfl) fl_X5_15 (Or.inl rfl) rfl dX5_write_12 ?_
  refine aw_iconst X dX5_write_15 ci_1 ?_
  refine aw_iadd X dX5_write_16 ?_
  refine aw_bipush X dX5_write_17 cb_20 ?_
  refine aw_irem X dX5_write_19 (by decide) ?_
  refine aw_put2 X okX5 (k := 9) (fs' := [.int (f 0), .int (f 1), .int (f 2), .int (f 3), .int (f 4), .int (f 5), .int (f 6), va_rf ec, .ref xa, .int (((f 9) + 1) - ((f 9) + 1) / 20 * 20), .int (f 10)]) hk93 (Nat.le_of_ble_eq_true rfl) fl_X5_15 (Or.inl rfl) rfl (rfl ) ( rfl) (Nat.le_of_ble_eq_true rfl) rfl dX5_write_20 (fun w94 hk95 hn96 he97 => ?_)
  have hk98 := (hn96 _ (Ne.symm (ne_oa hk93 hk90))).trans hk90
  refine aw_aload_n X dX5_write_23 rfl rfl ?_
  refine aw_aload_n X dX5_write_24 rfl rfl ?_
  refine aw_get X okX5 (k := 10) hk95 (Nat.le_of_ble_eq_true rfl) fl_X5_19 (Or.inl rfl) rfl dX5_write_25 ?_
  refine aw_iconst X dX5_write_28 ci_1 ?_
  refine aw_iadd X dX5_write_29 ?_
  refine aw_bipush X dX5_write_30 cb_20 ?_
  refine aw_callS X (kJ9_min_7cf53 _ _ _ _ _) okm_J9_min_7cf53 ml_X5_22 st_J9_min_7cf53 rfl rfl (Nat.le_of_ble_eq_true rfl) ⟨Nat.le_of_ble_eq_true rfl, Nat.le_of_ble_eq_true rfl, Nat.le_of_ble_eq_true rfl, Nat.le_of_ble_eq_true rfl⟩ dX5_write_32 (fun v w2 hp => ?_)
  obtain ⟨rfl, hw9⟩ := hp
  have hw9 := hw9.symm
  subst hw9
  refine aw_put2 X okX5 (k := 10) (fs' := [.int (f 0), .int (f 1), .int (f 2), .int (f 3), .int (f 4), .int (f 5), .int (f 6), va_rf ec, .ref xa, .int (((f 9) + 1) - ((f 9) + 1) / 20 * 20), .int (if 20 < ((f 10) + 1) then 20 else ((f 10) + 1))]) hk95 (Nat.le_of_ble_eq_true rfl) fl_X5_19 (Or.inl rfl) rfl (rfl ) ( rfl) (Nat.le_of_ble_eq_true rfl) rfl dX5_write_35 (fun w99 hk100 hn101 he102 => ?_)
  have hk103 := (hn101 _ (Ne.symm (ne_oa hk95 hk98))).trans hk98
  refine aw_iconst X dX5_write_38 ci_1 ?_
  refine RTN (some (.int _)) _ _ _ _ _ dX5_write_39 (⟨_, rfl⟩) (Nat.le_of_ble_eq_true rfl) (Nat.le_of_ble_eq_true rfl) ?_
  refine ⟨rfl, ?_, hk103, fun c h1 h2 => by rw [he102, wm_upn h1, he97, wm_upn h1, he92, wm_upn h2]⟩
  rw [hk100]; exact congrArg some (sC_5 hk (by show f 0 = 0; exact hk) rfl)
theorem pl_ix {n k i : Int32} (h9 : bt n 0 19) (h10 : bt k 0 20) (h0 : ¬ i < 0) (h1 : i < k) : bt (n - 1 - i + 20 - (n - 1 - i + 20) / 20 * 20) 0 19 := by
  have a9 := bt_iff.mp h9
  have a10 := bt_iff.mp h10
  rw [i32_lt] at h0 h1
  have e0 : (0 : Int32).toInt = 0 := rfl
  have t1 := ti_sub (a := n) (b := 1) (y := 1) rfl rfl (by omega)
  have t2 := ti_sub (a := n - 1) (b := i) t1 rfl (by omega)
  have t3 := ti_add (a := n - 1 - i) (b := 20) (y := 20) t2 rfl (by omega)
  have t4 : ((n - 1 - i + 20) / 20).toInt = (n.toInt - 1 - i.toInt + 20) / 20 := by
    rw [Int32.toInt_div, t3]
    have e20 : (20 : Int32).toInt = 20 := rfl
    rw [e20, Int.tdiv_eq_ediv_of_nonneg (by omega)]
    exact Int.bmod_eq_of_le (by omega) (by omega)
  have t5 := ti_mul (b := 20) (y := 20) t4 rfl (by omega)
  have t6 := ti_sub t3 t5 (by omega)
  exact bt_iff.mpr ⟨by omega, by omega⟩
set_option maxRecDepth 100000 in
set_option maxHeartbeats 4000000 in
theorem kX5_latest (G : GG) (l : Launch) (w : WM) (b : Nat) (f : Nat → Int32) (ec : Option Nat) (xa : Nat) (hk : f 0 = 0) (hO0 : w b = some (sC f ec (some xa))) (g : Nat → Int32) (hV : w xa = some (.inl (gA G 0, 20, .inl g))) (h9 : bt (f 9) 0 19) (h10 : bt (f 10) 0 20) (i1 : Int32) : MC G l yX5_latest cX5_latest 2 ((Option.some .int)) ({ frames := 0, cells := 0, slots := 0, locals := 0 } : Room) [.ref b, .int i1] w (fun v w' => v = some (.int (if i1 < 0 ∨ f 10 ≤ i1 then (-1) else g (f 9 - 1 - i1 + 20 - (f 9 - 1 - i1 + 20) / 20 * 20).toNatClampNeg)) ∧ w' = w) := by
  refine mc_int (by decide) (Nat.le_of_ble_eq_true rfl) rfl rfl ?_
  intro p e s m args below meth c A H0 Q X hnm RTN
  have X : Cx G p s m args meth c A H0 cX5_latest 2 RX5 := X
  have hO : w b = some (.inr (7, [.int (f 0), .int (f 1), .int (f 2), .int (f 3), .int (f 4), .int (f 5), .int (f 6), va_rf ec, .ref xa, .int (f 9), .int (f 10)])) := by rw [hO0, sC_0 hk]; rfl
  refine aw_iload_n X dX5_latest_0 rfl rfl ?_
  refine aw_if_lt (tgt := 12) X dX5_latest_1 rfl (fun c1 => ?_) (fun c1 => ?_)
  · refine aw_iconst X dX5_latest_12 ci_m1 ?_
    refine RTN (some (.int _)) _ _ _ _ _ dX5_latest_13 (⟨_, rfl⟩) (Nat.le_of_ble_eq_true rfl) (Nat.le_of_ble_eq_true rfl) ?_
    exact ⟨by rw [if_pos (Or.inl c1)], rfl⟩
  · refine aw_iload_n X dX5_latest_4 rfl rfl ?_
    refine aw_aload_n X dX5_latest_5 rfl rfl ?_
    refine aw_get X okX5 (k := 10) hO (Nat.le_of_ble_eq_true rfl) fl_X5_19 (Or.inl rfl) rfl dX5_latest_6 ?_
    refine aw_icmp_lt (tgt := 14) X dX5_latest_9 rfl (fun c9 => ?_) (fun c9 => ?_)
    · refine aw_aload_n X dX5_latest_14 rfl rfl ?_
      refine aw_get X okX5 (k := 8) hO (Nat.le_of_ble_eq_true rfl) fl_X5_9 (Or.inl rfl) rfl dX5_latest_15 ?_
      refine aw_aload_n X dX5_latest_18 rfl rfl ?_
      refine aw_get X okX5 (k := 9) hO (Nat.le_of_ble_eq_true rfl) fl_X5_15 (Or.inl rfl) rfl dX5_latest_19 ?_
      refine aw_iconst X dX5_latest_22 ci_1 ?_
      refine aw_isub X dX5_latest_23 ?_
      refine aw_iload_n X dX5_latest_24 rfl rfl ?_
      refine aw_isub X dX5_latest_25 ?_
      refine aw_bipush X dX5_latest_26 cb_20 ?_
      refine aw_iadd X dX5_latest_28 ?_
      refine aw_bipush X dX5_latest_29 cb_20 ?_
      refine aw_irem X dX5_latest_31 (by decide) ?_
      refine aw_iald X hV (bt_vp (pl_ix h9 h10 c1 c9) (by decide) (by decide)) dX5_latest_32 ?_
      refine RTN (some (.int _)) _ _ _ _ _ dX5_latest_33 (⟨_, rfl⟩) (Nat.le_of_ble_eq_true rfl) (Nat.le_of_ble_eq_true rfl) ?_
      exact ⟨by rw [if_neg (fun h => h.elim c1 (fun z => absurd c9 (Int32.not_lt.mpr z)))], rfl⟩
    · refine aw_iconst X dX5_latest_12 ci_m1 ?_
      refine RTN (some (.int _)) _ _ _ _ _ dX5_latest_13 (⟨_, rfl⟩) (Nat.le_of_ble_eq_true rfl) (Nat.le_of_ble_eq_true rfl) ?_
      exact ⟨by rw [if_pos (Or.inr (Int32.not_lt.mp c9))], rfl⟩
set_option maxRecDepth 100000 in
set_option maxHeartbeats 4000000 in
theorem kX3_end (G : GG) (l : Launch) (w : WM) (b : Nat) (f : Nat → Int32) (ec : Option Nat) (xo : Option Nat) (hk : f 0 = 1) (hO0 : w b = some (sC f ec xo)) : MC G l yX3_end cX3_end 1 ((Option.some .int)) ({ frames := 0, cells := 0, slots := 0, locals := 0 } : Room) [.ref b] w (fun v w' => v = some (.int (f 9)) ∧ w' = w) := by
  refine mc_int (by decide) (Nat.le_of_ble_eq_true rfl) rfl rfl ?_
  intro p e s m args below meth c A H0 Q X hnm RTN
  have X : Cx G p s m args meth c A H0 cX3_end 1 RX3 := X
  have hO : w b = some (.inr (5, [.int (f 0), .int (f 1), .int (f 2), .int (f 3), .int (f 4), .int (f 5), .int (f 6), va_rf ec, va_rf xo, .int (f 9)])) := by rw [hO0, sC_1 hk]; rfl
  refine aw_aload_n X dX3_end_0 rfl rfl ?_
  refine aw_get X okX3 (k := 9) hO (Nat.le_of_ble_eq_true rfl) fl_X3_15 (Or.inl rfl) rfl dX3_end_1 ?_
  refine RTN (some (.int _)) _ _ _ _ _ dX3_end_4 (⟨_, rfl⟩) (Nat.le_of_ble_eq_true rfl) (Nat.le_of_ble_eq_true rfl) ?_
  exact ⟨rfl, rfl⟩
set_option maxRecDepth 100000 in
set_option maxHeartbeats 4000000 in
theorem kX3_faultHere (G : GG) (l : Launch) (w : WM) (b : Nat) (f : Nat → Int32) (ec : Option Nat) (xa : Nat) (hk : f 0 = 1) (hO0 : w b = some (sC f ec (some xa))) (va n : Nat) (so : Int32) (g : Nat → Int32) (hn : n ≤ 40) (hI : w xa = some (.inr (4, [.int so, .ref va]))) (hV : w va = some (.inl (gA G 0, n, .inl g))) : MC G l yX3_faultHere cX3_faultHere 1 ((Option.some .int)) ({ frames := 2, cells := 0, slots := 0, locals := 43 } : Room) [.ref b] w (fun v w' => v = some (.int (it_fault so n (if f 2 = 0 then 1 else 2) (f 4))) ∧ w' = w) := by
  refine mc_int (by decide) (Nat.le_of_ble_eq_true rfl) rfl rfl ?_
  intro p e s m args below meth c A H0 Q X hnm RTN
  have X : Cx G p s m args meth c A H0 cX3_faultHere 1 RX3 := X
  have hO : w b = some (.inr (5, [.int (f 0), .int (f 1), .int (f 2), .int (f 3), .int (f 4), .int (f 5), .int (f 6), va_rf ec, .ref xa, .int (f 9)])) := by rw [hO0, sC_1 hk]; rfl
  refine aw_aload_n X dX3_faultHere_0 rfl rfl ?_
  refine aw_get X okX3 (k := 8) hO (Nat.le_of_ble_eq_true rfl) fl_X3_9 (Or.inl rfl) rfl dX3_faultHere_1 ?_
  refine aw_aload_n X dX3_faultHere_4 rfl rfl ?_
  refine aw_get X okX3 (k := 2) hO (Nat.le_of_ble_eq_true rfl) fl_X3_32 (Or.inr sf_X3_wide) rfl dX3_faultHere_5 ?_
  refine aw_if_eq (tgt := 15) X dX3_faultHere_8 rfl (fun c8 => ?_) (fun c8 => ?_)
  · refine aw_iconst X dX3_faultHere_15 ci_1 ?_
    refine aw_aload_n X dX3_faultHere_16 rfl rfl ?_
    refine aw_get X okX3 (k := 4) hO (Nat.le_of_ble_eq_true rfl) fl_X3_19 (Or.inr sf_X3_place) rfl dX3_faultHere_17 ?_
    refine aw_callSN X (kX10_faultAt _ _ _ _ _ _ _ _ hI hV _ _) okm_X10_faultAt mn_X3_40 st_X10_faultAt rfl rfl (Nat.le_of_ble_eq_true rfl) ⟨Nat.le_of_ble_eq_true rfl, Nat.le_of_ble_eq_true rfl, Nat.le_of_ble_eq_true rfl, Nat.le_of_ble_eq_true rfl⟩ dX3_faultHere_20 (fun v w2 hp => ?_)
    obtain ⟨rfl, hw9⟩ := hp
    have hw9 := hw9.symm
    subst hw9
    refine RTN (some (.int _)) _ _ _ _ _ dX3_faultHere_23 (⟨_, rfl⟩) (Nat.le_of_ble_eq_true rfl) (Nat.le_of_ble_eq_true rfl) ?_
    exact ⟨by rw [if_pos c8], rfl⟩
  · refine aw_iconst X dX3_faultHere_11 ci_2 ?_
    refine aw_goto (tgt := 16) X dX3_faultHere_12 rfl ?_
    refine aw_aload_n X dX3_faultHere_16 rfl rfl ?_
    refine aw_get X okX3 (k := 4) hO (Nat.le_of_ble_eq_true rfl) fl_X3_19 (Or.inr sf_X3_place) rfl dX3_faultHere_17 ?_
    refine aw_callSN X (kX10_faultAt _ _ _ _ _ _ _ _ hI hV _ _) okm_X10_faultAt mn_X3_40 st_X10_faultAt rfl rfl (Nat.le_of_ble_eq_true rfl) ⟨Nat.le_of_ble_eq_true rfl, Nat.le_of_ble_eq_true rfl, Nat.le_of_ble_eq_true rfl, Nat.le_of_ble_eq_true rfl⟩ dX3_faultHere_20 (fun v w2 hp => ?_)
    obtain ⟨rfl, hw9⟩ := hp
    have hw9 := hw9.symm
    subst hw9
    refine RTN (some (.int _)) _ _ _ _ _ dX3_faultHere_23 (⟨_, rfl⟩) (Nat.le_of_ble_eq_true rfl) (Nat.le_of_ble_eq_true rfl) ?_
    exact ⟨by rw [if_neg c8], rfl⟩
set_option maxRecDepth 100000 in
set_option maxHeartbeats 4000000 in
theorem kX3_faultHere0 (G : GG) (l : Launch) (w : WM) (b : Nat) (f : Nat → Int32) (ec : Option Nat)  (hk : f 0 = 1) (hO0 : w b = some (sC f ec none)) : MC G l yX3_faultHere cX3_faultHere 1 ((Option.some .int)) ({ frames := 2, cells := 0, slots := 0, locals := 43 } : Room) [.ref b] w (fun v w' => v = some (.int 1) ∧ w' = w) := by
  refine mc_int (by decide) (Nat.le_of_ble_eq_true rfl) rfl rfl ?_
  intro p e s m args below meth c A H0 Q X hnm RTN
  have X : Cx G p s m args meth c A H0 cX3_faultHere 1 RX3 := X
  have hO : w b = some (.inr (5, [.int (f 0), .int (f 1), .int (f 2), .int (f 3), .int (f 4), .int (f 5), .int (f 6), va_rf ec, .null, .int (f 9)])) := by rw [hO0, sC_1 hk]; rfl
  refine aw_aload_n X dX3_faultHere_0 rfl rfl ?_
  refine aw_get X okX3 (k := 8) hO (Nat.le_of_ble_eq_true rfl) fl_X3_9 (Or.inl rfl) rfl dX3_faultHere_1 ?_
  refine aw_aload_n X dX3_faultHere_4 rfl rfl ?_
  refine aw_get X okX3 (k := 2) hO (Nat.le_of_ble_eq_true rfl) fl_X3_32 (Or.inr sf_X3_wide) rfl dX3_faultHere_5 ?_
  refine aw_if_eq (tgt := 15) X dX3_faultHere_8 rfl (fun c8 => ?_) (fun c8 => ?_)
  · refine aw_iconst X dX3_faultHere_15 ci_1 ?_
    refine aw_aload_n X dX3_faultHere_16 rfl rfl ?_
    refine aw_get X okX3 (k := 4) hO (Nat.le_of_ble_eq_true rfl) fl_X3_19 (Or.inr sf_X3_place) rfl dX3_faultHere_17 ?_
    refine aw_callSN X (kX10_faultAt0 _ _ _ _ _) okm_X10_faultAt mn_X3_40 st_X10_faultAt rfl rfl (Nat.le_of_ble_eq_true rfl) ⟨Nat.le_of_ble_eq_true rfl, Nat.le_of_ble_eq_true rfl, Nat.le_of_ble_eq_true rfl, Nat.le_of_ble_eq_true rfl⟩ dX3_faultHere_20 (fun v w2 hp => ?_)
    obtain ⟨rfl, hw9⟩ := hp
    have hw9 := hw9.symm
    subst hw9
    refine RTN (some (.int _)) _ _ _ _ _ dX3_faultHere_23 (⟨_, rfl⟩) (Nat.le_of_ble_eq_true rfl) (Nat.le_of_ble_eq_true rfl) ?_
    exact ⟨rfl, rfl⟩
  · refine aw_iconst X dX3_faultHere_11 ci_2 ?_
    refine aw_goto (tgt := 16) X dX3_faultHere_12 rfl ?_
    refine aw_aload_n X dX3_faultHere_16 rfl rfl ?_
    refine aw_get X okX3 (k := 4) hO (Nat.le_of_ble_eq_true rfl) fl_X3_19 (Or.inr sf_X3_place) rfl dX3_faultHere_17 ?_
    refine aw_callSN X (kX10_faultAt0 _ _ _ _ _) okm_X10_faultAt mn_X3_40 st_X10_faultAt rfl rfl (Nat.le_of_ble_eq_true rfl) ⟨Nat.le_of_ble_eq_true rfl, Nat.le_of_ble_eq_true rfl, Nat.le_of_ble_eq_true rfl, Nat.le_of_ble_eq_true rfl⟩ dX3_faultHere_20 (fun v w2 hp => ?_)
    obtain ⟨rfl, hw9⟩ := hp
    have hw9 := hw9.symm
    subst hw9
    refine RTN (some (.int _)) _ _ _ _ _ dX3_faultHere_23 (⟨_, rfl⟩) (Nat.le_of_ble_eq_true rfl) (Nat.le_of_ble_eq_true rfl) ?_
    exact ⟨rfl, rfl⟩
set_option maxRecDepth 100000 in
set_option maxHeartbeats 4000000 in
theorem kX3_read0 (G : GG) (l : Launch) (w : WM) (b : Nat) (f : Nat → Int32) (ec : Option Nat)  (hk : f 0 = 1) (hO0 : w b = some (sC f ec none)) : MC G l yX3_read cX3_read 2 ((Option.some .int)) ({ frames := 4, cells := 0, slots := 0, locals := 84 } : Room) [.ref b] w (fun v w' => v = some (.int (-11)) ∧ w' = w) := by
  refine mc_int (by decide) (Nat.le_of_ble_eq_true rfl) rfl rfl ?_
  intro p e s m args below meth c A H0 Q X hnm RTN
  have X : Cx G p s m args meth c A H0 cX3_read 2 RX3 := X
  have hO : w b = some (.inr (5, [.int (f 0), .int (f 1), .int (f 2), .int (f 3), .int (f 4), .int (f 5), .int (f 6), va_rf ec, .null, .int (f 9)])) := by rw [hO0, sC_1 hk]; rfl
  refine aw_aload_n X dX3_read_0 rfl rfl ?_
  refine aw_callV X (kX3_faultHere0 _ _ _ _ _ _ hk hO0) okm_X3_faultHere okX3 hO ml_X3_22 im_X3_faultHere se_X3_X3_faultHere rfl rfl (Nat.le_of_ble_eq_true rfl) ⟨Nat.le_of_ble_eq_true rfl, Nat.le_of_ble_eq_true rfl, Nat.le_of_ble_eq_true rfl, Nat.le_of_ble_eq_true rfl⟩ dX3_read_1 (fun v w2 hp => ?_)
  obtain ⟨rfl, hw9⟩ := hp
  have hw9 := hw9.symm
  subst hw9
  refine aw_istore_n (lv' := [(1, _), (0, _)]) X dX3_read_4 rfl (by decide) rfl ?_
  refine aw_iload_n X dX3_read_5 rfl rfl ?_
  refine aw_if_eq (tgt := 16) X dX3_read_6 rfl (fun c6 => ?_) (fun c6 => ?_)
  · exact absurd c6 (by decide)
  · refine aw_bipush X dX3_read_9 cb_m10 ?_
    refine aw_iload_n X dX3_read_11 rfl rfl ?_
    refine aw_isub X dX3_read_12 ?_
    refine aw_goto (tgt := 27) X dX3_read_13 rfl ?_
    refine RTN (some (.int _)) _ _ _ _ _ dX3_read_27 (⟨_, rfl⟩) (Nat.le_of_ble_eq_true rfl) (Nat.le_of_ble_eq_true rfl) ?_
    exact ⟨rfl, rfl⟩
set_option maxRecDepth 100000 in
set_option maxHeartbeats 4000000 in
theorem kX3_write0 (G : GG) (l : Launch) (w : WM) (b : Nat) (f : Nat → Int32) (ec : Option Nat)  (hk : f 0 = 1) (hO0 : w b = some (sC f ec none)) (c1 : Int32) : MC G l yX3_write cX3_write 3 ((Option.some .int)) ({ frames := 3, cells := 0, slots := 0, locals := 63 } : Room) [.ref b, .int c1] w (fun v w' => v = some (.int (if f 4 < f 9 then (-11) else 0)) ∧ w' = w) := by
  refine mc_int (by decide) (Nat.le_of_ble_eq_true rfl) rfl rfl ?_
  intro p e s m args below meth c A H0 Q X hnm RTN
  have X : Cx G p s m args meth c A H0 cX3_write 3 RX3 := X
  have hO : w b = some (.inr (5, [.int (f 0), .int (f 1), .int (f 2), .int (f 3), .int (f 4), .int (f 5), .int (f 6), va_rf ec, .null, .int (f 9)])) := by rw [hO0, sC_1 hk]; rfl
  refine aw_aload_n X dX3_write_0 rfl rfl ?_
  refine aw_get X okX3 (k := 4) hO (Nat.le_of_ble_eq_true rfl) fl_X3_19 (Or.inr sf_X3_place) rfl dX3_write_1 ?_
  refine aw_aload_n X dX3_write_4 rfl rfl ?_
  refine aw_get X okX3 (k := 9) hO (Nat.le_of_ble_eq_true rfl) fl_X3_15 (Or.inl rfl) rfl dX3_write_5 ?_
  refine aw_icmp_lt (tgt := 13) X dX3_write_8 rfl (fun c8 => ?_) (fun c8 => ?_)
  · refine aw_aload_n X dX3_write_13 rfl rfl ?_
    refine aw_callV X (kX3_faultHere0 _ _ _ _ _ _ hk hO0) okm_X3_faultHere okX3 hO ml_X3_22 im_X3_faultHere se_X3_X3_faultHere rfl rfl (Nat.le_of_ble_eq_true rfl) ⟨Nat.le_of_ble_eq_true rfl, Nat.le_of_ble_eq_true rfl, Nat.le_of_ble_eq_true rfl, Nat.le_of_ble_eq_true rfl⟩ dX3_write_14 (fun v w2 hp => ?_)
    obtain ⟨rfl, hw9⟩ := hp
    have hw9 := hw9.symm
    subst hw9
    refine aw_istore_n (lv' := [(2, _), (0, _), (1, _)]) X dX3_write_17 rfl (by decide) rfl ?_
    refine aw_iload_n X dX3_write_18 rfl rfl ?_
    refine aw_if_eq (tgt := 27) X dX3_write_19 rfl (fun c19 => ?_) (fun c19 => ?_)
    · exact absurd c19 (by decide)
    · refine aw_bipush X dX3_write_22 cb_m10 ?_
      refine aw_iload_n X dX3_write_24 rfl rfl ?_
      refine aw_isub X dX3_write_25 ?_
      refine RTN (some (.int _)) _ _ _ _ _ dX3_write_26 (⟨_, rfl⟩) (Nat.le_of_ble_eq_true rfl) (Nat.le_of_ble_eq_true rfl) ?_
      exact ⟨by rw [if_pos c8]; rfl, rfl⟩
  · refine aw_iconst X dX3_write_11 ci_0 ?_
    refine RTN (some (.int _)) _ _ _ _ _ dX3_write_12 (⟨_, rfl⟩) (Nat.le_of_ble_eq_true rfl) (Nat.le_of_ble_eq_true rfl) ?_
    exact ⟨by rw [if_neg c8], rfl⟩
set_option maxRecDepth 100000 in
set_option maxHeartbeats 4000000 in
theorem kX3_read (G : GG) (l : Launch) (w : WM) (b : Nat) (f : Nat → Int32) (ec : Option Nat) (xa : Nat) (hk : f 0 = 1) (hO0 : w b = some (sC f ec (some xa))) (va n : Nat) (so : Int32) (g : Nat → Int32) (hn : n ≤ 40) (hI : w xa = some (.inr (4, [.int so, .ref va]))) (hV : w va = some (.inl (gA G 0, n, .inl g))) : MC G l yX3_read cX3_read 2 ((Option.some .int)) ({ frames := 4, cells := 0, slots := 0, locals := 84 } : Room) [.ref b] w (fun v w' => v = some (.int (if (it_fault so n (if f 2 = 0 then 1 else 2) (f 4)) = 0 then it_sign so (g (f 4).toNatClampNeg) else (-10) - (it_fault so n (if f 2 = 0 then 1 else 2) (f 4)))) ∧ w' = w) := by
  refine mc_int (by decide) (Nat.le_of_ble_eq_true rfl) rfl rfl ?_
  intro p e s m args below meth c A H0 Q X hnm RTN
  have X : Cx G p s m args meth c A H0 cX3_read 2 RX3 := X
  have hO : w b = some (.inr (5, [.int (f 0), .int (f 1), .int (f 2), .int (f 3), .int (f 4), .int (f 5), .int (f 6), va_rf ec, .ref xa, .int (f 9)])) := by rw [hO0, sC_1 hk]; rfl
  refine aw_aload_n X dX3_read_0 rfl rfl ?_
  refine aw_callV X (kX3_faultHere _ _ _ _ _ _ _ hk hO0 _ _ _ _ hn hI hV) okm_X3_faultHere okX3 hO ml_X3_22 im_X3_faultHere se_X3_X3_faultHere rfl rfl (Nat.le_of_ble_eq_true rfl) ⟨Nat.le_of_ble_eq_true rfl, Nat.le_of_ble_eq_true rfl, Nat.le_of_ble_eq_true rfl, Nat.le_of_ble_eq_true rfl⟩ dX3_read_1 (fun v w2 hp => ?_)
  obtain ⟨rfl, hw9⟩ := hp
  have hw9 := hw9.symm
  subst hw9
  refine aw_istore_n (lv' := [(1, _), (0, _)]) X dX3_read_4 rfl (by decide) rfl ?_
  refine aw_iload_n X dX3_read_5 rfl rfl ?_
  refine aw_if_eq (tgt := 16) X dX3_read_6 rfl (fun c6 => ?_) (fun c6 => ?_)
  · refine aw_aload_n X dX3_read_16 rfl rfl ?_
    refine aw_get X okX3 (k := 8) hO (Nat.le_of_ble_eq_true rfl) fl_X3_9 (Or.inl rfl) rfl dX3_read_17 ?_
    refine aw_aload_n X dX3_read_20 rfl rfl ?_
    refine aw_get X okX3 (k := 4) hO (Nat.le_of_ble_eq_true rfl) fl_X3_19 (Or.inr sf_X3_place) rfl dX3_read_21 ?_
    refine aw_callV X (kX2_signAt _ _ _ xa _ _ _ _ hI hV _ (has_vp (by omega) (fault_has c6).2)) okm_X2_signAt okX2 hI ml_X3_36 im_X2_signAt se_X2_X2_signAt rfl rfl (Nat.le_of_ble_eq_true rfl) ⟨Nat.le_of_ble_eq_true rfl, Nat.le_of_ble_eq_true rfl, Nat.le_of_ble_eq_true rfl, Nat.le_of_ble_eq_true rfl⟩ dX3_read_24 (fun v w2 hp => ?_)
    obtain ⟨rfl, hw9⟩ := hp
    have hw9 := hw9.symm
    subst hw9
    refine RTN (some (.int _)) _ _ _ _ _ dX3_read_27 (⟨_, rfl⟩) (Nat.le_of_ble_eq_true rfl) (Nat.le_of_ble_eq_true rfl) ?_
    exact ⟨by rw [if_pos c6], rfl⟩
  · refine aw_bipush X dX3_read_9 cb_m10 ?_
    refine aw_iload_n X dX3_read_11 rfl rfl ?_
    refine aw_isub X dX3_read_12 ?_
    refine aw_goto (tgt := 27) X dX3_read_13 rfl ?_
    refine RTN (some (.int _)) _ _ _ _ _ dX3_read_27 (⟨_, rfl⟩) (Nat.le_of_ble_eq_true rfl) (Nat.le_of_ble_eq_true rfl) ?_
    exact ⟨by rw [if_neg c6], rfl⟩
theorem sC_4 {f f' : Nat → Int32} {e x : Option Nat} (h' : f' 0 = 1) {l : List Value} (hl : l = sH f' e ++ [va_rf x, .int (f' 9)]) : (.inr (5, l) : va_E) = sC f' e x := by rw [sC_1 h', hl]
set_option maxRecDepth 100000 in
set_option maxHeartbeats 4000000 in
theorem kX3_write (G : GG) (l : Launch) (w : WM) (b : Nat) (f : Nat → Int32) (ec : Option Nat) (xa : Nat) (hk : f 0 = 1) (hO0 : w b = some (sC f ec (some xa))) (va n : Nat) (so : Int32) (g : Nat → Int32) (hn : n ≤ 40) (hI : w xa = some (.inr (4, [.int so, .ref va]))) (hV : w va = some (.inl (gA G 0, n, .inl g))) (c1 : Int32) : MC G l yX3_write cX3_write 3 ((Option.some .int)) ({ frames := 3, cells := 0, slots := 0, locals := 63 } : Room) [.ref b, .int c1] w (fun v w' => (f 9 ≤ f 4 ∧ v = some (.int 0) ∧ w' = w) ∨ (f 4 < f 9 ∧ ¬ (it_fault so n (if f 2 = 0 then 1 else 2) (f 4)) = 0 ∧ v = some (.int ((-10) - (it_fault so n (if f 2 = 0 then 1 else 2) (f 4)))) ∧ w' = w) ∨ (f 4 < f 9 ∧ (it_fault so n (if f 2 = 0 then 1 else 2) (f 4)) = 0 ∧ v = some (.int 1) ∧ w' b = some (sC (upd f 4 (f 4 + 1)) ec (some xa)) ∧ w' va = some (.inl (gA G 0, n, .inl (upd g (f 4).toNatClampNeg (if f 2 = 0 then c1.toInt8.toInt32 else c1)))) ∧ ∀ c, c ≠ b → c ≠ va → w' c = w c)) := by
  refine mc_int (by decide) (Nat.le_of_ble_eq_true rfl) rfl rfl ?_
  intro p e s m args below meth c A H0 Q X hnm RTN
  have X : Cx G p s m args meth c A H0 cX3_write 3 RX3 := X
  have hO : w b = some (.inr (5, [.int (f 0), .int (f 1), .int (f 2), .int (f 3), .int (f 4), .int (f 5), .int (f 6), va_rf ec, .ref xa, .int (f 9)])) := by rw [hO0, sC_1 hk]; rfl
  refine aw_aload_n X dX3_write_0 rfl rfl ?_
  refine aw_get X okX3 (k := 4) hO (Nat.le_of_ble_eq_true rfl) fl_X3_19 (Or.inr sf_X3_place) rfl dX3_write_1 ?_
  refine aw_aload_n X dX3_write_4 rfl rfl ?_
  refine aw_get X okX3 (k := 9) hO (Nat.le_of_ble_eq_true rfl) fl_X3_15 (Or.inl rfl) rfl dX3_write_5 ?_
  refine aw_icmp_lt (tgt := 13) X dX3_write_8 rfl (fun c8 => ?_) (fun c8 => ?_)
  · refine aw_aload_n X dX3_write_13 rfl rfl ?_
    refine aw_callV X (kX3_faultHere _ _ _ _ _ _ _ hk hO0 _ _ _ _ hn hI hV) okm_X3_faultHere okX3 hO ml_X3_22 im_X3_faultHere se_X3_X3_faultHere rfl rfl (Nat.le_of_ble_eq_true rfl) ⟨Nat.le_of_ble_eq_true rfl, Nat.le_of_ble_eq_true rfl, Nat.le_of_ble_eq_true rfl, Nat.le_of_ble_eq_true rfl⟩ dX3_write_14 (fun v w2 hp => ?_)
    obtain ⟨rfl, hw9⟩ := hp
    have hw9 := hw9.symm
    subst hw9
    refine aw_istore_n (lv' := [(2, _), (0, _), (1, _)]) X dX3_write_17 rfl (by decide) rfl ?_
    refine aw_iload_n X dX3_write_18 rfl rfl ?_
    refine aw_if_eq (tgt := 27) X dX3_write_19 rfl (fun c19 => ?_) (fun c19 => ?_)
    · refine aw_aload_n X dX3_write_27 rfl rfl ?_
      refine aw_get X okX3 (k := 8) hO (Nat.le_of_ble_eq_true rfl) fl_X3_9 (Or.inl rfl) rfl dX3_write_28 ?_
      refine aw_get X okX2 (k := 1) hI (Nat.le_of_ble_eq_true rfl) fl_X3_26 (Or.inl rfl) rfl dX3_write_31 ?_
      refine aw_aload_n X dX3_write_34 rfl rfl ?_
      refine aw_get X okX3 (k := 4) hO (Nat.le_of_ble_eq_true rfl) fl_X3_19 (Or.inr sf_X3_place) rfl dX3_write_35 ?_
      refine aw_aload_n X dX3_write_38 rfl rfl ?_
      refine aw_get X okX3 (k := 2) hO (Nat.le_of_ble_eq_true rfl) fl_X3_32 (Or.inr sf_X3_wide) rfl dX3_write_39 ?_
      refine aw_if_eq (tgt := 49) X dX3_write_42 rfl (fun c42 => ?_) (fun c42 => ?_)
      · refine aw_iload_n X dX3_write_49 rfl rfl ?_
        refine aw_i2b X dX3_write_50 ?_
        refine aw_iast2 X hV (has_vp (by omega) (fault_has c19).2) dX3_write_51 (fun w104 hk105 hn106 he107 => ?_)
        have hk108 := (hn106 _ (ne_oa hO hV)).trans hO
        have hk109 := (hn106 _ (ne_oa hI hV)).trans hI
        refine aw_aload_n X dX3_write_52 rfl rfl ?_
        refine aw_dup X dX3_write_53 rfl ?_
        refine aw_get X okX3 (k := 4) hk108 (Nat.le_of_ble_eq_true rfl) fl_X3_19 (Or.inr sf_X3_place) rfl dX3_write_54 ?_
        refine aw_iconst X dX3_write_57 ci_1 ?_
        refine aw_iadd X dX3_write_58 ?_
        refine aw_put2 X okX3 (k := 4) (fs' := [.int (f 0), .int (f 1), .int (f 2), .int (f 3), .int ((f 4) + 1), .int (f 5), .int (f 6), va_rf ec, .ref xa, .int (f 9)]) hk108 (Nat.le_of_ble_eq_true rfl) fl_X3_19 (Or.inr sf_X3_place) rfl (rfl ) ( rfl) (Nat.le_of_ble_eq_true rfl) rfl dX3_write_59 (fun w110 hk111 hn112 he113 => ?_)
        have hk114 := (hn112 _ (ne_ci hk109 hk108 (by decide))).trans hk109
        have hk115 := (hn112 _ (Ne.symm (ne_oa hk108 hk105))).trans hk105
        refine aw_iconst X dX3_write_62 ci_1 ?_
        refine RTN (some (.int _)) _ _ _ _ _ dX3_write_63 (⟨_, rfl⟩) (Nat.le_of_ble_eq_true rfl) (Nat.le_of_ble_eq_true rfl) ?_
        refine Or.inr (Or.inr ⟨c8, c19, rfl, ?_, ?_, fun c h1 h2 => by rw [he113, wm_upn h1, he107, wm_upn h2]⟩)
        · rw [hk111]; exact congrArg some (sC_4 (f := f) (by show f 0 = 1; exact hk) rfl)
        · rw [hk115, if_pos c42]
      · refine aw_iload_n X dX3_write_45 rfl rfl ?_
        refine aw_goto (tgt := 51) X dX3_write_46 rfl ?_
        refine aw_iast2 X hV (has_vp (by omega) (fault_has c19).2) dX3_write_51 (fun w116 hk117 hn118 he119 => ?_)
        have hk120 := (hn118 _ (ne_oa hO hV)).trans hO
        have hk121 := (hn118 _ (ne_oa hI hV)).trans hI
        refine aw_aload_n X dX3_write_52 rfl rfl ?_
        refine aw_dup X dX3_write_53 rfl ?_
        refine aw_get X okX3 (k := 4) hk120 (Nat.le_of_ble_eq_true rfl) fl_X3_19 (Or.inr sf_X3_place) rfl dX3_write_54 ?_
        refine aw_iconst X dX3_write_57 ci_1 ?_
        refine aw_iadd X dX3_write_58 ?_
        refine aw_put2 X okX3 (k := 4) (fs' := [.int (f 0), .int (f 1), .int (f 2), .int (f 3), .int ((f 4) + 1), .int (f 5), .int (f 6), va_rf ec, .ref xa, .int (f 9)]) hk120 (Nat.le_of_ble_eq_true rfl) fl_X3_19 (Or.inr sf_X3_place) rfl (rfl ) ( rfl) (Nat.le_of_ble_eq_true rfl) rfl dX3_write_59 (fun w122 hk123 hn124 he125 => ?_)
        have hk126 := (hn124 _ (ne_ci hk121 hk120 (by decide))).trans hk121
        have hk127 := (hn124 _ (Ne.symm (ne_oa hk120 hk117))).trans hk117
        refine aw_iconst X dX3_write_62 ci_1 ?_
        refine RTN (some (.int _)) _ _ _ _ _ dX3_write_63 (⟨_, rfl⟩) (Nat.le_of_ble_eq_true rfl) (Nat.le_of_ble_eq_true rfl) ?_
        refine Or.inr (Or.inr ⟨c8, c19, rfl, ?_, ?_, fun c h1 h2 => by rw [he125, wm_upn h1, he119, wm_upn h2]⟩)
        · rw [hk123]; exact congrArg some (sC_4 (f := f) (by show f 0 = 1; exact hk) rfl)
        · rw [hk127, if_neg c42]
    · refine aw_bipush X dX3_write_22 cb_m10 ?_
      refine aw_iload_n X dX3_write_24 rfl rfl ?_
      refine aw_isub X dX3_write_25 ?_
      refine RTN (some (.int _)) _ _ _ _ _ dX3_write_26 (⟨_, rfl⟩) (Nat.le_of_ble_eq_true rfl) (Nat.le_of_ble_eq_true rfl) ?_
      exact Or.inr (Or.inl ⟨c8, c19, rfl, rfl⟩)
  · refine aw_iconst X dX3_write_11 ci_0 ?_
    refine RTN (some (.int _)) _ _ _ _ _ dX3_write_12 (⟨_, rfl⟩) (Nat.le_of_ble_eq_true rfl) (Nat.le_of_ble_eq_true rfl) ?_
    exact Or.inl ⟨Int32.not_lt.mp c8, rfl, rfl⟩
set_option maxRecDepth 100000 in
set_option maxHeartbeats 4000000 in
theorem kX7_end (G : GG) (l : Launch) (w : WM) (b : Nat) (f : Nat → Int32) (ec : Option Nat) (xa : Nat) (hk : ¬ f 0 = 0 ∧ ¬ f 0 = 1 ∧ ¬ f 0 = 2) (hO0 : w b = some (sC f ec (some xa))) (va n : Nat) (so : Int32) (g : Nat → Int32) (hn : n ≤ 40) (hI : w xa = some (.inr (4, [.int so, .ref va]))) (hV : w va = some (.inl (gA G 0, n, .inl g))) : MC G l yX7_end cX7_end 1 ((Option.some .int)) ({ frames := 0, cells := 0, slots := 0, locals := 0 } : Room) [.ref b] w (fun v w' => v = some (.int (nI n)) ∧ w' = w) := by
  refine mc_int (by decide) (Nat.le_of_ble_eq_true rfl) rfl rfl ?_
  intro p e s m args below meth c A H0 Q X hnm RTN
  have X : Cx G p s m args meth c A H0 cX7_end 1 RX7 := X
  have hO : w b = some (.inr (9, [.int (f 0), .int (f 1), .int (f 2), .int (f 3), .int (f 4), .int (f 5), .int (f 6), va_rf ec, .ref xa])) := by rw [hO0, sC_3 hk.1 hk.2.1 hk.2.2]; rfl
  refine aw_aload_n X dX7_end_0 rfl rfl ?_
  refine aw_get X okX7 (k := 8) hO (Nat.le_of_ble_eq_true rfl) fl_X7_9 (Or.inl rfl) rfl dX7_end_1 ?_
  refine aw_get X okX2 (k := 1) hI (Nat.le_of_ble_eq_true rfl) fl_X7_15 (Or.inl rfl) rfl dX7_end_4 ?_
  refine aw_alen X 0 hV rfl (v := (nI n)) rfl dX7_end_7 ?_
  refine RTN (some (.int _)) _ _ _ _ _ dX7_end_8 (⟨_, rfl⟩) (Nat.le_of_ble_eq_true rfl) (Nat.le_of_ble_eq_true rfl) ?_
  exact ⟨rfl, rfl⟩
set_option maxRecDepth 100000 in
set_option maxHeartbeats 4000000 in
theorem kX7_read (G : GG) (l : Launch) (w : WM) (b : Nat) (f : Nat → Int32) (ec : Option Nat) (xa : Nat) (hk : ¬ f 0 = 0 ∧ ¬ f 0 = 1 ∧ ¬ f 0 = 2) (hO0 : w b = some (sC f ec (some xa))) (va n : Nat) (so : Int32) (g : Nat → Int32) (hn : n ≤ 40) (hI : w xa = some (.inr (4, [.int so, .ref va]))) (hV : w va = some (.inl (gA G 0, n, .inl g))) : MC G l yX7_read cX7_read 1 ((Option.some .int)) ({ frames := 1, cells := 0, slots := 0, locals := 21 } : Room) [.ref b] w (fun v w' => v = some (.int (if it_has n (f 4) = true then st_nar f (g (f 4).toNatClampNeg) else (-1))) ∧ w' = w) := by
  refine mc_int (by decide) (Nat.le_of_ble_eq_true rfl) rfl rfl ?_
  intro p e s m args below meth c A H0 Q X hnm RTN
  have X : Cx G p s m args meth c A H0 cX7_read 1 RX7 := X
  have hO : w b = some (.inr (9, [.int (f 0), .int (f 1), .int (f 2), .int (f 3), .int (f 4), .int (f 5), .int (f 6), va_rf ec, .ref xa])) := by rw [hO0, sC_3 hk.1 hk.2.1 hk.2.2]; rfl
  refine aw_aload_n X dX7_read_0 rfl rfl ?_
  refine aw_get X okX7 (k := 8) hO (Nat.le_of_ble_eq_true rfl) fl_X7_9 (Or.inl rfl) rfl dX7_read_1 ?_
  refine aw_aload_n X dX7_read_4 rfl rfl ?_
  refine aw_get X okX7 (k := 4) hO (Nat.le_of_ble_eq_true rfl) fl_X7_21 (Or.inr sf_X7_place) rfl dX7_read_5 ?_
  refine aw_callV X (kX2_hasItem _ _ _ xa _ _ _ _ hI hV _) okm_X2_hasItem okX2 hI ml_X7_25 im_X2_hasItem se_X2_X2_hasItem rfl rfl (Nat.le_of_ble_eq_true rfl) ⟨Nat.le_of_ble_eq_true rfl, Nat.le_of_ble_eq_true rfl, Nat.le_of_ble_eq_true rfl, Nat.le_of_ble_eq_true rfl⟩ dX7_read_8 (fun v w2 hp => ?_)
  obtain ⟨rfl, hw9⟩ := hp
  have hw9 := hw9.symm
  subst hw9
  refine aw_if_eq (tgt := 33) X dX7_read_11 rfl (fun c11 => ?_) (fun c11 => ?_)
  · rw [bI_0] at c11
    refine aw_iconst X dX7_read_33 ci_m1 ?_
    refine RTN (some (.int _)) _ _ _ _ _ dX7_read_34 (⟨_, rfl⟩) (Nat.le_of_ble_eq_true rfl) (Nat.le_of_ble_eq_true rfl) ?_
    exact ⟨by rw [if_neg c11], rfl⟩
  · rw [bI_n0] at c11
    refine aw_aload_n X dX7_read_14 rfl rfl ?_
    refine aw_aload_n X dX7_read_15 rfl rfl ?_
    refine aw_get X okX7 (k := 8) hO (Nat.le_of_ble_eq_true rfl) fl_X7_9 (Or.inl rfl) rfl dX7_read_16 ?_
    refine aw_get X okX2 (k := 1) hI (Nat.le_of_ble_eq_true rfl) fl_X7_15 (Or.inl rfl) rfl dX7_read_19 ?_
    refine aw_aload_n X dX7_read_22 rfl rfl ?_
    refine aw_get X okX7 (k := 4) hO (Nat.le_of_ble_eq_true rfl) fl_X7_21 (Or.inr sf_X7_place) rfl dX7_read_23 ?_
    refine aw_iald X hV (has_vp (by omega) c11) dX7_read_26 ?_
    refine aw_callU (n := 1) (x := yX7_narrowed) (owner := RX9) X (kX9_narrowed _ _ _ _ _ _ _ hO0 _) okm_X9_narrowed okX7 hO ml_X7_29 sm_X7_narrowed (va_Decl.abs (X.2.2.2.2.2.2.2.2.1 _ dc_X9_narrowed)) (by decide) rfl im_X9_narrowed se_X7_X7_narrowed rfl rfl (Nat.le_of_ble_eq_true rfl) ⟨Nat.le_of_ble_eq_true rfl, Nat.le_of_ble_eq_true rfl, Nat.le_of_ble_eq_true rfl, Nat.le_of_ble_eq_true rfl⟩ dX7_read_27 (fun v w2 hp => ?_)
    obtain ⟨rfl, hw9⟩ := hp
    have hw9 := hw9.symm
    subst hw9
    refine aw_goto (tgt := 34) X dX7_read_30 rfl ?_
    refine RTN (some (.int _)) _ _ _ _ _ dX7_read_34 (⟨_, rfl⟩) (Nat.le_of_ble_eq_true rfl) (Nat.le_of_ble_eq_true rfl) ?_
    exact ⟨by rw [if_pos c11], rfl⟩
set_option maxRecDepth 100000 in
set_option maxHeartbeats 4000000 in
theorem kX8_make (G : GG) (l : Launch) (w : WM) (b aB : Nat) (ln th : Int32) (hO : w b = some (.inr (10, [.ref aB, .int ln, .int th]))) : MC G l yX8_make cX8_make 1 (none) ({ frames := 0, cells := 0, slots := 0, locals := 0 } : Room) [.ref b] w (fun v w' => v = none ∧ w' = wm_up w b (.inr (10, [.ref aB, .int 0, .int 1]))) := by
  refine mc_void (by decide) (Nat.le_of_ble_eq_true rfl) rfl rfl ?_
  intro p e s m args below meth c A H0 Q X hnm RTN
  have X : Cx G p s m args meth c A H0 cX8_make 1 RX8 := X
  refine aw_aload_n X dX8_make_0 rfl rfl ?_
  refine aw_iconst X dX8_make_1 ci_1 ?_
  refine aw_put2 X okX8 (k := 2) (fs' := [.ref aB, .int ln, .int 1]) hO (Nat.le_of_ble_eq_true rfl) fl_X8_15 (Or.inl rfl) rfl (rfl ) ( rfl) (Nat.le_of_ble_eq_true rfl) rfl dX8_make_2 (fun w128 hk129 hn130 he131 => ?_)
  refine aw_aload_n X dX8_make_5 rfl rfl ?_
  refine aw_iconst X dX8_make_6 ci_0 ?_
  refine aw_put2 X okX8 (k := 1) (fs' := [.ref aB, .int 0, .int 1]) hk129 (Nat.le_of_ble_eq_true rfl) fl_X8_19 (Or.inl rfl) rfl (rfl ) ( rfl) (Nat.le_of_ble_eq_true rfl) rfl dX8_make_7 (fun w132 hk133 hn134 he135 => ?_)
  refine RTN (none) _ _ _ _ _ dX8_make_10 (rfl) (Nat.le_of_ble_eq_true rfl) (Nat.le_of_ble_eq_true rfl) ?_
  exact ⟨rfl, by rw [he135, he131, wm_up_up]⟩
set_option maxRecDepth 100000 in
set_option maxHeartbeats 4000000 in
theorem kX8_init (G : GG) (l : Launch) (w : WM) (b : Nat) (hO : w b = some (.inr (10, [.null, .int 0, .int 0]))) : MC G l yX8_init cX8_init 1 (none) ({ frames := 1, cells := 1, slots := 60, locals := 20 } : Room) [.ref b] w (fun v w' => v = none ∧ ∃ pa : Nat, w pa = none ∧ w' b = some (.inr (10, [.ref pa, .int 0, .int 0])) ∧ w' pa = some (.inl (gA G 1, 60, .inl (fun _ => 0))) ∧ ∀ c, c ≠ b → c ≠ pa → w' c = w c) := by
  refine mc_void (by decide) (Nat.le_of_ble_eq_true rfl) rfl rfl ?_
  intro p e s m args below meth c A H0 Q X hnm RTN
  have X : Cx G p s m args meth c A H0 cX8_init 1 RX8 := X
  have hin : meth.name = "<init>" := hnm
  refine aw_aload_n X dX8_init_0 rfl rfl ?_
  refine aw_objInit X ml_X8_3 im_obj cd_obj (Nat.le_of_ble_eq_true rfl) (Nat.le_of_ble_eq_true rfl) dX8_init_1 ?_
  refine aw_aload_n X dX8_init_4 rfl rfl ?_
  refine aw_bipush X dX8_init_5 cb_60 ?_
  refine aw_newb2 (n := 60) X (by decide) (by decide) (by decide) (Nat.le_of_ble_eq_true rfl) (Nat.le_of_ble_eq_true rfl) dX8_init_7 (fun q136 w137 hf138 hk139 hn140 he141 => ?_)
  have hk142 := (hn140 _ (ne_fr hO hf138)).trans hO
  refine aw_putF2 X hin okX8 (k := 0) (fs' := [.ref q136, .int 0, .int 0]) hk142 (Nat.le_of_ble_eq_true rfl) fl_X8_9 (Or.inl rfl) rfl rfl (rfl ) ( rfl) (Nat.le_of_ble_eq_true rfl) rfl dX8_init_9 (fun w143 hk144 hn145 he146 => ?_)
  have hk147 := (hn145 _ (Ne.symm (ne_oa hk142 hk139))).trans hk139
  refine RTN (none) _ _ _ _ _ dX8_init_12 (rfl) (Nat.le_of_ble_eq_true rfl) (Nat.le_of_ble_eq_true rfl) ?_
  exact ⟨rfl, q136, hf138, hk144, hk147, fun c h1 h2 => by rw [he146, wm_upn h1, he141, wm_upn h2]⟩
set_option maxRecDepth 100000 in
set_option maxHeartbeats 4000000 in
theorem kX6_init (G : GG) (l : Launch) (w : WM) (b nm fl : Nat) (us tm : Int32) (htm : tm = 0 ∨ tm = 1) (hO : w b = some (.inr (8, [.int 0, .null, .int 0, .null]))) : MC G l yX6_init cX6_init 5 (none) ({ frames := 1, cells := 0, slots := 0, locals := 20 } : Room) [.ref b, .int us, .ref nm, .int tm, .ref fl] w (fun v w' => v = none ∧ w' = wm_up w b (.inr (8, [.int us, .ref nm, .int tm, .ref fl]))) := by
  refine mc_void (by decide) (Nat.le_of_ble_eq_true rfl) rfl rfl ?_
  intro p e s m args below meth c A H0 Q X hnm RTN
  have X : Cx G p s m args meth c A H0 cX6_init 5 RX6 := X
  have hin : meth.name = "<init>" := hnm
  refine aw_aload_n X dX6_init_0 rfl rfl ?_
  refine aw_objInit X ml_X6_1 im_obj cd_obj (Nat.le_of_ble_eq_true rfl) (Nat.le_of_ble_eq_true rfl) dX6_init_1 ?_
  refine aw_aload_n X dX6_init_4 rfl rfl ?_
  refine aw_iload_n X dX6_init_5 rfl rfl ?_
  refine aw_putF2 X hin okX6 (k := 0) (fs' := [.int us, .null, .int 0, .null]) hO (Nat.le_of_ble_eq_true rfl) fl_X6_7 (Or.inl rfl) rfl rfl (rfl ) ( rfl) (Nat.le_of_ble_eq_true rfl) rfl dX6_init_6 (fun w148 hk149 hn150 he151 => ?_)
  refine aw_aload_n X dX6_init_9 rfl rfl ?_
  refine aw_aload_n X dX6_init_10 rfl rfl ?_
  refine aw_putF2 X hin okX6 (k := 1) (fs' := [.int us, .ref nm, .int 0, .null]) hk149 (Nat.le_of_ble_eq_true rfl) fl_X6_13 (Or.inl rfl) rfl rfl (rfl ) ( rfl) (Nat.le_of_ble_eq_true rfl) rfl dX6_init_11 (fun w152 hk153 hn154 he155 => ?_)
  refine aw_aload_n X dX6_init_14 rfl rfl ?_
  refine aw_iload_n X dX6_init_15 rfl rfl ?_
  refine aw_putF2 X hin okX6 (k := 2) (fs' := [.int us, .ref nm, .int tm, .null]) hk153 (Nat.le_of_ble_eq_true rfl) fl_X6_17 (Or.inl rfl) rfl rfl (nar_b htm ) ( fit_b htm) (Nat.le_of_ble_eq_true rfl) rfl dX6_init_16 (fun w156 hk157 hn158 he159 => ?_)
  refine aw_aload_n X dX6_init_19 rfl rfl ?_
  refine aw_aload X dX6_init_20 rfl ?_
  refine aw_putF2 X hin okX6 (k := 3) (fs' := [.int us, .ref nm, .int tm, .ref fl]) hk157 (Nat.le_of_ble_eq_true rfl) fl_X6_21 (Or.inl rfl) rfl rfl (rfl ) ( rfl) (Nat.le_of_ble_eq_true rfl) rfl dX6_init_22 (fun w160 hk161 hn162 he163 => ?_)
  refine RTN (none) _ _ _ _ _ dX6_init_25 (rfl) (Nat.le_of_ble_eq_true rfl) (Nat.le_of_ble_eq_true rfl) ?_
  exact ⟨rfl, by rw [he163, he159, he155, he151, wm_up_up, wm_up_up, wm_up_up]⟩
