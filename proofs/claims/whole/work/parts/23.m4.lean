def swi (x : Int32) (l : List Int32) (d : Int32) : Int32 := if x.toInt < 0 ∨ (l.length : Int) - 1 < x.toInt then d else l.getD x.toInt.toNat d
theorem sw_8 (x : Int32) : (x.toInt < 0 ∨ 7 < x.toInt) ∨ x = 0 ∨ x = 1 ∨ x = 2 ∨ x = 3 ∨ x = 4 ∨ x = 5 ∨ x = 6 ∨ x = 7 := by
  rcases Int.lt_or_le x.toInt 0 with h | h
  · exact Or.inl (Or.inl h)
  · rcases Int.lt_or_le 7 x.toInt with h2 | h2
    · exact Or.inl (Or.inr h2)
    · right
      simp only [i32_eq]
      have e0 : (0 : Int32).toInt = 0 := rfl
      have e1 : (1 : Int32).toInt = 1 := rfl
      have e2 : (2 : Int32).toInt = 2 := rfl
      have e3 : (3 : Int32).toInt = 3 := rfl
      have e4 : (4 : Int32).toInt = 4 := rfl
      have e5 : (5 : Int32).toInt = 5 := rfl
      have e6 : (6 : Int32).toInt = 6 := rfl
      have e7 : (7 : Int32).toInt = 7 := rfl
      omega
def mo_current (M : MS) (t : Int32) : Int32 × MS := if t = 0 ∨ 0 ≤ oI (mo_pl (sI M 0 0) t) then (M.1 20, sI (sI M 0 0) 20 t) else (-2, (sI M 0 0))
def flr (a b : Int64) : Int64 := a / b - (if 0 ≤ a - a / b * b then 0 else 1)
def mo_timer (M : MS) (n : Int32) : Int32 × MS := if bt n 0 1000 then (M.1 40, sI (sI (sI M 0 0) 40 n) 41 (M.1 39)) else (-3, (sI M 0 0))
def mo_sound (M : MS) (ch t : Int32) : Int32 × MS := if bt ch 0 1 ∧ bt t 0 1000 then (M.2.2 42 ch.toNatClampNeg, sF (sI M 0 0) 42 ch.toNatClampNeg t) else (-3, (sI M 0 0))
def mo_comes (M : MS) (e : Int32) : MS := if M.1 44 = 8 then sI M 45 (M.1 45 + 1) else sI (sF M 43 (M.1 44).toNatClampNeg e) 44 (M.1 44 + 1)
def mo_temporary (M : MS) (u : Int32) : Int32 × MS :=
  if bt u 0 3 then (if M.1 29 = 20 then (-5, (sI M 0 0)) else (M.1 29, sF (sF (sF (sI (sI M 0 0) 29 (M.1 29 + 1)) 30 (M.1 29).toNatClampNeg u) 33 (M.1 29).toNatClampNeg 1) 34 (M.1 29).toNatClampNeg (M.1 29))) else (-3, (sI M 0 0))
def mi_first (M : MS) : Prop := ∀ k, k < 20 → bt (M.2.2 34 k) 0 19 = true
def mo_exists (M : MS) (r : Int32) : Int32 × MS :=
  if bt r 0 (M.1 29 - 1).toInt then (if M.2.2 35 (M.2.2 34 r.toNatClampNeg).toNatClampNeg = 0 then (-1, (sI M 0 0)) else (M.2.2 36 (M.2.2 34 r.toNatClampNeg).toNatClampNeg, (sI M 0 0))) else (-2, (sI M 0 0))
def fo (M : MS) (f : Int32) (k : Nat) : Bool := decide (0 < M.2.2 6 k) && (decide (M.2.2 8 k = 2) && decide (M.2.2 16 k = f))
def mo_drop (M : MS) (r : Int32) : Int32 × MS :=
  if bt r 0 (M.1 29 - 1).toInt then
    if (List.range 8).any (fo M (M.2.2 34 r.toNatClampNeg)) then (-4, (sI M 0 0))
    else if M.2.2 35 (M.2.2 34 r.toNatClampNeg).toNatClampNeg = 0 then (0, (sI M 0 0))
    else (1, sI (sF (sI M 0 0) 35 (M.2.2 34 r.toNatClampNeg).toNatClampNeg 0) 38 (M.1 38 - 1))
  else (-2, (sI M 0 0))
def mo_share (M : MS) : Int32 × MS := if M.2.1 22 = 0 then (0, sI M 0 1) else ((M.2.1 21 / M.2.1 22).toInt32, (sI M 0 0))
def barr (c : Int32) : Bool := decide (c < 32) || (decide (126 < c) || (decide (c = 47) || (decide (c = 92) || (decide (c = 60) || (decide (c = 62) || (decide (c = 58) || (decide (c = 34) || (decide (c = 124) || (decide (c = 63) || decide (c = 42))))))))))
def mo_cut (M : MS) (c : Int32) : Int32 := if M.1 27 = 0 then (if c = 46 then 1 else 0) else 1
def mo_name (M : MS) (c : Int32) : Int32 × MS :=
  if bt c 0 1114111 then
    if mo_cut M c = 0 then
      if barr c then (M.1 26, sI (sI (sI M 0 0) 27 0) 28 (M.1 28 + 1))
      else if 8 ≤ M.1 26 then (M.1 26, sI (sI M 0 0) 27 0)
      else (M.1 26 + 1, sI (sF (sI (sI M 0 0) 27 0) 25 (M.1 26).toNatClampNeg c) 26 (M.1 26 + 1))
    else (M.1 26, sI (sI (sI M 0 0) 27 1) 28 (M.1 28 + 1))
  else (-3, (sI M 0 0))
def mo_upper (M : MS) (c : Int32) : Int32 × MS :=
  (if bt c 0 1114111 then
    if bt c 97 122 ∨ (bt c 224 254 ∧ ¬ c = 247) ∨ (bt c 945 969 ∧ ¬ c = 962) ∨ bt c 1072 1103 then c - 32
    else if bt c 1104 1119 then c - 80
    else if bt c 257 303 ∧ c - c / 2 * 2 = 1 then c - 1
    else if c = 255 then 376 else if c = 962 then 931 else c
  else -1, (sI M 0 0))
def mo_lower (M : MS) (c : Int32) : Int32 × MS :=
  (if bt c 0 1114111 then
    if bt c 65 90 ∨ (bt c 192 222 ∧ ¬ c = 215) ∨ (bt c 913 937 ∧ ¬ c = 930) ∨ bt c 1040 1071 then c + 32
    else if bt c 1024 1039 then c + 80
    else if bt c 256 302 ∧ c - c / 2 * 2 = 0 then c + 1
    else if c = 376 then 255 else c
  else -1, (sI M 0 0))
set_option maxRecDepth 100000 in
set_option maxHeartbeats 4000000 in
theorem kX11_current (G : GG) (l : Launch) (q : Nat → Nat) (M : MS) (hq : mInj q) (t : Int32) : MC G l yX11_current cX11_current 3 ((Option.some .int)) ({ frames := 1, cells := 0, slots := 0, locals := 22 } : Room) [.ref (q 0), .int t] (mw G q M) (fun v w' => v = some (.int (mo_current M t).1) ∧ w' = mw G q (mo_current M t).2) := by
  refine mc_int (by decide) (Nat.le_of_ble_eq_true rfl) rfl rfl ?_
  intro p e s m args below meth c A H0 Q X hnm RTN
  have X : Cx G p s m args meth c A H0 cX11_current 3 RX11 := X
  refine aw_aload_n X dX11_current_0 rfl rfl ?_
  refine aw_iconst X dX11_current_1 ci_0 ?_
  refine am_put X 0 (M' := sI _ 0 _) (Nat.le_of_ble_eq_true rfl) fl_X11_1 rfl rfl (rfl) (rfl) (mf_0 _ _ _) rfl dX11_current_2 ?_
  refine aw_iload_n X dX11_current_5 rfl rfl ?_
  refine aw_if_eq (tgt := 20) X dX11_current_6 rfl (fun c6 => ?_) (fun c6 => ?_)
  · refine aw_aload_n X dX11_current_20 rfl rfl ?_
    refine am_get X 20 (v := .int (M.1 20)) (Nat.le_of_ble_eq_true rfl) fl_X11_191 rfl rfl dX11_current_21 ?_
    refine aw_istore_n (lv' := [(2, _), (0, _), (1, _)]) X dX11_current_24 rfl (by decide) rfl ?_
    refine aw_aload_n X dX11_current_25 rfl rfl ?_
    refine aw_iload_n X dX11_current_26 rfl rfl ?_
    refine am_put X 20 (M' := sI _ 20 _) (Nat.le_of_ble_eq_true rfl) fl_X11_191 rfl rfl (rfl) (rfl) (mf_20 _ _ _) rfl dX11_current_27 ?_
    refine aw_iload_n X dX11_current_30 rfl rfl ?_
    refine RTN (some (.int _)) _ _ _ _ _ dX11_current_31 (⟨_, rfl⟩) (Nat.le_of_ble_eq_true rfl) (Nat.le_of_ble_eq_true rfl) ?_
    first | (constructor <;> ((try simp only [mo_current, c6, if_true, if_false, not_true_eq_false, not_false_eq_true, and_self, true_and, and_true, false_and, and_false, or_true, true_or, or_false, false_or, reduceCtorEq, ne_eq]); (try rfl); done)) | (clear RTN X; constructor <;> ((try simp_all only [mo_current, if_true, if_false, not_true_eq_false, not_false_eq_true, and_self, true_and, and_true, false_and, and_false, or_true, true_or, or_false, false_or, reduceCtorEq, ne_eq]); (try rfl); done))
  · refine aw_aload_n X dX11_current_9 rfl rfl ?_
    refine aw_iload_n X dX11_current_10 rfl rfl ?_
    refine aw_callV X (kX11_placeOf _ _ _ _ hq _) okm_X11_placeOf okX11 mw_0 ml_X11_183 im_X11_placeOf se_X11_X11_placeOf rfl rfl (Nat.le_of_ble_eq_true rfl) ⟨Nat.le_of_ble_eq_true rfl, Nat.le_of_ble_eq_true rfl, Nat.le_of_ble_eq_true rfl, Nat.le_of_ble_eq_true rfl⟩ dX11_current_11 (fun v w2 hp => ?_)
    obtain ⟨rfl, rfl⟩ := hp
    refine aw_if_ge (tgt := 20) X dX11_current_14 rfl (fun c14 => ?_) (fun c14 => ?_)
    · refine aw_aload_n X dX11_current_20 rfl rfl ?_
      refine am_get X 20 (v := .int (M.1 20)) (Nat.le_of_ble_eq_true rfl) fl_X11_191 rfl rfl dX11_current_21 ?_
      refine aw_istore_n (lv' := [(2, _), (0, _), (1, _)]) X dX11_current_24 rfl (by decide) rfl ?_
      refine aw_aload_n X dX11_current_25 rfl rfl ?_
      refine aw_iload_n X dX11_current_26 rfl rfl ?_
      refine am_put X 20 (M' := sI _ 20 _) (Nat.le_of_ble_eq_true rfl) fl_X11_191 rfl rfl (rfl) (rfl) (mf_20 _ _ _) rfl dX11_current_27 ?_
      refine aw_iload_n X dX11_current_30 rfl rfl ?_
      refine RTN (some (.int _)) _ _ _ _ _ dX11_current_31 (⟨_, rfl⟩) (Nat.le_of_ble_eq_true rfl) (Nat.le_of_ble_eq_true rfl) ?_
      first | (constructor <;> ((try simp only [mo_current, c6, c14, if_true, if_false, not_true_eq_false, not_false_eq_true, and_self, true_and, and_true, false_and, and_false, or_true, true_or, or_false, false_or, reduceCtorEq, ne_eq]); (try rfl); done)) | (clear RTN X; constructor <;> ((try simp_all only [mo_current, if_true, if_false, not_true_eq_false, not_false_eq_true, and_self, true_and, and_true, false_and, and_false, or_true, true_or, or_false, false_or, reduceCtorEq, ne_eq]); (try rfl); done))
    · refine aw_bipush X dX11_current_17 cb_m2 ?_
      refine RTN (some (.int _)) _ _ _ _ _ dX11_current_19 (⟨_, rfl⟩) (Nat.le_of_ble_eq_true rfl) (Nat.le_of_ble_eq_true rfl) ?_
      first | (constructor <;> ((try simp only [mo_current, c6, c14, if_true, if_false, not_true_eq_false, not_false_eq_true, and_self, true_and, and_true, false_and, and_false, or_true, true_or, or_false, false_or, reduceCtorEq, ne_eq]); (try rfl); done)) | (clear RTN X; constructor <;> ((try simp_all only [mo_current, if_true, if_false, not_true_eq_false, not_false_eq_true, and_self, true_and, and_true, false_and, and_false, or_true, true_or, or_false, false_or, reduceCtorEq, ne_eq]); (try rfl); done))
set_option maxRecDepth 100000 in
set_option maxHeartbeats 4000000 in
theorem kX11_floor (G : GG) (l : Launch) (w : WM) (a b : Int64) (hb : ¬ b = 0) : MC G l yX11_floor cX11_floor 4 ((Option.some .long)) ({ frames := 0, cells := 0, slots := 0, locals := 0 } : Room) [.long a, .long b] w (fun v w' => v = some (.long (flr a b)) ∧ w' = w) := by
  refine mc_long (by decide) (Nat.le_of_ble_eq_true rfl) rfl rfl ?_
  intro p e s m args below meth c A H0 Q X hnm RTN
  have X : Cx G p s m args meth c A H0 cX11_floor 4 RX11 := X
  refine aw_lload_n X dX11_floor_0 rfl rfl ?_
  refine aw_lload_n X dX11_floor_1 rfl rfl ?_
  refine aw_ldiv X dX11_floor_2 (hb) ?_
  refine aw_lload_n X dX11_floor_3 rfl rfl ?_
  refine aw_lload_n X dX11_floor_4 rfl rfl ?_
  refine aw_lrem X dX11_floor_5 (hb) ?_
  refine aw_lconst X dX11_floor_6 cl_0 ?_
  refine aw_lcmp X dX11_floor_7 ?_
  refine aw_if_ge (tgt := 15) X dX11_floor_8 rfl (fun c8 => ?_) (fun c8 => ?_)
  · rw [lg_cmp_ge] at c8
    refine aw_lconst X dX11_floor_15 cl_0 ?_
    refine aw_lsub X dX11_floor_16 ?_
    refine RTN (some (.long _)) _ _ _ _ _ dX11_floor_17 (⟨_, rfl⟩) (Nat.le_of_ble_eq_true rfl) (Nat.le_of_ble_eq_true rfl) ?_
    first | (constructor <;> ((try simp only [flr, c8, if_true, if_false, not_true_eq_false, not_false_eq_true, and_self, true_and, and_true, false_and, and_false, or_true, true_or, or_false, false_or, reduceCtorEq, ne_eq]); (try rfl); done)) | (clear RTN X; constructor <;> ((try simp_all only [flr, if_true, if_false, not_true_eq_false, not_false_eq_true, and_self, true_and, and_true, false_and, and_false, or_true, true_or, or_false, false_or, reduceCtorEq, ne_eq]); (try rfl); done))
  · rw [lg_cmp_ge] at c8
    refine aw_lconst X dX11_floor_11 cl_1 ?_
    refine aw_goto (tgt := 16) X dX11_floor_12 rfl ?_
    refine aw_lsub X dX11_floor_16 ?_
    refine RTN (some (.long _)) _ _ _ _ _ dX11_floor_17 (⟨_, rfl⟩) (Nat.le_of_ble_eq_true rfl) (Nat.le_of_ble_eq_true rfl) ?_
    first | (constructor <;> ((try simp only [flr, c8, if_true, if_false, not_true_eq_false, not_false_eq_true, and_self, true_and, and_true, false_and, and_false, or_true, true_or, or_false, false_or, reduceCtorEq, ne_eq]); (try rfl); done)) | (clear RTN X; constructor <;> ((try simp_all only [flr, if_true, if_false, not_true_eq_false, not_false_eq_true, and_self, true_and, and_true, false_and, and_false, or_true, true_or, or_false, false_or, reduceCtorEq, ne_eq]); (try rfl); done))
set_option maxRecDepth 100000 in
set_option maxHeartbeats 4000000 in
theorem kX11_timer (G : GG) (l : Launch) (q : Nat → Nat) (M : MS) (hq : mInj q) (n : Int32) : MC G l yX11_timer cX11_timer 3 ((Option.some .int)) ({ frames := 1, cells := 0, slots := 0, locals := 25 } : Room) [.ref (q 0), .int n] (mw G q M) (fun v w' => v = some (.int (mo_timer M n).1) ∧ w' = mw G q (mo_timer M n).2) := by
  refine mc_int (by decide) (Nat.le_of_ble_eq_true rfl) rfl rfl ?_
  intro p e s m args below meth c A H0 Q X hnm RTN
  have X : Cx G p s m args meth c A H0 cX11_timer 3 RX11 := X
  refine aw_aload_n X dX11_timer_0 rfl rfl ?_
  refine aw_iconst X dX11_timer_1 ci_0 ?_
  refine am_put X 0 (M' := sI _ 0 _) (Nat.le_of_ble_eq_true rfl) fl_X11_1 rfl rfl (rfl) (rfl) (mf_0 _ _ _) rfl dX11_timer_2 ?_
  refine aw_iload_n X dX11_timer_5 rfl rfl ?_
  refine aw_i2l X dX11_timer_6 ?_
  refine aw_lconst X dX11_timer_7 cl_0 ?_
  refine aw_ldc2 X kl_X11_284 dX11_timer_8 ?_
  refine aw_callS X (kX11_inI _ _ _ _ _ _ 0 1000 rfl rfl) okm_X11_in ml_X11_12 st_X11_in rfl rfl (Nat.le_of_ble_eq_true rfl) ⟨Nat.le_of_ble_eq_true rfl, Nat.le_of_ble_eq_true rfl, Nat.le_of_ble_eq_true rfl, Nat.le_of_ble_eq_true rfl⟩ dX11_timer_11 (fun v w2 hp => ?_)
  obtain ⟨rfl, rfl⟩ := hp
  refine aw_if_ne (tgt := 20) X dX11_timer_14 rfl (fun c14 => ?_) (fun c14 => ?_)
  · rw [bI_n0] at c14
    refine aw_aload_n X dX11_timer_20 rfl rfl ?_
    refine am_get X 40 (v := .int (M.1 40)) (Nat.le_of_ble_eq_true rfl) fl_X11_286 rfl rfl dX11_timer_21 ?_
    refine aw_istore_n (lv' := [(2, _), (0, _), (1, _)]) X dX11_timer_24 rfl (by decide) rfl ?_
    refine aw_aload_n X dX11_timer_25 rfl rfl ?_
    refine aw_iload_n X dX11_timer_26 rfl rfl ?_
    refine am_put X 40 (M' := sI _ 40 _) (Nat.le_of_ble_eq_true rfl) fl_X11_286 rfl rfl (rfl) (rfl) (mf_40 _ _ _) rfl dX11_timer_27 ?_
    refine aw_aload_n X dX11_timer_30 rfl rfl ?_
    refine aw_aload_n X dX11_timer_31 rfl rfl ?_
    refine am_get X 39 (v := .int (M.1 39)) (Nat.le_of_ble_eq_true rfl) fl_X11_289 rfl rfl dX11_timer_32 ?_
    refine am_put X 41 (M' := sI _ 41 _) (Nat.le_of_ble_eq_true rfl) fl_X11_292 rfl rfl (rfl) (rfl) (mf_41 _ _ _) rfl dX11_timer_35 ?_
    refine aw_iload_n X dX11_timer_38 rfl rfl ?_
    refine RTN (some (.int _)) _ _ _ _ _ dX11_timer_39 (⟨_, rfl⟩) (Nat.le_of_ble_eq_true rfl) (Nat.le_of_ble_eq_true rfl) ?_
    first | (constructor <;> ((try simp only [mo_timer, c14, if_true, if_false, not_true_eq_false, not_false_eq_true, and_self, true_and, and_true, false_and, and_false, or_true, true_or, or_false, false_or, reduceCtorEq, ne_eq]); (try rfl); done)) | (clear RTN X; constructor <;> ((try simp_all only [mo_timer, if_true, if_false, not_true_eq_false, not_false_eq_true, and_self, true_and, and_true, false_and, and_false, or_true, true_or, or_false, false_or, reduceCtorEq, ne_eq]); (try rfl); done))
  · rw [bI_0] at c14
    refine aw_bipush X dX11_timer_17 cb_m3 ?_
    refine RTN (some (.int _)) _ _ _ _ _ dX11_timer_19 (⟨_, rfl⟩) (Nat.le_of_ble_eq_true rfl) (Nat.le_of_ble_eq_true rfl) ?_
    first | (constructor <;> ((try simp only [mo_timer, c14, if_true, if_false, not_true_eq_false, not_false_eq_true, and_self, true_and, and_true, false_and, and_false, or_true, true_or, or_false, false_or, reduceCtorEq, ne_eq]); (try rfl); done)) | (clear RTN X; constructor <;> ((try simp_all only [mo_timer, if_true, if_false, not_true_eq_false, not_false_eq_true, and_self, true_and, and_true, false_and, and_false, or_true, true_or, or_false, false_or, reduceCtorEq, ne_eq]); (try rfl); done))
set_option maxRecDepth 100000 in
set_option maxHeartbeats 4000000 in
theorem kX11_sound (G : GG) (l : Launch) (q : Nat → Nat) (M : MS) (hq : mInj q) (ch t : Int32) : MC G l yX11_sound cX11_sound 4 ((Option.some .int)) ({ frames := 1, cells := 0, slots := 0, locals := 25 } : Room) [.ref (q 0), .int ch, .int t] (mw G q M) (fun v w' => v = some (.int (mo_sound M ch t).1) ∧ w' = mw G q (mo_sound M ch t).2) := by
  refine mc_int (by decide) (Nat.le_of_ble_eq_true rfl) rfl rfl ?_
  intro p e s m args below meth c A H0 Q X hnm RTN
  have X : Cx G p s m args meth c A H0 cX11_sound 4 RX11 := X
  refine aw_aload_n X dX11_sound_0 rfl rfl ?_
  refine aw_iconst X dX11_sound_1 ci_0 ?_
  refine am_put X 0 (M' := sI _ 0 _) (Nat.le_of_ble_eq_true rfl) fl_X11_1 rfl rfl (rfl) (rfl) (mf_0 _ _ _) rfl dX11_sound_2 ?_
  refine aw_iload_n X dX11_sound_5 rfl rfl ?_
  refine aw_i2l X dX11_sound_6 ?_
  refine aw_lconst X dX11_sound_7 cl_0 ?_
  refine aw_lconst X dX11_sound_8 cl_1 ?_
  refine aw_callS X (kX11_inI _ _ _ _ _ _ 0 1 rfl rfl) okm_X11_in ml_X11_12 st_X11_in rfl rfl (Nat.le_of_ble_eq_true rfl) ⟨Nat.le_of_ble_eq_true rfl, Nat.le_of_ble_eq_true rfl, Nat.le_of_ble_eq_true rfl, Nat.le_of_ble_eq_true rfl⟩ dX11_sound_9 (fun v w2 hp => ?_)
  obtain ⟨rfl, rfl⟩ := hp
  refine aw_if_eq (tgt := 27) X dX11_sound_12 rfl (fun c12 => ?_) (fun c12 => ?_)
  · rw [bI_0] at c12
    refine aw_bipush X dX11_sound_27 cb_m3 ?_
    refine RTN (some (.int _)) _ _ _ _ _ dX11_sound_29 (⟨_, rfl⟩) (Nat.le_of_ble_eq_true rfl) (Nat.le_of_ble_eq_true rfl) ?_
    first | (constructor <;> ((try simp only [mo_sound, c12, if_true, if_false, not_true_eq_false, not_false_eq_true, and_self, true_and, and_true, false_and, and_false, or_true, true_or, or_false, false_or, reduceCtorEq, ne_eq]); (try rfl); done)) | (clear RTN X; constructor <;> ((try simp_all only [mo_sound, if_true, if_false, not_true_eq_false, not_false_eq_true, and_self, true_and, and_true, false_and, and_false, or_true, true_or, or_false, false_or, reduceCtorEq, ne_eq]); (try rfl); done))
  · rw [bI_n0] at c12
    refine aw_iload_n X dX11_sound_15 rfl rfl ?_
    refine aw_i2l X dX11_sound_16 ?_
    refine aw_lconst X dX11_sound_17 cl_0 ?_
    refine aw_ldc2 X kl_X11_284 dX11_sound_18 ?_
    refine aw_callS X (kX11_inI _ _ _ _ _ _ 0 1000 rfl rfl) okm_X11_in ml_X11_12 st_X11_in rfl rfl (Nat.le_of_ble_eq_true rfl) ⟨Nat.le_of_ble_eq_true rfl, Nat.le_of_ble_eq_true rfl, Nat.le_of_ble_eq_true rfl, Nat.le_of_ble_eq_true rfl⟩ dX11_sound_21 (fun v w2 hp => ?_)
    obtain ⟨rfl, rfl⟩ := hp
    refine aw_if_ne (tgt := 30) X dX11_sound_24 rfl (fun c24 => ?_) (fun c24 => ?_)
    · rw [bI_n0] at c24
      refine aw_aload_n X dX11_sound_30 rfl rfl ?_
      refine am_get X 42 (Nat.le_of_ble_eq_true rfl) fl_X11_157 rfl rfl dX11_sound_31 ?_
      refine aw_iload_n X dX11_sound_34 rfl rfl ?_
      refine am_ald X 42 _ (M.2.2 42) hq (by decide) rfl rfl rfl (bt_vp (c12) (by decide) (by decide)) dX11_sound_35 ?_
      refine aw_istore_n (lv' := [(3, _), (0, _), (1, _), (2, _)]) X dX11_sound_36 rfl (by decide) rfl ?_
      refine aw_aload_n X dX11_sound_37 rfl rfl ?_
      refine am_get X 42 (Nat.le_of_ble_eq_true rfl) fl_X11_157 rfl rfl dX11_sound_38 ?_
      refine aw_iload_n X dX11_sound_41 rfl rfl ?_
      refine aw_iload_n X dX11_sound_42 rfl rfl ?_
      refine am_ast X 42 _ hq (by decide) rfl rfl (bt_vp (c12) (by decide) (by decide)) dX11_sound_43 ?_
      refine aw_iload_n X dX11_sound_44 rfl rfl ?_
      refine RTN (some (.int _)) _ _ _ _ _ dX11_sound_45 (⟨_, rfl⟩) (Nat.le_of_ble_eq_true rfl) (Nat.le_of_ble_eq_true rfl) ?_
      first | (constructor <;> ((try simp only [mo_sound, c12, c24, if_true, if_false, not_true_eq_false, not_false_eq_true, and_self, true_and, and_true, false_and, and_false, or_true, true_or, or_false, false_or, reduceCtorEq, ne_eq]); (try rfl); done)) | (clear RTN X; constructor <;> ((try simp_all only [mo_sound, if_true, if_false, not_true_eq_false, not_false_eq_true, and_self, true_and, and_true, false_and, and_false, or_true, true_or, or_false, false_or, reduceCtorEq, ne_eq]); (try rfl); done))
    · rw [bI_0] at c24
      refine aw_bipush X dX11_sound_27 cb_m3 ?_
      refine RTN (some (.int _)) _ _ _ _ _ dX11_sound_29 (⟨_, rfl⟩) (Nat.le_of_ble_eq_true rfl) (Nat.le_of_ble_eq_true rfl) ?_
      first | (constructor <;> ((try simp only [mo_sound, c12, c24, if_true, if_false, not_true_eq_false, not_false_eq_true, and_self, true_and, and_true, false_and, and_false, or_true, true_or, or_false, false_or, reduceCtorEq, ne_eq]); (try rfl); done)) | (clear RTN X; constructor <;> ((try simp_all only [mo_sound, if_true, if_false, not_true_eq_false, not_false_eq_true, and_self, true_and, and_true, false_and, and_false, or_true, true_or, or_false, false_or, reduceCtorEq, ne_eq]); (try rfl); done))
theorem ev_vp {x : Int32} (h : bt x 0 8) (hn : ¬ x = 8) : vp_in x 8 := by
  have h1 := bt_iff.mp h
  have h2 : x.toInt ≠ 8 := fun z => hn ((i32_eq x 8).mpr z)
  exact vp_in_iff.mpr ⟨by omega, by omega⟩
theorem rf_vp {x : Int32} (h : bt x 0 20) (hn : ¬ x = 20) : vp_in x 20 := by
  have h1 := bt_iff.mp h
  have h2 : x.toInt ≠ 20 := fun z => hn ((i32_eq x 20).mpr z)
  exact vp_in_iff.mpr ⟨by omega, by omega⟩
theorem nl_vp {x : Int32} (h : bt x 0 8) (hn : ¬ 8 ≤ x) : vp_in x 8 := ev_vp h (fun z => hn (by rw [z]; decide))
set_option maxRecDepth 100000 in
set_option maxHeartbeats 4000000 in
theorem kX11_comes (G : GG) (l : Launch) (q : Nat → Nat) (M : MS) (hq : mInj q) (e1 : Int32) (he : bt (M.1 44) 0 8) : MC G l yX11_comes cX11_comes 2 (none) ({ frames := 0, cells := 0, slots := 0, locals := 0 } : Room) [.ref (q 0), .int e1] (mw G q M) (fun v w' => v = none ∧ w' = mw G q (mo_comes M e1)) := by
  refine mc_void (by decide) (Nat.le_of_ble_eq_true rfl) rfl rfl ?_
  intro p e s m args below meth c A H0 Q X hnm RTN
  have X : Cx G p s m args meth c A H0 cX11_comes 2 RX11 := X
  refine aw_aload_n X dX11_comes_0 rfl rfl ?_
  refine am_get X 44 (v := .int (M.1 44)) (Nat.le_of_ble_eq_true rfl) fl_X11_295 rfl rfl dX11_comes_1 ?_
  refine aw_bipush X dX11_comes_4 cb_8 ?_
  refine aw_icmp_ne (tgt := 22) X dX11_comes_6 rfl (fun c6 => ?_) (fun c6 => ?_)
  · refine aw_aload_n X dX11_comes_22 rfl rfl ?_
    refine am_get X 43 (Nat.le_of_ble_eq_true rfl) fl_X11_160 rfl rfl dX11_comes_23 ?_
    refine aw_aload_n X dX11_comes_26 rfl rfl ?_
    refine am_get X 44 (v := .int (M.1 44)) (Nat.le_of_ble_eq_true rfl) fl_X11_295 rfl rfl dX11_comes_27 ?_
    refine aw_iload_n X dX11_comes_30 rfl rfl ?_
    refine am_ast X 43 _ hq (by decide) rfl rfl (ev_vp he c6) dX11_comes_31 ?_
    refine aw_aload_n X dX11_comes_32 rfl rfl ?_
    refine aw_dup X dX11_comes_33 rfl ?_
    refine am_get X 44 (v := .int (M.1 44)) (Nat.le_of_ble_eq_true rfl) fl_X11_295 rfl rfl dX11_comes_34 ?_
    refine aw_iconst X dX11_comes_37 ci_1 ?_
    refine aw_iadd X dX11_comes_38 ?_
    refine am_put X 44 (M' := sI _ 44 _) (Nat.le_of_ble_eq_true rfl) fl_X11_295 rfl rfl (rfl) (rfl) (mf_44 _ _ _) rfl dX11_comes_39 ?_
    refine RTN (none) _ _ _ _ _ dX11_comes_42 (rfl) (Nat.le_of_ble_eq_true rfl) (Nat.le_of_ble_eq_true rfl) ?_
    first | (constructor <;> ((try simp only [mo_comes, c6, if_true, if_false, not_true_eq_false, not_false_eq_true, and_self, true_and, and_true, false_and, and_false, or_true, true_or, or_false, false_or, reduceCtorEq, ne_eq]); (try rfl); done)) | (clear RTN X; constructor <;> ((try simp_all only [mo_comes, if_true, if_false, not_true_eq_false, not_false_eq_true, and_self, true_and, and_true, false_and, and_false, or_true, true_or, or_false, false_or, reduceCtorEq, ne_eq]); (try rfl); done))
  · refine aw_aload_n X dX11_comes_9 rfl rfl ?_
    refine aw_dup X dX11_comes_10 rfl ?_
    refine am_get X 45 (v := .int (M.1 45)) (Nat.le_of_ble_eq_true rfl) fl_X11_298 rfl rfl dX11_comes_11 ?_
    refine aw_iconst X dX11_comes_14 ci_1 ?_
    refine aw_iadd X dX11_comes_15 ?_
    refine am_put X 45 (M' := sI _ 45 _) (Nat.le_of_ble_eq_true rfl) fl_X11_298 rfl rfl (rfl) (rfl) (mf_45 _ _ _) rfl dX11_comes_16 ?_
    refine aw_goto (tgt := 42) X dX11_comes_19 rfl ?_
    refine RTN (none) _ _ _ _ _ dX11_comes_42 (rfl) (Nat.le_of_ble_eq_true rfl) (Nat.le_of_ble_eq_true rfl) ?_
    first | (constructor <;> ((try simp only [mo_comes, c6, if_true, if_false, not_true_eq_false, not_false_eq_true, and_self, true_and, and_true, false_and, and_false, or_true, true_or, or_false, false_or, reduceCtorEq, ne_eq]); (try rfl); done)) | (clear RTN X; constructor <;> ((try simp_all only [mo_comes, if_true, if_false, not_true_eq_false, not_false_eq_true, and_self, true_and, and_true, false_and, and_false, or_true, true_or, or_false, false_or, reduceCtorEq, ne_eq]); (try rfl); done))
set_option maxRecDepth 100000 in
set_option maxHeartbeats 4000000 in
theorem kX11_temporary (G : GG) (l : Launch) (q : Nat → Nat) (M : MS) (hq : mInj q) (hF : mi_refs M) (u : Int32) : MC G l yX11_temporary cX11_temporary 3 ((Option.some .int)) ({ frames := 1, cells := 0, slots := 0, locals := 25 } : Room) [.ref (q 0), .int u] (mw G q M) (fun v w' => v = some (.int (mo_temporary M u).1) ∧ w' = mw G q (mo_temporary M u).2) := by
  refine mc_int (by decide) (Nat.le_of_ble_eq_true rfl) rfl rfl ?_
  intro p e s m args below meth c A H0 Q X hnm RTN
  have X : Cx G p s m args meth c A H0 cX11_temporary 3 RX11 := X
  refine aw_aload_n X dX11_temporary_0 rfl rfl ?_
  refine aw_iconst X dX11_temporary_1 ci_0 ?_
  refine am_put X 0 (M' := sI _ 0 _) (Nat.le_of_ble_eq_true rfl) fl_X11_1 rfl rfl (rfl) (rfl) (mf_0 _ _ _) rfl dX11_temporary_2 ?_
  refine aw_iload_n X dX11_temporary_5 rfl rfl ?_
  refine aw_i2l X dX11_temporary_6 ?_
  refine aw_lconst X dX11_temporary_7 cl_0 ?_
  refine aw_ldc2 X kl_X11_108 dX11_temporary_8 ?_
  refine aw_callS X (kX11_inI _ _ _ _ _ _ 0 3 rfl rfl) okm_X11_in ml_X11_12 st_X11_in rfl rfl (Nat.le_of_ble_eq_true rfl) ⟨Nat.le_of_ble_eq_true rfl, Nat.le_of_ble_eq_true rfl, Nat.le_of_ble_eq_true rfl, Nat.le_of_ble_eq_true rfl⟩ dX11_temporary_11 (fun v w2 hp => ?_)
  obtain ⟨rfl, rfl⟩ := hp
  refine aw_if_ne (tgt := 20) X dX11_temporary_14 rfl (fun c14 => ?_) (fun c14 => ?_)
  · rw [bI_n0] at c14
    refine aw_aload_n X dX11_temporary_20 rfl rfl ?_
    refine am_get X 29 (v := .int (M.1 29)) (Nat.le_of_ble_eq_true rfl) fl_X11_194 rfl rfl dX11_temporary_21 ?_
    refine aw_bipush X dX11_temporary_24 cb_20 ?_
    refine aw_icmp_ne (tgt := 32) X dX11_temporary_26 rfl (fun c26 => ?_) (fun c26 => ?_)
    · refine aw_aload_n X dX11_temporary_32 rfl rfl ?_
      refine am_get X 29 (v := .int (M.1 29)) (Nat.le_of_ble_eq_true rfl) fl_X11_194 rfl rfl dX11_temporary_33 ?_
      refine aw_istore_n (lv' := [(2, _), (0, _), (1, _)]) X dX11_temporary_36 rfl (by decide) rfl ?_
      refine aw_aload_n X dX11_temporary_37 rfl rfl ?_
      refine aw_dup X dX11_temporary_38 rfl ?_
      refine am_get X 29 (v := .int (M.1 29)) (Nat.le_of_ble_eq_true rfl) fl_X11_194 rfl rfl dX11_temporary_39 ?_
      refine aw_iconst X dX11_temporary_42 ci_1 ?_
      refine aw_iadd X dX11_temporary_43 ?_
      refine am_put X 29 (M' := sI _ 29 _) (Nat.le_of_ble_eq_true rfl) fl_X11_194 rfl rfl (rfl) (rfl) (mf_29 _ _ _) rfl dX11_temporary_44 ?_
      refine aw_aload_n X dX11_temporary_47 rfl rfl ?_
      refine am_get X 30 (Nat.le_of_ble_eq_true rfl) fl_X11_145 rfl rfl dX11_temporary_48 ?_
      refine aw_iload_n X dX11_temporary_51 rfl rfl ?_
      refine aw_iload_n X dX11_temporary_52 rfl rfl ?_
      refine am_ast X 30 _ hq (by decide) rfl rfl (rf_vp hF c26) dX11_temporary_53 ?_
      refine aw_aload_n X dX11_temporary_54 rfl rfl ?_
      refine am_get X 33 (Nat.le_of_ble_eq_true rfl) fl_X11_67 rfl rfl dX11_temporary_55 ?_
      refine aw_iload_n X dX11_temporary_58 rfl rfl ?_
      refine aw_iconst X dX11_temporary_59 ci_1 ?_
      refine am_zst X 33 _ hq (by decide) rfl rfl (rfl) (rf_vp hF c26) dX11_temporary_60 ?_
      refine aw_aload_n X dX11_temporary_61 rfl rfl ?_
      refine am_get X 34 (Nat.le_of_ble_eq_true rfl) fl_X11_112 rfl rfl dX11_temporary_62 ?_
      refine aw_iload_n X dX11_temporary_65 rfl rfl ?_
      refine aw_iload_n X dX11_temporary_66 rfl rfl ?_
      refine am_ast X 34 _ hq (by decide) rfl rfl (rf_vp hF c26) dX11_temporary_67 ?_
      refine aw_iload_n X dX11_temporary_68 rfl rfl ?_
      refine RTN (some (.int _)) _ _ _ _ _ dX11_temporary_69 (⟨_, rfl⟩) (Nat.le_of_ble_eq_true rfl) (Nat.le_of_ble_eq_true rfl) ?_
      first | (constructor <;> ((try simp only [mo_temporary, c14, c26, if_true, if_false, not_true_eq_false, not_false_eq_true, and_self, true_and, and_true, false_and, and_false, or_true, true_or, or_false, false_or, reduceCtorEq, ne_eq]); (try rfl); done)) | (clear RTN X; constructor <;> ((try simp_all only [mo_temporary, if_true, if_false, not_true_eq_false, not_false_eq_true, and_self, true_and, and_true, false_and, and_false, or_true, true_or, or_false, false_or, reduceCtorEq, ne_eq]); (try rfl); done))
    · refine aw_bipush X dX11_temporary_29 cb_m5 ?_
      refine RTN (some (.int _)) _ _ _ _ _ dX11_temporary_31 (⟨_, rfl⟩) (Nat.le_of_ble_eq_true rfl) (Nat.le_of_ble_eq_true rfl) ?_
      first | (constructor <;> ((try simp only [mo_temporary, c14, c26, if_true, if_false, not_true_eq_false, not_false_eq_true, and_self, true_and, and_true, false_and, and_false, or_true, true_or, or_false, false_or, reduceCtorEq, ne_eq]); (try rfl); done)) | (clear RTN X; constructor <;> ((try simp_all only [mo_temporary, if_true, if_false, not_true_eq_false, not_false_eq_true, and_self, true_and, and_true, false_and, and_false, or_true, true_or, or_false, false_or, reduceCtorEq, ne_eq]); (try rfl); done))
  · rw [bI_0] at c14
    refine aw_bipush X dX11_temporary_17 cb_m3 ?_
    refine RTN (some (.int _)) _ _ _ _ _ dX11_temporary_19 (⟨_, rfl⟩) (Nat.le_of_ble_eq_true rfl) (Nat.le_of_ble_eq_true rfl) ?_
    first | (constructor <;> ((try simp only [mo_temporary, c14, if_true, if_false, not_true_eq_false, not_false_eq_true, and_self, true_and, and_true, false_and, and_false, or_true, true_or, or_false, false_or, reduceCtorEq, ne_eq]); (try rfl); done)) | (clear RTN X; constructor <;> ((try simp_all only [mo_temporary, if_true, if_false, not_true_eq_false, not_false_eq_true, and_self, true_and, and_true, false_and, and_false, or_true, true_or, or_false, false_or, reduceCtorEq, ne_eq]); (try rfl); done))
set_option maxRecDepth 100000 in
set_option maxHeartbeats 4000000 in
theorem kX11_exists (G : GG) (l : Launch) (q : Nat → Nat) (M : MS) (hq : mInj q) (hF : mi_refs M) (hG : mi_first M) (r : Int32) : MC G l yX11_exists cX11_exists 3 ((Option.some .int)) ({ frames := 2, cells := 0, slots := 0, locals := 46 } : Room) [.ref (q 0), .int r] (mw G q M) (fun v w' => v = some (.int (mo_exists M r).1) ∧ w' = mw G q (mo_exists M r).2) := by
  refine mc_int (by decide) (Nat.le_of_ble_eq_true rfl) rfl rfl ?_
  intro p e s m args below meth c A H0 Q X hnm RTN
  have X : Cx G p s m args meth c A H0 cX11_exists 3 RX11 := X
  refine aw_aload_n X dX11_exists_0 rfl rfl ?_
  refine aw_iconst X dX11_exists_1 ci_0 ?_
  refine am_put X 0 (M' := sI _ 0 _) (Nat.le_of_ble_eq_true rfl) fl_X11_1 rfl rfl (rfl) (rfl) (mf_0 _ _ _) rfl dX11_exists_2 ?_
  refine aw_aload_n X dX11_exists_5 rfl rfl ?_
  refine aw_iload_n X dX11_exists_6 rfl rfl ?_
  refine aw_callV X (kX11_isReference _ _ _ _ hq _ (M.1 29) rfl) okm_X11_isReference okX11 mw_0 ml_X11_64 im_X11_isReference se_X11_X11_isReference rfl rfl (Nat.le_of_ble_eq_true rfl) ⟨Nat.le_of_ble_eq_true rfl, Nat.le_of_ble_eq_true rfl, Nat.le_of_ble_eq_true rfl, Nat.le_of_ble_eq_true rfl⟩ dX11_exists_7 (fun v w2 hp => ?_)
  obtain ⟨rfl, rfl⟩ := hp
  refine aw_if_ne (tgt := 16) X dX11_exists_10 rfl (fun c10 => ?_) (fun c10 => ?_)
  · rw [bI_n0] at c10
    refine aw_aload_n X dX11_exists_16 rfl rfl ?_
    refine am_get X 34 (Nat.le_of_ble_eq_true rfl) fl_X11_112 rfl rfl dX11_exists_17 ?_
    refine aw_iload_n X dX11_exists_20 rfl rfl ?_
    refine am_ald X 34 _ (M.2.2 34) hq (by decide) rfl rfl rfl (bt_vp (refs_bt hF c10) (by decide) (by decide)) dX11_exists_21 ?_
    refine aw_istore_n (lv' := [(2, _), (0, _), (1, _)]) X dX11_exists_22 rfl (by decide) rfl ?_
    refine aw_aload_n X dX11_exists_23 rfl rfl ?_
    refine am_get X 35 (Nat.le_of_ble_eq_true rfl) fl_X11_115 rfl rfl dX11_exists_24 ?_
    refine aw_iload_n X dX11_exists_27 rfl rfl ?_
    refine am_zld X 35 _ (M.2.2 35) hq (by decide) rfl rfl rfl (bt_vp (hG _ (cl_lt (refs_bt hF c10) (by decide) (by decide))) (by decide) (by decide)) dX11_exists_28 ?_
    refine aw_if_eq (tgt := 41) X dX11_exists_29 rfl (fun c29 => ?_) (fun c29 => ?_)
    · refine aw_iconst X dX11_exists_41 ci_m1 ?_
      refine RTN (some (.int _)) _ _ _ _ _ dX11_exists_42 (⟨_, rfl⟩) (Nat.le_of_ble_eq_true rfl) (Nat.le_of_ble_eq_true rfl) ?_
      first | (constructor <;> ((try simp only [mo_exists, c10, c29, if_true, if_false, not_true_eq_false, not_false_eq_true, and_self, true_and, and_true, false_and, and_false, or_true, true_or, or_false, false_or, reduceCtorEq, ne_eq]); (try rfl); done)) | (clear RTN X; constructor <;> ((try simp_all only [mo_exists, if_true, if_false, not_true_eq_false, not_false_eq_true, and_self, true_and, and_true, false_and, and_false, or_true, true_or, or_false, false_or, reduceCtorEq, ne_eq]); (try rfl); done))
    · refine aw_aload_n X dX11_exists_32 rfl rfl ?_
      refine am_get X 36 (Nat.le_of_ble_eq_true rfl) fl_X11_121 rfl rfl dX11_exists_33 ?_
      refine aw_iload_n X dX11_exists_36 rfl rfl ?_
      refine am_ald X 36 _ (M.2.2 36) hq (by decide) rfl rfl rfl (bt_vp (hG _ (cl_lt (refs_bt hF c10) (by decide) (by decide))) (by decide) (by decide)) dX11_exists_37 ?_
      refine aw_goto (tgt := 42) X dX11_exists_38 rfl ?_
      refine RTN (some (.int _)) _ _ _ _ _ dX11_exists_42 (⟨_, rfl⟩) (Nat.le_of_ble_eq_true rfl) (Nat.le_of_ble_eq_true rfl) ?_
      first | (constructor <;> ((try simp only [mo_exists, c10, c29, if_true, if_false, not_true_eq_false, not_false_eq_true, and_self, true_and, and_true, false_and, and_false, or_true, true_or, or_false, false_or, reduceCtorEq, ne_eq]); (try rfl); done)) | (clear RTN X; constructor <;> ((try simp_all only [mo_exists, if_true, if_false, not_true_eq_false, not_false_eq_true, and_self, true_and, and_true, false_and, and_false, or_true, true_or, or_false, false_or, reduceCtorEq, ne_eq]); (try rfl); done))
  · rw [bI_0] at c10
    refine aw_bipush X dX11_exists_13 cb_m2 ?_
    refine RTN (some (.int _)) _ _ _ _ _ dX11_exists_15 (⟨_, rfl⟩) (Nat.le_of_ble_eq_true rfl) (Nat.le_of_ble_eq_true rfl) ?_
    first | (constructor <;> ((try simp only [mo_exists, c10, if_true, if_false, not_true_eq_false, not_false_eq_true, and_self, true_and, and_true, false_and, and_false, or_true, true_or, or_false, false_or, reduceCtorEq, ne_eq]); (try rfl); done)) | (clear RTN X; constructor <;> ((try simp_all only [mo_exists, if_true, if_false, not_true_eq_false, not_false_eq_true, and_self, true_and, and_true, false_and, and_false, or_true, true_or, or_false, false_or, reduceCtorEq, ne_eq]); (try rfl); done))
set_option maxRecDepth 100000 in
set_option maxHeartbeats 4000000 in
theorem kX11_drop (G : GG) (l : Launch) (q : Nat → Nat) (M : MS) (hq : mInj q) (hF : mi_refs M) (hG : mi_first M) (r : Int32) : MC G l yX11_drop cX11_drop 4 ((Option.some .int)) ({ frames := 2, cells := 0, slots := 0, locals := 46 } : Room) [.ref (q 0), .int r] (mw G q M) (fun v w' => v = some (.int (mo_drop M r).1) ∧ w' = mw G q (mo_drop M r).2) := by
  refine mc_int (by decide) (Nat.le_of_ble_eq_true rfl) rfl rfl ?_
  intro p e s m args below meth c A H0 Q X hnm RTN
  have X : Cx G p s m args meth c A H0 cX11_drop 4 RX11 := X
  refine aw_aload_n X dX11_drop_0 rfl rfl ?_
  refine aw_iconst X dX11_drop_1 ci_0 ?_
  refine am_put X 0 (M' := sI _ 0 _) (Nat.le_of_ble_eq_true rfl) fl_X11_1 rfl rfl (rfl) (rfl) (mf_0 _ _ _) rfl dX11_drop_2 ?_
  refine aw_aload_n X dX11_drop_5 rfl rfl ?_
  refine aw_iload_n X dX11_drop_6 rfl rfl ?_
  refine aw_callV X (kX11_isReference _ _ _ _ hq _ (M.1 29) rfl) okm_X11_isReference okX11 mw_0 ml_X11_64 im_X11_isReference se_X11_X11_isReference rfl rfl (Nat.le_of_ble_eq_true rfl) ⟨Nat.le_of_ble_eq_true rfl, Nat.le_of_ble_eq_true rfl, Nat.le_of_ble_eq_true rfl, Nat.le_of_ble_eq_true rfl⟩ dX11_drop_7 (fun v w2 hp => ?_)
  obtain ⟨rfl, rfl⟩ := hp
  refine aw_if_ne (tgt := 16) X dX11_drop_10 rfl (fun c10 => ?_) (fun c10 => ?_)
  · rw [bI_n0] at c10
    refine aw_aload_n X dX11_drop_16 rfl rfl ?_
    refine am_get X 34 (Nat.le_of_ble_eq_true rfl) fl_X11_112 rfl rfl dX11_drop_17 ?_
    refine aw_iload_n X dX11_drop_20 rfl rfl ?_
    refine am_ald X 34 _ (M.2.2 34) hq (by decide) rfl rfl rfl (bt_vp (refs_bt hF c10) (by decide) (by decide)) dX11_drop_21 ?_
    refine aw_istore_n (lv' := [(2, _), (0, _), (1, _)]) X dX11_drop_22 rfl (by decide) rfl ?_
    refine aw_iconst X dX11_drop_23 ci_0 ?_
    refine aw_istore_n (lv' := [(3, _), (2, _), (0, _), (1, _)]) X dX11_drop_24 rfl (by decide) rfl ?_
    have L : ∀ (nn : Nat) (i : Nat) (x : Int32), (x = nI i) → (i ≤ 8) → (∀ j, j < i → fo M (M.2.2 34 r.toNatClampNeg) j = false) → (9 ≤ i + nn) → AW G p l e ({ frames := 2, cells := 0, slots := 0, locals := 46 } : Room) s m args below meth c 4 A H0 Q (mw G q (sI M 0 0)) 0 0 25 [(3, .int x), (2, .int (M.2.2 34 r.toNatClampNeg)), (0, .ref (q 0)), (1, .int r)] [] := by
      intro nn
      induction nn with
      | zero => intro i x hx h1 hb h2; exact absurd h2 (by omega)
      | succ nn ih =>
        intro i x hx h1 hb h2
        subst hx
        refine aw_iload_n X dX11_drop_25 rfl rfl ?_
        refine aw_bipush X dX11_drop_26 cb_8 ?_
        refine aw_icmp_ge (tgt := 69) X dX11_drop_28 rfl (fun c28 => ?_) (fun c28 => ?_)
        · have h9 : i = 8 := by have := ge_i (N := 8) rfl (by omega) (by decide) c28; omega
          subst h9
          have hno : (List.range 8).any (fo M (M.2.2 34 r.toNatClampNeg)) = false := List.any_eq_false.mpr (fun j hj => by rw [hb j (List.mem_range.mp hj)]; exact fun z => by cases z)
          refine aw_aload_n X dX11_drop_69 rfl rfl ?_
          refine am_get X 35 (Nat.le_of_ble_eq_true rfl) fl_X11_115 rfl rfl dX11_drop_70 ?_
          refine aw_iload_n X dX11_drop_73 rfl rfl ?_
          refine am_zld X 35 _ (M.2.2 35) hq (by decide) rfl rfl rfl (bt_vp (hG _ (cl_lt (refs_bt hF c10) (by decide) (by decide))) (by decide) (by decide)) dX11_drop_74 ?_
          refine aw_if_ne (tgt := 80) X dX11_drop_75 rfl (fun c75 => ?_) (fun c75 => ?_)
          · refine aw_aload_n X dX11_drop_80 rfl rfl ?_
            refine am_get X 35 (Nat.le_of_ble_eq_true rfl) fl_X11_115 rfl rfl dX11_drop_81 ?_
            refine aw_iload_n X dX11_drop_84 rfl rfl ?_
            refine aw_iconst X dX11_drop_85 ci_0 ?_
            refine am_zst X 35 _ hq (by decide) rfl rfl (rfl) (bt_vp (hG _ (cl_lt (refs_bt hF c10) (by decide) (by decide))) (by decide) (by decide)) dX11_drop_86 ?_
            refine aw_aload_n X dX11_drop_87 rfl rfl ?_
            refine aw_dup X dX11_drop_88 rfl ?_
            refine am_get X 38 (v := .int (M.1 38)) (Nat.le_of_ble_eq_true rfl) fl_X11_118 rfl rfl dX11_drop_89 ?_
            refine aw_iconst X dX11_drop_92 ci_1 ?_
            refine aw_isub X dX11_drop_93 ?_
            refine am_put X 38 (M' := sI _ 38 _) (Nat.le_of_ble_eq_true rfl) fl_X11_118 rfl rfl (rfl) (rfl) (mf_38 _ _ _) rfl dX11_drop_94 ?_
            refine aw_iconst X dX11_drop_97 ci_1 ?_
            refine RTN (some (.int _)) _ _ _ _ _ dX11_drop_98 (⟨_, rfl⟩) (Nat.le_of_ble_eq_true rfl) (Nat.le_of_ble_eq_true rfl) ?_
            first | (constructor <;> ((try simp only [mo_drop, c10, hno, Bool.false_eq_true, c75, if_true, if_false, not_true_eq_false, not_false_eq_true, and_self, true_and, and_true, false_and, and_false, or_true, true_or, or_false, false_or, reduceCtorEq, ne_eq]); (try rfl); done)) | (clear RTN X; constructor <;> ((try simp_all only [mo_drop, c10, hno, Bool.false_eq_true, if_true, if_false, not_true_eq_false, not_false_eq_true, and_self, true_and, and_true, false_and, and_false, or_true, true_or, or_false, false_or, reduceCtorEq, ne_eq]); (try rfl); done))
          · refine aw_iconst X dX11_drop_78 ci_0 ?_
            refine RTN (some (.int _)) _ _ _ _ _ dX11_drop_79 (⟨_, rfl⟩) (Nat.le_of_ble_eq_true rfl) (Nat.le_of_ble_eq_true rfl) ?_
            first | (constructor <;> ((try simp only [mo_drop, c10, hno, Bool.false_eq_true, c75, if_true, if_false, not_true_eq_false, not_false_eq_true, and_self, true_and, and_true, false_and, and_false, or_true, true_or, or_false, false_or, reduceCtorEq, ne_eq]); (try rfl); done)) | (clear RTN X; constructor <;> ((try simp_all only [mo_drop, c10, hno, Bool.false_eq_true, if_true, if_false, not_true_eq_false, not_false_eq_true, and_self, true_and, and_true, false_and, and_false, or_true, true_or, or_false, false_or, reduceCtorEq, ne_eq]); (try rfl); done))
        · have h9 : i < 8 := lt_i (N := 8) rfl (by omega) (by decide) c28
          refine aw_aload_n X dX11_drop_31 rfl rfl ?_
          refine am_get X 6 (Nat.le_of_ble_eq_true rfl) fl_X11_20 rfl rfl dX11_drop_32 ?_
          refine aw_iload_n X dX11_drop_35 rfl rfl ?_
          refine am_ald X 6 _ (M.2.2 6) hq (by decide) rfl rfl rfl (vp_in_nI h9 (by decide)) dX11_drop_36 ?_
          refine aw_if_le (tgt := 63) X dX11_drop_37 rfl (fun c37 => ?_) (fun c37 => ?_)
          · rw [nI_clamp (by omega)] at c37
            rw [← Int32.not_lt] at c37
            refine aw_iinc (lv' := [(3, _), (2, _), (0, _), (1, _)]) X dX11_drop_63 rfl (iinc_1 _) (by decide) rfl ?_
            refine aw_goto (tgt := 25) X dX11_drop_66 rfl ?_
            refine aw_lv [0, 1, 2, 3] rfl ?_
            exact ih (i + 1) _ (nI_1 i) (by omega) (lt_s hb (by simp only [fo]; simp [c37])) (by omega)
          · rw [nI_clamp (by omega)] at c37
            rw [Int32.not_le] at c37
            refine aw_aload_n X dX11_drop_40 rfl rfl ?_
            refine am_get X 8 (Nat.le_of_ble_eq_true rfl) fl_X11_23 rfl rfl dX11_drop_41 ?_
            refine aw_iload_n X dX11_drop_44 rfl rfl ?_
            refine am_ald X 8 _ (M.2.2 8) hq (by decide) rfl rfl rfl (vp_in_nI h9 (by decide)) dX11_drop_45 ?_
            refine aw_iconst X dX11_drop_46 ci_2 ?_
            refine aw_icmp_ne (tgt := 63) X dX11_drop_47 rfl (fun c47 => ?_) (fun c47 => ?_)
            · rw [nI_clamp (by omega)] at c47
              refine aw_iinc (lv' := [(3, _), (2, _), (0, _), (1, _)]) X dX11_drop_63 rfl (iinc_1 _) (by decide) rfl ?_
              refine aw_goto (tgt := 25) X dX11_drop_66 rfl ?_
              refine aw_lv [0, 1, 2, 3] rfl ?_
              exact ih (i + 1) _ (nI_1 i) (by omega) (lt_s hb (by simp only [fo]; simp [c37, c47])) (by omega)
            · rw [nI_clamp (by omega)] at c47
              refine aw_aload_n X dX11_drop_50 rfl rfl ?_
              refine am_get X 16 (Nat.le_of_ble_eq_true rfl) fl_X11_92 rfl rfl dX11_drop_51 ?_
              refine aw_iload_n X dX11_drop_54 rfl rfl ?_
              refine am_ald X 16 _ (M.2.2 16) hq (by decide) rfl rfl rfl (vp_in_nI h9 (by decide)) dX11_drop_55 ?_
              refine aw_iload_n X dX11_drop_56 rfl rfl ?_
              refine aw_icmp_ne (tgt := 63) X dX11_drop_57 rfl (fun c57 => ?_) (fun c57 => ?_)
              · rw [nI_clamp (by omega)] at c57
                refine aw_iinc (lv' := [(3, _), (2, _), (0, _), (1, _)]) X dX11_drop_63 rfl (iinc_1 _) (by decide) rfl ?_
                refine aw_goto (tgt := 25) X dX11_drop_66 rfl ?_
                refine aw_lv [0, 1, 2, 3] rfl ?_
                exact ih (i + 1) _ (nI_1 i) (by omega) (lt_s hb (by simp only [fo]; simp [c37, c47, c57])) (by omega)
              · rw [nI_clamp (by omega)] at c57
                have hyes : (List.range 8).any (fo M (M.2.2 34 r.toNatClampNeg)) = true := List.any_eq_true.mpr ⟨i, List.mem_range.mpr h9, by simp only [fo]; simp [c37, c47, c57]⟩
                refine aw_bipush X dX11_drop_60 cb_m4 ?_
                refine RTN (some (.int _)) _ _ _ _ _ dX11_drop_62 (⟨_, rfl⟩) (Nat.le_of_ble_eq_true rfl) (Nat.le_of_ble_eq_true rfl) ?_
                first | (constructor <;> ((try simp only [mo_drop, c10, hyes, if_true, if_false, not_true_eq_false, not_false_eq_true, and_self, true_and, and_true, false_and, and_false, or_true, true_or, or_false, false_or, reduceCtorEq, ne_eq]); (try rfl); done)) | (clear RTN X; constructor <;> ((try simp_all only [mo_drop, c10, hyes, if_true, if_false, not_true_eq_false, not_false_eq_true, and_self, true_and, and_true, false_and, and_false, or_true, true_or, or_false, false_or, reduceCtorEq, ne_eq]); (try rfl); done))
    refine aw_lv [0, 1, 2, 3] rfl ?_
    exact L 9 0 _ rfl (by decide) (fun j h => absurd h (Nat.not_lt_zero j)) (by decide)
  · rw [bI_0] at c10
    refine aw_bipush X dX11_drop_13 cb_m2 ?_
    refine RTN (some (.int _)) _ _ _ _ _ dX11_drop_15 (⟨_, rfl⟩) (Nat.le_of_ble_eq_true rfl) (Nat.le_of_ble_eq_true rfl) ?_
    first | (constructor <;> ((try simp only [mo_drop, c10, if_true, if_false, not_true_eq_false, not_false_eq_true, and_self, true_and, and_true, false_and, and_false, or_true, true_or, or_false, false_or, reduceCtorEq, ne_eq]); (try rfl); done)) | (clear RTN X; constructor <;> ((try simp_all only [mo_drop, if_true, if_false, not_true_eq_false, not_false_eq_true, and_self, true_and, and_true, false_and, and_false, or_true, true_or, or_false, false_or, reduceCtorEq, ne_eq]); (try rfl); done))
set_option maxRecDepth 100000 in
set_option maxHeartbeats 4000000 in
theorem kX11_share (G : GG) (l : Launch) (q : Nat → Nat) (M : MS) (hq : mInj q) : MC G l yX11_share cX11_share 1 ((Option.some .int)) ({ frames := 0, cells := 0, slots := 0, locals := 0 } : Room) [.ref (q 0)] (mw G q M) (fun v w' => v = some (.int (mo_share M).1) ∧ w' = mw G q (mo_share M).2) := by
  refine mc_int (by decide) (Nat.le_of_ble_eq_true rfl) rfl rfl ?_
  intro p e s m args below meth c A H0 Q X hnm RTN
  have X : Cx G p s m args meth c A H0 cX11_share 1 RX11 := X
  refine aw_aload_n X dX11_share_0 rfl rfl ?_
  refine aw_aload_n X dX11_share_1 rfl rfl ?_
  refine am_get X 22 (v := .long (M.2.1 22)) (Nat.le_of_ble_eq_true rfl) fl_X11_172 rfl rfl dX11_share_2 ?_
  refine aw_lconst X dX11_share_5 cl_0 ?_
  refine aw_lcmp X dX11_share_6 ?_
  refine aw_if_ne (tgt := 14) X dX11_share_7 rfl (fun c7 => ?_) (fun c7 => ?_)
  · rw [lg_cmp_eq] at c7
    refine aw_iconst X dX11_share_14 ci_0 ?_
    refine am_put X 0 (M' := sI _ 0 _) (Nat.le_of_ble_eq_true rfl) fl_X11_1 rfl rfl (rfl) (rfl) (mf_0 _ _ _) rfl dX11_share_15 ?_
    refine aw_aload_n X dX11_share_18 rfl rfl ?_
    refine am_get X 0 (v := .int 0) (Nat.le_of_ble_eq_true rfl) fl_X11_1 rfl rfl dX11_share_19 ?_
    refine aw_if_le (tgt := 29) X dX11_share_22 rfl (fun c22 => ?_) (fun c22 => ?_)
    · refine aw_aload_n X dX11_share_29 rfl rfl ?_
      refine am_get X 21 (v := .long (M.2.1 21)) (Nat.le_of_ble_eq_true rfl) fl_X11_168 rfl rfl dX11_share_30 ?_
      refine aw_aload_n X dX11_share_33 rfl rfl ?_
      refine am_get X 22 (v := .long (M.2.1 22)) (Nat.le_of_ble_eq_true rfl) fl_X11_172 rfl rfl dX11_share_34 ?_
      refine aw_ldiv X dX11_share_37 (c7) ?_
      refine aw_l2i X dX11_share_38 ?_
      refine RTN (some (.int _)) _ _ _ _ _ dX11_share_39 (⟨_, rfl⟩) (Nat.le_of_ble_eq_true rfl) (Nat.le_of_ble_eq_true rfl) ?_
      first | (constructor <;> ((try simp only [mo_share, c7, if_true, if_false, not_true_eq_false, not_false_eq_true, and_self, true_and, and_true, false_and, and_false, or_true, true_or, or_false, false_or, reduceCtorEq, ne_eq]); (try rfl); done)) | (clear RTN X; constructor <;> ((try simp_all only [mo_share, if_true, if_false, not_true_eq_false, not_false_eq_true, and_self, true_and, and_true, false_and, and_false, or_true, true_or, or_false, false_or, reduceCtorEq, ne_eq]); (try rfl); done))
    · exact absurd c22 (by decide)
  · rw [lg_cmp_eq] at c7
    refine aw_iconst X dX11_share_10 ci_1 ?_
    refine aw_goto (tgt := 15) X dX11_share_11 rfl ?_
    refine am_put X 0 (M' := sI _ 0 _) (Nat.le_of_ble_eq_true rfl) fl_X11_1 rfl rfl (rfl) (rfl) (mf_0 _ _ _) rfl dX11_share_15 ?_
    refine aw_aload_n X dX11_share_18 rfl rfl ?_
    refine am_get X 0 (v := .int 1) (Nat.le_of_ble_eq_true rfl) fl_X11_1 rfl rfl dX11_share_19 ?_
    refine aw_if_le (tgt := 29) X dX11_share_22 rfl (fun c22 => ?_) (fun c22 => ?_)
    · exact absurd c22 (by decide)
    · refine aw_iconst X dX11_share_25 ci_0 ?_
      refine aw_goto (tgt := 39) X dX11_share_26 rfl ?_
      refine RTN (some (.int _)) _ _ _ _ _ dX11_share_39 (⟨_, rfl⟩) (Nat.le_of_ble_eq_true rfl) (Nat.le_of_ble_eq_true rfl) ?_
      first | (constructor <;> ((try simp only [mo_share, c7, if_true, if_false, not_true_eq_false, not_false_eq_true, and_self, true_and, and_true, false_and, and_false, or_true, true_or, or_false, false_or, reduceCtorEq, ne_eq]); (try rfl); done)) | (clear RTN X; constructor <;> ((try simp_all only [mo_share, if_true, if_false, not_true_eq_false, not_false_eq_true, and_self, true_and, and_true, false_and, and_false, or_true, true_or, or_false, false_or, reduceCtorEq, ne_eq]); (try rfl); done))
theorem bI_b {b : Bool} : bI (b = true) = b2 b := by cases b <;> rfl
set_option maxRecDepth 100000 in
set_option maxHeartbeats 4000000 in
theorem kX11_isBarred (G : GG) (l : Launch) (w : WM) (c0 : Int32) : MC G l yX11_isBarred cX11_isBarred 1 ((Option.some .boolean)) ({ frames := 0, cells := 0, slots := 0, locals := 0 } : Room) [.int c0] w (fun v w' => v = some (.int (bI (barr c0 = true))) ∧ w' = w) := by
  refine mc_bool (by decide) (Nat.le_of_ble_eq_true rfl) rfl rfl ?_
  intro p e s m args below meth c A H0 Q X hnm RTN
  have X : Cx G p s m args meth c A H0 cX11_isBarred 1 RX11 := X
  refine aw_iload_n X dX11_isBarred_0 rfl rfl ?_
  refine aw_bipush X dX11_isBarred_1 cb_32 ?_
  refine aw_icmp_lt (tgt := 66) X dX11_isBarred_3 rfl (fun c3 => ?_) (fun c3 => ?_)
  · refine aw_iconst X dX11_isBarred_66 ci_1 ?_
    refine aw_goto (tgt := 71) X dX11_isBarred_67 rfl ?_
    refine RTN (some (.int _)) _ _ _ _ _ dX11_isBarred_71 (by first | exact Or.inl rfl | exact Or.inr rfl) (Nat.le_of_ble_eq_true rfl) (Nat.le_of_ble_eq_true rfl) ?_
    exact ⟨by rw [bI_b]; simp [barr, b2, c3], rfl⟩
  · refine aw_iload_n X dX11_isBarred_6 rfl rfl ?_
    refine aw_bipush X dX11_isBarred_7 cb_126 ?_
    refine aw_icmp_gt (tgt := 66) X dX11_isBarred_9 rfl (fun c9 => ?_) (fun c9 => ?_)
    · refine aw_iconst X dX11_isBarred_66 ci_1 ?_
      refine aw_goto (tgt := 71) X dX11_isBarred_67 rfl ?_
      refine RTN (some (.int _)) _ _ _ _ _ dX11_isBarred_71 (by first | exact Or.inl rfl | exact Or.inr rfl) (Nat.le_of_ble_eq_true rfl) (Nat.le_of_ble_eq_true rfl) ?_
      exact ⟨by rw [bI_b]; simp [barr, b2, c3, c9], rfl⟩
    · refine aw_iload_n X dX11_isBarred_12 rfl rfl ?_
      refine aw_bipush X dX11_isBarred_13 cb_47 ?_
      refine aw_icmp_eq (tgt := 66) X dX11_isBarred_15 rfl (fun c15 => ?_) (fun c15 => ?_)
      · refine aw_iconst X dX11_isBarred_66 ci_1 ?_
        refine aw_goto (tgt := 71) X dX11_isBarred_67 rfl ?_
        refine RTN (some (.int _)) _ _ _ _ _ dX11_isBarred_71 (by first | exact Or.inl rfl | exact Or.inr rfl) (Nat.le_of_ble_eq_true rfl) (Nat.le_of_ble_eq_true rfl) ?_
        exact ⟨by rw [bI_b]; simp [barr, b2, c3, c9, c15], rfl⟩
      · refine aw_iload_n X dX11_isBarred_18 rfl rfl ?_
        refine aw_bipush X dX11_isBarred_19 cb_92 ?_
        refine aw_icmp_eq (tgt := 66) X dX11_isBarred_21 rfl (fun c21 => ?_) (fun c21 => ?_)
        · refine aw_iconst X dX11_isBarred_66 ci_1 ?_
          refine aw_goto (tgt := 71) X dX11_isBarred_67 rfl ?_
          refine RTN (some (.int _)) _ _ _ _ _ dX11_isBarred_71 (by first | exact Or.inl rfl | exact Or.inr rfl) (Nat.le_of_ble_eq_true rfl) (Nat.le_of_ble_eq_true rfl) ?_
          exact ⟨by rw [bI_b]; simp [barr, b2, c3, c9, c15, c21], rfl⟩
        · refine aw_iload_n X dX11_isBarred_24 rfl rfl ?_
          refine aw_bipush X dX11_isBarred_25 cb_60 ?_
          refine aw_icmp_eq (tgt := 66) X dX11_isBarred_27 rfl (fun c27 => ?_) (fun c27 => ?_)
          · refine aw_iconst X dX11_isBarred_66 ci_1 ?_
            refine aw_goto (tgt := 71) X dX11_isBarred_67 rfl ?_
            refine RTN (some (.int _)) _ _ _ _ _ dX11_isBarred_71 (by first | exact Or.inl rfl | exact Or.inr rfl) (Nat.le_of_ble_eq_true rfl) (Nat.le_of_ble_eq_true rfl) ?_
            exact ⟨by rw [bI_b]; simp [barr, b2, c3, c9, c15, c21, c27], rfl⟩
          · refine aw_iload_n X dX11_isBarred_30 rfl rfl ?_
            refine aw_bipush X dX11_isBarred_31 cb_62 ?_
            refine aw_icmp_eq (tgt := 66) X dX11_isBarred_33 rfl (fun c33 => ?_) (fun c33 => ?_)
            · refine aw_iconst X dX11_isBarred_66 ci_1 ?_
              refine aw_goto (tgt := 71) X dX11_isBarred_67 rfl ?_
              refine RTN (some (.int _)) _ _ _ _ _ dX11_isBarred_71 (by first | exact Or.inl rfl | exact Or.inr rfl) (Nat.le_of_ble_eq_true rfl) (Nat.le_of_ble_eq_true rfl) ?_
              exact ⟨by rw [bI_b]; simp [barr, b2, c3, c9, c15, c21, c27, c33], rfl⟩
            · refine aw_iload_n X dX11_isBarred_36 rfl rfl ?_
              refine aw_bipush X dX11_isBarred_37 cb_58 ?_
              refine aw_icmp_eq (tgt := 66) X dX11_isBarred_39 rfl (fun c39 => ?_) (fun c39 => ?_)
              · refine aw_iconst X dX11_isBarred_66 ci_1 ?_
                refine aw_goto (tgt := 71) X dX11_isBarred_67 rfl ?_
                refine RTN (some (.int _)) _ _ _ _ _ dX11_isBarred_71 (by first | exact Or.inl rfl | exact Or.inr rfl) (Nat.le_of_ble_eq_true rfl) (Nat.le_of_ble_eq_true rfl) ?_
                exact ⟨by rw [bI_b]; simp [barr, b2, c3, c9, c15, c21, c27, c33, c39], rfl⟩
              · refine aw_iload_n X dX11_isBarred_42 rfl rfl ?_
                refine aw_bipush X dX11_isBarred_43 cb_34 ?_
                refine aw_icmp_eq (tgt := 66) X dX11_isBarred_45 rfl (fun c45 => ?_) (fun c45 => ?_)
                · refine aw_iconst X dX11_isBarred_66 ci_1 ?_
                  refine aw_goto (tgt := 71) X dX11_isBarred_67 rfl ?_
                  refine RTN (some (.int _)) _ _ _ _ _ dX11_isBarred_71 (by first | exact Or.inl rfl | exact Or.inr rfl) (Nat.le_of_ble_eq_true rfl) (Nat.le_of_ble_eq_true rfl) ?_
                  exact ⟨by rw [bI_b]; simp [barr, b2, c3, c9, c15, c21, c27, c33, c39, c45], rfl⟩
                · refine aw_iload_n X dX11_isBarred_48 rfl rfl ?_
                  refine aw_bipush X dX11_isBarred_49 cb_124 ?_
                  refine aw_icmp_eq (tgt := 66) X dX11_isBarred_51 rfl (fun c51 => ?_) (fun c51 => ?_)
                  · refine aw_iconst X dX11_isBarred_66 ci_1 ?_
                    refine aw_goto (tgt := 71) X dX11_isBarred_67 rfl ?_
                    refine RTN (some (.int _)) _ _ _ _ _ dX11_isBarred_71 (by first | exact Or.inl rfl | exact Or.inr rfl) (Nat.le_of_ble_eq_true rfl) (Nat.le_of_ble_eq_true rfl) ?_
                    exact ⟨by rw [bI_b]; simp [barr, b2, c3, c9, c15, c21, c27, c33, c39, c45, c51], rfl⟩
                  · refine aw_iload_n X dX11_isBarred_54 rfl rfl ?_
                    refine aw_bipush X dX11_isBarred_55 cb_63 ?_
                    refine aw_icmp_eq (tgt := 66) X dX11_isBarred_57 rfl (fun c57 => ?_) (fun c57 => ?_)
                    · refine aw_iconst X dX11_isBarred_66 ci_1 ?_
                      refine aw_goto (tgt := 71) X dX11_isBarred_67 rfl ?_
                      refine RTN (some (.int _)) _ _ _ _ _ dX11_isBarred_71 (by first | exact Or.inl rfl | exact Or.inr rfl) (Nat.le_of_ble_eq_true rfl) (Nat.le_of_ble_eq_true rfl) ?_
                      exact ⟨by rw [bI_b]; simp [barr, b2, c3, c9, c15, c21, c27, c33, c39, c45, c51, c57], rfl⟩
                    · refine aw_iload_n X dX11_isBarred_60 rfl rfl ?_
                      refine aw_bipush X dX11_isBarred_61 cb_42 ?_
                      refine aw_icmp_ne (tgt := 70) X dX11_isBarred_63 rfl (fun c63 => ?_) (fun c63 => ?_)
                      · refine aw_iconst X dX11_isBarred_70 ci_0 ?_
                        refine RTN (some (.int _)) _ _ _ _ _ dX11_isBarred_71 (by first | exact Or.inl rfl | exact Or.inr rfl) (Nat.le_of_ble_eq_true rfl) (Nat.le_of_ble_eq_true rfl) ?_
                        exact ⟨by rw [bI_b]; simp [barr, b2, c3, c9, c15, c21, c27, c33, c39, c45, c51, c57, c63], rfl⟩
                      · refine aw_iconst X dX11_isBarred_66 ci_1 ?_
                        refine aw_goto (tgt := 71) X dX11_isBarred_67 rfl ?_
                        refine RTN (some (.int _)) _ _ _ _ _ dX11_isBarred_71 (by first | exact Or.inl rfl | exact Or.inr rfl) (Nat.le_of_ble_eq_true rfl) (Nat.le_of_ble_eq_true rfl) ?_
                        exact ⟨by rw [bI_b]; simp [barr, b2, c3, c9, c15, c21, c27, c33, c39, c45, c51, c57, c63], rfl⟩
set_option maxRecDepth 100000 in
set_option maxHeartbeats 4000000 in
theorem kX11_name (G : GG) (l : Launch) (q : Nat → Nat) (M : MS) (hq : mInj q) (hN : bt (M.1 26) 0 8) (c0 : Int32) : MC G l yX11_name cX11_name 2 ((Option.some .int)) ({ frames := 1, cells := 0, slots := 0, locals := 25 } : Room) [.ref (q 0), .int c0] (mw G q M) (fun v w' => v = some (.int (mo_name M c0).1) ∧ w' = mw G q (mo_name M c0).2) := by
  refine mc_int (by decide) (Nat.le_of_ble_eq_true rfl) rfl rfl ?_
  intro p e s m args below meth c A H0 Q X hnm RTN
  have X : Cx G p s m args meth c A H0 cX11_name 2 RX11 := X
  refine aw_aload_n X dX11_name_0 rfl rfl ?_
  refine aw_iconst X dX11_name_1 ci_0 ?_
  refine am_put X 0 (M' := sI _ 0 _) (Nat.le_of_ble_eq_true rfl) fl_X11_1 rfl rfl (rfl) (rfl) (mf_0 _ _ _) rfl dX11_name_2 ?_
  refine aw_iload_n X dX11_name_5 rfl rfl ?_
  refine aw_i2l X dX11_name_6 ?_
  refine aw_lconst X dX11_name_7 cl_0 ?_
  refine aw_ldc2 X kl_X11_186 dX11_name_8 ?_
  refine aw_callS X (kX11_inI _ _ _ _ _ _ 0 1114111 rfl rfl) okm_X11_in ml_X11_12 st_X11_in rfl rfl (Nat.le_of_ble_eq_true rfl) ⟨Nat.le_of_ble_eq_true rfl, Nat.le_of_ble_eq_true rfl, Nat.le_of_ble_eq_true rfl, Nat.le_of_ble_eq_true rfl⟩ dX11_name_11 (fun v w2 hp => ?_)
  obtain ⟨rfl, rfl⟩ := hp
  refine aw_if_ne (tgt := 20) X dX11_name_14 rfl (fun c14 => ?_) (fun c14 => ?_)
  · rw [bI_n0] at c14
    refine aw_aload_n X dX11_name_20 rfl rfl ?_
    refine aw_aload_n X dX11_name_21 rfl rfl ?_
    refine am_get X 27 (v := .int (M.1 27)) (Nat.le_of_ble_eq_true rfl) fl_X11_197 rfl rfl dX11_name_22 ?_
    refine aw_if_ne (tgt := 34) X dX11_name_25 rfl (fun c25 => ?_) (fun c25 => ?_)
    · refine aw_iconst X dX11_name_34 ci_1 ?_
      refine aw_goto (tgt := 39) X dX11_name_35 rfl ?_
      refine am_put X 27 (M' := sI _ 27 _) (Nat.le_of_ble_eq_true rfl) fl_X11_197 rfl rfl (rfl ) ( rfl) (mf_27 _ _ _) rfl dX11_name_39 ?_
      refine aw_aload_n X dX11_name_42 rfl rfl ?_
      refine am_get X 27 (v := .int 1) (Nat.le_of_ble_eq_true rfl) fl_X11_197 rfl rfl dX11_name_43 ?_
      refine aw_if_ne (tgt := 56) X dX11_name_46 rfl (fun c46 => ?_) (fun c46 => ?_)
      · refine aw_aload_n X dX11_name_56 rfl rfl ?_
        refine aw_dup X dX11_name_57 rfl ?_
        refine am_get X 28 (v := .int (M.1 28)) (Nat.le_of_ble_eq_true rfl) fl_X11_204 rfl rfl dX11_name_58 ?_
        refine aw_iconst X dX11_name_61 ci_1 ?_
        refine aw_iadd X dX11_name_62 ?_
        refine am_put X 28 (M' := sI _ 28 _) (Nat.le_of_ble_eq_true rfl) fl_X11_204 rfl rfl (rfl) (rfl) (mf_28 _ _ _) rfl dX11_name_63 ?_
        refine aw_goto (tgt := 98) X dX11_name_66 rfl ?_
        refine aw_aload_n X dX11_name_98 rfl rfl ?_
        refine am_get X 26 (v := .int (M.1 26)) (Nat.le_of_ble_eq_true rfl) fl_X11_207 rfl rfl dX11_name_99 ?_
        refine RTN (some (.int _)) _ _ _ _ _ dX11_name_102 (⟨_, rfl⟩) (Nat.le_of_ble_eq_true rfl) (Nat.le_of_ble_eq_true rfl) ?_
        first | (constructor <;> ((try simp only [mo_name, mo_cut, c14, c25, if_true, if_false, not_true_eq_false, not_false_eq_true, and_self, true_and, and_true, false_and, and_false, or_true, true_or, or_false, false_or, reduceCtorEq, ne_eq]); (try rfl); done)) | (clear RTN X; constructor <;> ((try simp_all only [mo_name, mo_cut, if_true, if_false, not_true_eq_false, not_false_eq_true, and_self, true_and, and_true, false_and, and_false, or_true, true_or, or_false, false_or, reduceCtorEq, ne_eq]); (try rfl); done))
      · exact absurd c46 (by decide)
    · refine aw_iload_n X dX11_name_28 rfl rfl ?_
      refine aw_bipush X dX11_name_29 cb_46 ?_
      refine aw_icmp_ne (tgt := 38) X dX11_name_31 rfl (fun c31 => ?_) (fun c31 => ?_)
      · refine aw_iconst X dX11_name_38 ci_0 ?_
        refine am_put X 27 (M' := sI _ 27 _) (Nat.le_of_ble_eq_true rfl) fl_X11_197 rfl rfl (rfl ) ( rfl) (mf_27 _ _ _) rfl dX11_name_39 ?_
        refine aw_aload_n X dX11_name_42 rfl rfl ?_
        refine am_get X 27 (v := .int 0) (Nat.le_of_ble_eq_true rfl) fl_X11_197 rfl rfl dX11_name_43 ?_
        refine aw_if_ne (tgt := 56) X dX11_name_46 rfl (fun c46 => ?_) (fun c46 => ?_)
        · exact absurd c46 (by decide)
        · refine aw_iload_n X dX11_name_49 rfl rfl ?_
          refine aw_callS X (kX11_isBarred _ _ _ _) okm_X11_isBarred ml_X11_201 st_X11_isBarred rfl rfl (Nat.le_of_ble_eq_true rfl) ⟨Nat.le_of_ble_eq_true rfl, Nat.le_of_ble_eq_true rfl, Nat.le_of_ble_eq_true rfl, Nat.le_of_ble_eq_true rfl⟩ dX11_name_50 (fun v w2 hp => ?_)
          obtain ⟨rfl, rfl⟩ := hp
          refine aw_if_eq (tgt := 69) X dX11_name_53 rfl (fun c53 => ?_) (fun c53 => ?_)
          · rw [bI_0] at c53
            refine aw_aload_n X dX11_name_69 rfl rfl ?_
            refine am_get X 26 (v := .int (M.1 26)) (Nat.le_of_ble_eq_true rfl) fl_X11_207 rfl rfl dX11_name_70 ?_
            refine aw_bipush X dX11_name_73 cb_8 ?_
            refine aw_icmp_ge (tgt := 98) X dX11_name_75 rfl (fun c75 => ?_) (fun c75 => ?_)
            · refine aw_aload_n X dX11_name_98 rfl rfl ?_
              refine am_get X 26 (v := .int (M.1 26)) (Nat.le_of_ble_eq_true rfl) fl_X11_207 rfl rfl dX11_name_99 ?_
              refine RTN (some (.int _)) _ _ _ _ _ dX11_name_102 (⟨_, rfl⟩) (Nat.le_of_ble_eq_true rfl) (Nat.le_of_ble_eq_true rfl) ?_
              first | (constructor <;> ((try simp only [mo_name, mo_cut, c14, c25, c31, c53, c75, if_true, if_false, not_true_eq_false, not_false_eq_true, and_self, true_and, and_true, false_and, and_false, or_true, true_or, or_false, false_or, reduceCtorEq, ne_eq]); (try rfl); done)) | (clear RTN X; constructor <;> ((try simp_all only [mo_name, mo_cut, if_true, if_false, not_true_eq_false, not_false_eq_true, and_self, true_and, and_true, false_and, and_false, or_true, true_or, or_false, false_or, reduceCtorEq, ne_eq]); (try rfl); done))
            · refine aw_aload_n X dX11_name_78 rfl rfl ?_
              refine am_get X 25 (Nat.le_of_ble_eq_true rfl) fl_X11_142 rfl rfl dX11_name_79 ?_
              refine aw_aload_n X dX11_name_82 rfl rfl ?_
              refine am_get X 26 (v := .int (M.1 26)) (Nat.le_of_ble_eq_true rfl) fl_X11_207 rfl rfl dX11_name_83 ?_
              refine aw_iload_n X dX11_name_86 rfl rfl ?_
              refine am_ast X 25 _ hq (by decide) rfl rfl (nl_vp hN c75) dX11_name_87 ?_
              refine aw_aload_n X dX11_name_88 rfl rfl ?_
              refine aw_dup X dX11_name_89 rfl ?_
              refine am_get X 26 (v := .int (M.1 26)) (Nat.le_of_ble_eq_true rfl) fl_X11_207 rfl rfl dX11_name_90 ?_
              refine aw_iconst X dX11_name_93 ci_1 ?_
              refine aw_iadd X dX11_name_94 ?_
              refine am_put X 26 (M' := sI _ 26 _) (Nat.le_of_ble_eq_true rfl) fl_X11_207 rfl rfl (rfl) (rfl) (mf_26 _ _ _) rfl dX11_name_95 ?_
              refine aw_aload_n X dX11_name_98 rfl rfl ?_
              refine am_get X 26 (v := .int ((M.1 26) + 1)) (Nat.le_of_ble_eq_true rfl) fl_X11_207 rfl rfl dX11_name_99 ?_
              refine RTN (some (.int _)) _ _ _ _ _ dX11_name_102 (⟨_, rfl⟩) (Nat.le_of_ble_eq_true rfl) (Nat.le_of_ble_eq_true rfl) ?_
              first | (constructor <;> ((try simp only [mo_name, mo_cut, c14, c25, c31, c53, c75, if_true, if_false, not_true_eq_false, not_false_eq_true, and_self, true_and, and_true, false_and, and_false, or_true, true_or, or_false, false_or, reduceCtorEq, ne_eq]); (try rfl); done)) | (clear RTN X; constructor <;> ((try simp_all only [mo_name, mo_cut, if_true, if_false, not_true_eq_false, not_false_eq_true, and_self, true_and, and_true, false_and, and_false, or_true, true_or, or_false, false_or, reduceCtorEq, ne_eq]); (try rfl); done))
          · rw [bI_n0] at c53
            refine aw_aload_n X dX11_name_56 rfl rfl ?_
            refine aw_dup X dX11_name_57 rfl ?_
            refine am_get X 28 (v := .int (M.1 28)) (Nat.le_of_ble_eq_true rfl) fl_X11_204 rfl rfl dX11_name_58 ?_
            refine aw_iconst X dX11_name_61 ci_1 ?_
            refine aw_iadd X dX11_name_62 ?_
            refine am_put X 28 (M' := sI _ 28 _) (Nat.le_of_ble_eq_true rfl) fl_X11_204 rfl rfl (rfl) (rfl) (mf_28 _ _ _) rfl dX11_name_63 ?_
            refine aw_goto (tgt := 98) X dX11_name_66 rfl ?_
            refine aw_aload_n X dX11_name_98 rfl rfl ?_
            refine am_get X 26 (v := .int (M.1 26)) (Nat.le_of_ble_eq_true rfl) fl_X11_207 rfl rfl dX11_name_99 ?_
            refine RTN (some (.int _)) _ _ _ _ _ dX11_name_102 (⟨_, rfl⟩) (Nat.le_of_ble_eq_true rfl) (Nat.le_of_ble_eq_true rfl) ?_
            first | (constructor <;> ((try simp only [mo_name, mo_cut, c14, c25, c31, c53, if_true, if_false, not_true_eq_false, not_false_eq_true, and_self, true_and, and_true, false_and, and_false, or_true, true_or, or_false, false_or, reduceCtorEq, ne_eq]); (try rfl); done)) | (clear RTN X; constructor <;> ((try simp_all only [mo_name, mo_cut, if_true, if_false, not_true_eq_false, not_false_eq_true, and_self, true_and, and_true, false_and, and_false, or_true, true_or, or_false, false_or, reduceCtorEq, ne_eq]); (try rfl); done))
      · refine aw_iconst X dX11_name_34 ci_1 ?_
        refine aw_goto (tgt := 39) X dX11_name_35 rfl ?_
        refine am_put X 27 (M' := sI _ 27 _) (Nat.le_of_ble_eq_true rfl) fl_X11_197 rfl rfl (rfl ) ( rfl) (mf_27 _ _ _) rfl dX11_name_39 ?_
        refine aw_aload_n X dX11_name_42 rfl rfl ?_
        refine am_get X 27 (v := .int 1) (Nat.le_of_ble_eq_true rfl) fl_X11_197 rfl rfl dX11_name_43 ?_
        refine aw_if_ne (tgt := 56) X dX11_name_46 rfl (fun c46 => ?_) (fun c46 => ?_)
        · refine aw_aload_n X dX11_name_56 rfl rfl ?_
          refine aw_dup X dX11_name_57 rfl ?_
          refine am_get X 28 (v := .int (M.1 28)) (Nat.le_of_ble_eq_true rfl) fl_X11_204 rfl rfl dX11_name_58 ?_
          refine aw_iconst X dX11_name_61 ci_1 ?_
          refine aw_iadd X dX11_name_62 ?_
          refine am_put X 28 (M' := sI _ 28 _) (Nat.le_of_ble_eq_true rfl) fl_X11_204 rfl rfl (rfl) (rfl) (mf_28 _ _ _) rfl dX11_name_63 ?_
          refine aw_goto (tgt := 98) X dX11_name_66 rfl ?_
          refine aw_aload_n X dX11_name_98 rfl rfl ?_
          refine am_get X 26 (v := .int (M.1 26)) (Nat.le_of_ble_eq_true rfl) fl_X11_207 rfl rfl dX11_name_99 ?_
          refine RTN (some (.int _)) _ _ _ _ _ dX11_name_102 (⟨_, rfl⟩) (Nat.le_of_ble_eq_true rfl) (Nat.le_of_ble_eq_true rfl) ?_
          first | (constructor <;> ((try simp only [mo_name, mo_cut, c14, c25, c31, if_true, if_false, not_true_eq_false, not_false_eq_true, and_self, true_and, and_true, false_and, and_false, or_true, true_or, or_false, false_or, reduceCtorEq, ne_eq]); (try rfl); done)) | (clear RTN X; constructor <;> ((try simp_all only [mo_name, mo_cut, if_true, if_false, not_true_eq_false, not_false_eq_true, and_self, true_and, and_true, false_and, and_false, or_true, true_or, or_false, false_or, reduceCtorEq, ne_eq]); (try rfl); done))
        · exact absurd c46 (by decide)
  · rw [bI_0] at c14
    refine aw_bipush X dX11_name_17 cb_m3 ?_
    refine RTN (some (.int _)) _ _ _ _ _ dX11_name_19 (⟨_, rfl⟩) (Nat.le_of_ble_eq_true rfl) (Nat.le_of_ble_eq_true rfl) ?_
    first | (constructor <;> ((try simp only [mo_name, mo_cut, c14, if_true, if_false, not_true_eq_false, not_false_eq_true, and_self, true_and, and_true, false_and, and_false, or_true, true_or, or_false, false_or, reduceCtorEq, ne_eq]); (try rfl); done)) | (clear RTN X; constructor <;> ((try simp_all only [mo_name, mo_cut, if_true, if_false, not_true_eq_false, not_false_eq_true, and_self, true_and, and_true, false_and, and_false, or_true, true_or, or_false, false_or, reduceCtorEq, ne_eq]); (try rfl); done))
set_option maxRecDepth 100000 in
set_option maxHeartbeats 4000000 in
theorem kX11_upper (G : GG) (l : Launch) (q : Nat → Nat) (M : MS) (hq : mInj q) (c0 : Int32) : MC G l yX11_upper cX11_upper 2 ((Option.some .int)) ({ frames := 1, cells := 0, slots := 0, locals := 25 } : Room) [.ref (q 0), .int c0] (mw G q M) (fun v w' => v = some (.int (mo_upper M c0).1) ∧ w' = mw G q (mo_upper M c0).2) := by
  refine mc_int (by decide) (Nat.le_of_ble_eq_true rfl) rfl rfl ?_
  intro p e s m args below meth c A H0 Q X hnm RTN
  have X : Cx G p s m args meth c A H0 cX11_upper 2 RX11 := X
  refine aw_aload_n X dX11_upper_0 rfl rfl ?_
  refine aw_iconst X dX11_upper_1 ci_0 ?_
  refine am_put X 0 (M' := sI _ 0 _) (Nat.le_of_ble_eq_true rfl) fl_X11_1 rfl rfl (rfl) (rfl) (mf_0 _ _ _) rfl dX11_upper_2 ?_
  refine aw_iload_n X dX11_upper_5 rfl rfl ?_
  refine aw_i2l X dX11_upper_6 ?_
  refine aw_lconst X dX11_upper_7 cl_0 ?_
  refine aw_ldc2 X kl_X11_186 dX11_upper_8 ?_
  refine aw_callS X (kX11_inI _ _ _ _ _ _ 0 1114111 rfl rfl) okm_X11_in ml_X11_12 st_X11_in rfl rfl (Nat.le_of_ble_eq_true rfl) ⟨Nat.le_of_ble_eq_true rfl, Nat.le_of_ble_eq_true rfl, Nat.le_of_ble_eq_true rfl, Nat.le_of_ble_eq_true rfl⟩ dX11_upper_11 (fun v w2 hp => ?_)
  obtain ⟨rfl, rfl⟩ := hp
  refine aw_if_ne (tgt := 19) X dX11_upper_14 rfl (fun c14 => ?_) (fun c14 => ?_)
  · rw [bI_n0] at c14
    refine aw_iload_n X dX11_upper_19 rfl rfl ?_
    refine aw_i2l X dX11_upper_20 ?_
    refine aw_ldc2 X kl_X11_214 dX11_upper_21 ?_
    refine aw_ldc2 X kl_X11_216 dX11_upper_24 ?_
    refine aw_callS X (kX11_inI _ _ _ _ _ _ 97 122 rfl rfl) okm_X11_in ml_X11_12 st_X11_in rfl rfl (Nat.le_of_ble_eq_true rfl) ⟨Nat.le_of_ble_eq_true rfl, Nat.le_of_ble_eq_true rfl, Nat.le_of_ble_eq_true rfl, Nat.le_of_ble_eq_true rfl⟩ dX11_upper_27 (fun v w2 hp => ?_)
    obtain ⟨rfl, rfl⟩ := hp
    refine aw_if_ne (tgt := 89) X dX11_upper_30 rfl (fun c30 => ?_) (fun c30 => ?_)
    · rw [bI_n0] at c30
      refine aw_iload_n X dX11_upper_89 rfl rfl ?_
      refine aw_bipush X dX11_upper_90 cb_32 ?_
      refine aw_isub X dX11_upper_92 ?_
      refine RTN (some (.int _)) _ _ _ _ _ dX11_upper_93 (⟨_, rfl⟩) (Nat.le_of_ble_eq_true rfl) (Nat.le_of_ble_eq_true rfl) ?_
      first | (constructor <;> ((try simp only [mo_upper, c14, c30, if_true, if_false, not_true_eq_false, not_false_eq_true, and_self, true_and, and_true, false_and, and_false, or_true, true_or, or_false, false_or, reduceCtorEq, ne_eq]); (try rfl); done)) | (clear RTN X; constructor <;> ((try simp_all only [mo_upper, if_true, if_false, not_true_eq_false, not_false_eq_true, and_self, true_and, and_true, false_and, and_false, or_true, true_or, or_false, false_or, reduceCtorEq, ne_eq]); (try rfl); done))
    · rw [bI_0] at c30
      refine aw_iload_n X dX11_upper_33 rfl rfl ?_
      refine aw_i2l X dX11_upper_34 ?_
      refine aw_ldc2 X kl_X11_218 dX11_upper_35 ?_
      refine aw_ldc2 X kl_X11_220 dX11_upper_38 ?_
      refine aw_callS X (kX11_inI _ _ _ _ _ _ 224 254 rfl rfl) okm_X11_in ml_X11_12 st_X11_in rfl rfl (Nat.le_of_ble_eq_true rfl) ⟨Nat.le_of_ble_eq_true rfl, Nat.le_of_ble_eq_true rfl, Nat.le_of_ble_eq_true rfl, Nat.le_of_ble_eq_true rfl⟩ dX11_upper_41 (fun v w2 hp => ?_)
      obtain ⟨rfl, rfl⟩ := hp
      refine aw_if_eq (tgt := 54) X dX11_upper_44 rfl (fun c44 => ?_) (fun c44 => ?_)
      · rw [bI_0] at c44
        refine aw_iload_n X dX11_upper_54 rfl rfl ?_
        refine aw_i2l X dX11_upper_55 ?_
        refine aw_ldc2 X kl_X11_222 dX11_upper_56 ?_
        refine aw_ldc2 X kl_X11_224 dX11_upper_59 ?_
        refine aw_callS X (kX11_inI _ _ _ _ _ _ 945 969 rfl rfl) okm_X11_in ml_X11_12 st_X11_in rfl rfl (Nat.le_of_ble_eq_true rfl) ⟨Nat.le_of_ble_eq_true rfl, Nat.le_of_ble_eq_true rfl, Nat.le_of_ble_eq_true rfl, Nat.le_of_ble_eq_true rfl⟩ dX11_upper_62 (fun v w2 hp => ?_)
        obtain ⟨rfl, rfl⟩ := hp
        refine aw_if_eq (tgt := 75) X dX11_upper_65 rfl (fun c65 => ?_) (fun c65 => ?_)
        · rw [bI_0] at c65
          refine aw_iload_n X dX11_upper_75 rfl rfl ?_
          refine aw_i2l X dX11_upper_76 ?_
          refine aw_ldc2 X kl_X11_226 dX11_upper_77 ?_
          refine aw_ldc2 X kl_X11_228 dX11_upper_80 ?_
          refine aw_callS X (kX11_inI _ _ _ _ _ _ 1072 1103 rfl rfl) okm_X11_in ml_X11_12 st_X11_in rfl rfl (Nat.le_of_ble_eq_true rfl) ⟨Nat.le_of_ble_eq_true rfl, Nat.le_of_ble_eq_true rfl, Nat.le_of_ble_eq_true rfl, Nat.le_of_ble_eq_true rfl⟩ dX11_upper_83 (fun v w2 hp => ?_)
          obtain ⟨rfl, rfl⟩ := hp
          refine aw_if_eq (tgt := 94) X dX11_upper_86 rfl (fun c86 => ?_) (fun c86 => ?_)
          · rw [bI_0] at c86
            refine aw_iload_n X dX11_upper_94 rfl rfl ?_
            refine aw_i2l X dX11_upper_95 ?_
            refine aw_ldc2 X kl_X11_230 dX11_upper_96 ?_
            refine aw_ldc2 X kl_X11_232 dX11_upper_99 ?_
            refine aw_callS X (kX11_inI _ _ _ _ _ _ 1104 1119 rfl rfl) okm_X11_in ml_X11_12 st_X11_in rfl rfl (Nat.le_of_ble_eq_true rfl) ⟨Nat.le_of_ble_eq_true rfl, Nat.le_of_ble_eq_true rfl, Nat.le_of_ble_eq_true rfl, Nat.le_of_ble_eq_true rfl⟩ dX11_upper_102 (fun v w2 hp => ?_)
            obtain ⟨rfl, rfl⟩ := hp
            refine aw_if_eq (tgt := 113) X dX11_upper_105 rfl (fun c105 => ?_) (fun c105 => ?_)
            · rw [bI_0] at c105
              refine aw_iload_n X dX11_upper_113 rfl rfl ?_
              refine aw_i2l X dX11_upper_114 ?_
              refine aw_ldc2 X kl_X11_234 dX11_upper_115 ?_
              refine aw_ldc2 X kl_X11_236 dX11_upper_118 ?_
              refine aw_callS X (kX11_inI _ _ _ _ _ _ 257 303 rfl rfl) okm_X11_in ml_X11_12 st_X11_in rfl rfl (Nat.le_of_ble_eq_true rfl) ⟨Nat.le_of_ble_eq_true rfl, Nat.le_of_ble_eq_true rfl, Nat.le_of_ble_eq_true rfl, Nat.le_of_ble_eq_true rfl⟩ dX11_upper_121 (fun v w2 hp => ?_)
              obtain ⟨rfl, rfl⟩ := hp
              refine aw_if_eq (tgt := 138) X dX11_upper_124 rfl (fun c124 => ?_) (fun c124 => ?_)
              · rw [bI_0] at c124
                refine aw_iload_n X dX11_upper_138 rfl rfl ?_
                refine aw_sipush X dX11_upper_139 cs_255 ?_
                refine aw_icmp_ne (tgt := 151) X dX11_upper_142 rfl (fun c142 => ?_) (fun c142 => ?_)
                · refine aw_iload_n X dX11_upper_151 rfl rfl ?_
                  refine aw_sipush X dX11_upper_152 cs_962 ?_
                  refine aw_icmp_ne (tgt := 164) X dX11_upper_155 rfl (fun c155 => ?_) (fun c155 => ?_)
                  · refine aw_iload_n X dX11_upper_164 rfl rfl ?_
                    refine RTN (some (.int _)) _ _ _ _ _ dX11_upper_165 (⟨_, rfl⟩) (Nat.le_of_ble_eq_true rfl) (Nat.le_of_ble_eq_true rfl) ?_
                    first | (constructor <;> ((try simp only [mo_upper, c14, c30, c44, c65, c86, c105, c124, c142, c155, if_true, if_false, not_true_eq_false, not_false_eq_true, and_self, true_and, and_true, false_and, and_false, or_true, true_or, or_false, false_or, reduceCtorEq, ne_eq]); (try rfl); done)) | (clear RTN X; constructor <;> ((try simp_all only [mo_upper, if_true, if_false, not_true_eq_false, not_false_eq_true, and_self, true_and, and_true, false_and, and_false, or_true, true_or, or_false, false_or, reduceCtorEq, ne_eq]); (try rfl); done))
                  · refine aw_sipush X dX11_upper_158 cs_931 ?_
                    refine aw_goto (tgt := 165) X dX11_upper_161 rfl ?_
                    refine RTN (some (.int _)) _ _ _ _ _ dX11_upper_165 (⟨_, rfl⟩) (Nat.le_of_ble_eq_true rfl) (Nat.le_of_ble_eq_true rfl) ?_
                    first | (constructor <;> ((try simp only [mo_upper, c14, c30, c44, c65, c86, c105, c124, c142, c155, if_true, if_false, not_true_eq_false, not_false_eq_true, and_self, true_and, and_true, false_and, and_false, or_true, true_or, or_false, false_or, reduceCtorEq, ne_eq]); (try rfl); done)) | (clear RTN X; constructor <;> ((try simp_all only [mo_upper, if_true, if_false, not_true_eq_false, not_false_eq_true, and_self, true_and, and_true, false_and, and_false, or_true, true_or, or_false, false_or, reduceCtorEq, ne_eq]); (try rfl); done))
                · refine aw_sipush X dX11_upper_145 cs_376 ?_
                  refine aw_goto (tgt := 165) X dX11_upper_148 rfl ?_
                  refine RTN (some (.int _)) _ _ _ _ _ dX11_upper_165 (⟨_, rfl⟩) (Nat.le_of_ble_eq_true rfl) (Nat.le_of_ble_eq_true rfl) ?_
                  first | (constructor <;> ((try simp only [mo_upper, c14, c30, c44, c65, c86, c105, c124, c142, if_true, if_false, not_true_eq_false, not_false_eq_true, and_self, true_and, and_true, false_and, and_false, or_true, true_or, or_false, false_or, reduceCtorEq, ne_eq]); (try rfl); done)) | (clear RTN X; constructor <;> ((try simp_all only [mo_upper, if_true, if_false, not_true_eq_false, not_false_eq_true, and_self, true_and, and_true, false_and, and_false, or_true, true_or, or_false, false_or, reduceCtorEq, ne_eq]); (try rfl); done))
              · rw [bI_n0] at c124
                refine aw_iload_n X dX11_upper_127 rfl rfl ?_
                refine aw_iconst X dX11_upper_128 ci_2 ?_
                refine aw_irem X dX11_upper_129 (by decide) ?_
                refine aw_iconst X dX11_upper_130 ci_1 ?_
                refine aw_icmp_ne (tgt := 138) X dX11_upper_131 rfl (fun c131 => ?_) (fun c131 => ?_)
                · refine aw_iload_n X dX11_upper_138 rfl rfl ?_
                  refine aw_sipush X dX11_upper_139 cs_255 ?_
                  refine aw_icmp_ne (tgt := 151) X dX11_upper_142 rfl (fun c142 => ?_) (fun c142 => ?_)
                  · refine aw_iload_n X dX11_upper_151 rfl rfl ?_
                    refine aw_sipush X dX11_upper_152 cs_962 ?_
                    refine aw_icmp_ne (tgt := 164) X dX11_upper_155 rfl (fun c155 => ?_) (fun c155 => ?_)
                    · refine aw_iload_n X dX11_upper_164 rfl rfl ?_
                      refine RTN (some (.int _)) _ _ _ _ _ dX11_upper_165 (⟨_, rfl⟩) (Nat.le_of_ble_eq_true rfl) (Nat.le_of_ble_eq_true rfl) ?_
                      first | (constructor <;> ((try simp only [mo_upper, c14, c30, c44, c65, c86, c105, c124, c131, c142, c155, if_true, if_false, not_true_eq_false, not_false_eq_true, and_self, true_and, and_true, false_and, and_false, or_true, true_or, or_false, false_or, reduceCtorEq, ne_eq]); (try rfl); done)) | (clear RTN X; constructor <;> ((try simp_all only [mo_upper, if_true, if_false, not_true_eq_false, not_false_eq_true, and_self, true_and, and_true, false_and, and_false, or_true, true_or, or_false, false_or, reduceCtorEq, ne_eq]); (try rfl); done))
                    · refine aw_sipush X dX11_upper_158 cs_931 ?_
                      refine aw_goto (tgt := 165) X dX11_upper_161 rfl ?_
                      refine RTN (some (.int _)) _ _ _ _ _ dX11_upper_165 (⟨_, rfl⟩) (Nat.le_of_ble_eq_true rfl) (Nat.le_of_ble_eq_true rfl) ?_
                      first | (constructor <;> ((try simp only [mo_upper, c14, c30, c44, c65, c86, c105, c124, c131, c142, c155, if_true, if_false, not_true_eq_false, not_false_eq_true, and_self, true_and, and_true, false_and, and_false, or_true, true_or, or_false, false_or, reduceCtorEq, ne_eq]); (try rfl); done)) | (clear RTN X; constructor <;> ((try simp_all only [mo_upper, if_true, if_false, not_true_eq_false, not_false_eq_true, and_self, true_and, and_true, false_and, and_false, or_true, true_or, or_false, false_or, reduceCtorEq, ne_eq]); (try rfl); done))
                  · refine aw_sipush X dX11_upper_145 cs_376 ?_
                    refine aw_goto (tgt := 165) X dX11_upper_148 rfl ?_
                    refine RTN (some (.int _)) _ _ _ _ _ dX11_upper_165 (⟨_, rfl⟩) (Nat.le_of_ble_eq_true rfl) (Nat.le_of_ble_eq_true rfl) ?_
                    first | (constructor <;> ((try simp only [mo_upper, c14, c30, c44, c65, c86, c105, c124, c131, c142, if_true, if_false, not_true_eq_false, not_false_eq_true, and_self, true_and, and_true, false_and, and_false, or_true, true_or, or_false, false_or, reduceCtorEq, ne_eq]); (try rfl); done)) | (clear RTN X; constructor <;> ((try simp_all only [mo_upper, if_true, if_false, not_true_eq_false, not_false_eq_true, and_self, true_and, and_true, false_and, and_false, or_true, true_or, or_false, false_or, reduceCtorEq, ne_eq]); (try rfl); done))
                · refine aw_iload_n X dX11_upper_134 rfl rfl ?_
                  refine aw_iconst X dX11_upper_135 ci_1 ?_
                  refine aw_isub X dX11_upper_136 ?_
                  refine RTN (some (.int _)) _ _ _ _ _ dX11_upper_137 (⟨_, rfl⟩) (Nat.le_of_ble_eq_true rfl) (Nat.le_of_ble_eq_true rfl) ?_
                  first | (constructor <;> ((try simp only [mo_upper, c14, c30, c44, c65, c86, c105, c124, c131, if_true, if_false, not_true_eq_false, not_false_eq_true, and_self, true_and, and_true, false_and, and_false, or_true, true_or, or_false, false_or, reduceCtorEq, ne_eq]); (try rfl); done)) | (clear RTN X; constructor <;> ((try simp_all only [mo_upper, if_true, if_false, not_true_eq_false, not_false_eq_true, and_self, true_and, and_true, false_and, and_false, or_true, true_or, or_false, false_or, reduceCtorEq, ne_eq]); (try rfl); done))
            · rw [bI_n0] at c105
              refine aw_iload_n X dX11_upper_108 rfl rfl ?_
              refine aw_bipush X dX11_upper_109 cb_80 ?_
              refine aw_isub X dX11_upper_111 ?_
              refine RTN (some (.int _)) _ _ _ _ _ dX11_upper_112 (⟨_, rfl⟩) (Nat.le_of_ble_eq_true rfl) (Nat.le_of_ble_eq_true rfl) ?_
              first | (constructor <;> ((try simp only [mo_upper, c14, c30, c44, c65, c86, c105, if_true, if_false, not_true_eq_false, not_false_eq_true, and_self, true_and, and_true, false_and, and_false, or_true, true_or, or_false, false_or, reduceCtorEq, ne_eq]); (try rfl); done)) | (clear RTN X; constructor <;> ((try simp_all only [mo_upper, if_true, if_false, not_true_eq_false, not_false_eq_true, and_self, true_and, and_true, false_and, and_false, or_true, true_or, or_false, false_or, reduceCtorEq, ne_eq]); (try rfl); done))
          · rw [bI_n0] at c86
            refine aw_iload_n X dX11_upper_89 rfl rfl ?_
            refine aw_bipush X dX11_upper_90 cb_32 ?_
            refine aw_isub X dX11_upper_92 ?_
            refine RTN (some (.int _)) _ _ _ _ _ dX11_upper_93 (⟨_, rfl⟩) (Nat.le_of_ble_eq_true rfl) (Nat.le_of_ble_eq_true rfl) ?_
            first | (constructor <;> ((try simp only [mo_upper, c14, c30, c44, c65, c86, if_true, if_false, not_true_eq_false, not_false_eq_true, and_self, true_and, and_true, false_and, and_false, or_true, true_or, or_false, false_or, reduceCtorEq, ne_eq]); (try rfl); done)) | (clear RTN X; constructor <;> ((try simp_all only [mo_upper, if_true, if_false, not_true_eq_false, not_false_eq_true, and_self, true_and, and_true, false_and, and_false, or_true, true_or, or_false, false_or, reduceCtorEq, ne_eq]); (try rfl); done))
        · rw [bI_n0] at c65
          refine aw_iload_n X dX11_upper_68 rfl rfl ?_
          refine aw_sipush X dX11_upper_69 cs_962 ?_
          refine aw_icmp_ne (tgt := 89) X dX11_upper_72 rfl (fun c72 => ?_) (fun c72 => ?_)
          · refine aw_iload_n X dX11_upper_89 rfl rfl ?_
            refine aw_bipush X dX11_upper_90 cb_32 ?_
            refine aw_isub X dX11_upper_92 ?_
            refine RTN (some (.int _)) _ _ _ _ _ dX11_upper_93 (⟨_, rfl⟩) (Nat.le_of_ble_eq_true rfl) (Nat.le_of_ble_eq_true rfl) ?_
            first | (constructor <;> ((try simp only [mo_upper, c14, c30, c44, c65, c72, if_true, if_false, not_true_eq_false, not_false_eq_true, and_self, true_and, and_true, false_and, and_false, or_true, true_or, or_false, false_or, reduceCtorEq, ne_eq]); (try rfl); done)) | (clear RTN X; constructor <;> ((try simp_all only [mo_upper, if_true, if_false, not_true_eq_false, not_false_eq_true, and_self, true_and, and_true, false_and, and_false, or_true, true_or, or_false, false_or, reduceCtorEq, ne_eq]); (try rfl); done))
          · refine aw_iload_n X dX11_upper_75 rfl rfl ?_
            refine aw_i2l X dX11_upper_76 ?_
            refine aw_ldc2 X kl_X11_226 dX11_upper_77 ?_
            refine aw_ldc2 X kl_X11_228 dX11_upper_80 ?_
            refine aw_callS X (kX11_inI _ _ _ _ _ _ 1072 1103 rfl rfl) okm_X11_in ml_X11_12 st_X11_in rfl rfl (Nat.le_of_ble_eq_true rfl) ⟨Nat.le_of_ble_eq_true rfl, Nat.le_of_ble_eq_true rfl, Nat.le_of_ble_eq_true rfl, Nat.le_of_ble_eq_true rfl⟩ dX11_upper_83 (fun v w2 hp => ?_)
            obtain ⟨rfl, rfl⟩ := hp
            refine aw_if_eq (tgt := 94) X dX11_upper_86 rfl (fun c86 => ?_) (fun c86 => ?_)
            · rw [bI_0] at c86
              refine aw_iload_n X dX11_upper_94 rfl rfl ?_
              refine aw_i2l X dX11_upper_95 ?_
              refine aw_ldc2 X kl_X11_230 dX11_upper_96 ?_
              refine aw_ldc2 X kl_X11_232 dX11_upper_99 ?_
              refine aw_callS X (kX11_inI _ _ _ _ _ _ 1104 1119 rfl rfl) okm_X11_in ml_X11_12 st_X11_in rfl rfl (Nat.le_of_ble_eq_true rfl) ⟨Nat.le_of_ble_eq_true rfl, Nat.le_of_ble_eq_true rfl, Nat.le_of_ble_eq_true rfl, Nat.le_of_ble_eq_true rfl⟩ dX11_upper_102 (fun v w2 hp => ?_)
              obtain ⟨rfl, rfl⟩ := hp
              refine aw_if_eq (tgt := 113) X dX11_upper_105 rfl (fun c105 => ?_) (fun c105 => ?_)
              · rw [bI_0] at c105
                refine aw_iload_n X dX11_upper_113 rfl rfl ?_
                refine aw_i2l X dX11_upper_114 ?_
                refine aw_ldc2 X kl_X11_234 dX11_upper_115 ?_
                refine aw_ldc2 X kl_X11_236 dX11_upper_118 ?_
                refine aw_callS X (kX11_inI _ _ _ _ _ _ 257 303 rfl rfl) okm_X11_in ml_X11_12 st_X11_in rfl rfl (Nat.le_of_ble_eq_true rfl) ⟨Nat.le_of_ble_eq_true rfl, Nat.le_of_ble_eq_true rfl, Nat.le_of_ble_eq_true rfl, Nat.le_of_ble_eq_true rfl⟩ dX11_upper_121 (fun v w2 hp => ?_)
                obtain ⟨rfl, rfl⟩ := hp
                refine aw_if_eq (tgt := 138) X dX11_upper_124 rfl (fun c124 => ?_) (fun c124 => ?_)
                · rw [bI_0] at c124
                  refine aw_iload_n X dX11_upper_138 rfl rfl ?_
                  refine aw_sipush X dX11_upper_139 cs_255 ?_
                  refine aw_icmp_ne (tgt := 151) X dX11_upper_142 rfl (fun c142 => ?_) (fun c142 => ?_)
                  · refine aw_iload_n X dX11_upper_151 rfl rfl ?_
                    refine aw_sipush X dX11_upper_152 cs_962 ?_
                    refine aw_icmp_ne (tgt := 164) X dX11_upper_155 rfl (fun c155 => ?_) (fun c155 => ?_)
                    · refine aw_iload_n X dX11_upper_164 rfl rfl ?_
                      refine RTN (some (.int _)) _ _ _ _ _ dX11_upper_165 (⟨_, rfl⟩) (Nat.le_of_ble_eq_true rfl) (Nat.le_of_ble_eq_true rfl) ?_
                      first | (constructor <;> ((try simp only [mo_upper, c14, c30, c44, c65, c72, c86, c105, c124, c142, c155, if_true, if_false, not_true_eq_false, not_false_eq_true, and_self, true_and, and_true, false_and, and_false, or_true, true_or, or_false, false_or, reduceCtorEq, ne_eq]); (try rfl); done)) | (clear RTN X; constructor <;> ((try simp_all only [mo_upper, if_true, if_false, not_true_eq_false, not_false_eq_true, and_self, true_and, and_true, false_and, and_false, or_true, true_or, or_false, false_or, reduceCtorEq, ne_eq]); (try rfl); done))
                    · refine aw_sipush X dX11_upper_158 cs_931 ?_
                      refine aw_goto (tgt := 165) X dX11_upper_161 rfl ?_
                      refine RTN (some (.int _)) _ _ _ _ _ dX11_upper_165 (⟨_, rfl⟩) (Nat.le_of_ble_eq_true rfl) (Nat.le_of_ble_eq_true rfl) ?_
                      first | (constructor <;> ((try simp only [mo_upper, c14, c30, c44, c65, c72, c86, c105, c124, c142, c155, if_true, if_false, not_true_eq_false, not_false_eq_true, and_self, true_and, and_true, false_and, and_false, or_true, true_or, or_false, false_or, reduceCtorEq, ne_eq]); (try rfl); done)) | (clear RTN X; constructor <;> ((try simp_all only [mo_upper, if_true, if_false, not_true_eq_false, not_false_eq_true, and_self, true_and, and_true, false_and, and_false, or_true, true_or, or_false, false_or, reduceCtorEq, ne_eq]); (try rfl); done))
                  · refine aw_sipush X dX11_upper_145 cs_376 ?_
                    refine aw_goto (tgt := 165) X dX11_upper_148 rfl ?_
                    refine RTN (some (.int _)) _ _ _ _ _ dX11_upper_165 (⟨_, rfl⟩) (Nat.le_of_ble_eq_true rfl) (Nat.le_of_ble_eq_true rfl) ?_
                    first | (constructor <;> ((try simp only [mo_upper, c14, c30, c44, c65, c72, c86, c105, c124, c142, if_true, if_false, not_true_eq_false, not_false_eq_true, and_self, true_and, and_true, false_and, and_false, or_true, true_or, or_false, false_or, reduceCtorEq, ne_eq]); (try rfl); done)) | (clear RTN X; constructor <;> ((try simp_all only [mo_upper, if_true, if_false, not_true_eq_false, not_false_eq_true, and_self, true_and, and_true, false_and, and_false, or_true, true_or, or_false, false_or, reduceCtorEq, ne_eq]); (try rfl); done))
                · rw [bI_n0] at c124
                  refine aw_iload_n X dX11_upper_127 rfl rfl ?_
                  refine aw_iconst X dX11_upper_128 ci_2 ?_
                  refine aw_irem X dX11_upper_129 (by decide) ?_
                  refine aw_iconst X dX11_upper_130 ci_1 ?_
                  refine aw_icmp_ne (tgt := 138) X dX11_upper_131 rfl (fun c131 => ?_) (fun c131 => ?_)
                  · refine aw_iload_n X dX11_upper_138 rfl rfl ?_
                    refine aw_sipush X dX11_upper_139 cs_255 ?_
                    refine aw_icmp_ne (tgt := 151) X dX11_upper_142 rfl (fun c142 => ?_) (fun c142 => ?_)
                    · refine aw_iload_n X dX11_upper_151 rfl rfl ?_
                      refine aw_sipush X dX11_upper_152 cs_962 ?_
                      refine aw_icmp_ne (tgt := 164) X dX11_upper_155 rfl (fun c155 => ?_) (fun c155 => ?_)
                      · refine aw_iload_n X dX11_upper_164 rfl rfl ?_
                        refine RTN (some (.int _)) _ _ _ _ _ dX11_upper_165 (⟨_, rfl⟩) (Nat.le_of_ble_eq_true rfl) (Nat.le_of_ble_eq_true rfl) ?_
                        first | (constructor <;> ((try simp only [mo_upper, c14, c30, c44, c65, c72, c86, c105, c124, c131, c142, c155, if_true, if_false, not_true_eq_false, not_false_eq_true, and_self, true_and, and_true, false_and, and_false, or_true, true_or, or_false, false_or, reduceCtorEq, ne_eq]); (try rfl); done)) | (clear RTN X; constructor <;> ((try simp_all only [mo_upper, if_true, if_false, not_true_eq_false, not_false_eq_true, and_self, true_and, and_true, false_and, and_false, or_true, true_or, or_false, false_or, reduceCtorEq, ne_eq]); (try rfl); done))
                      · refine aw_sipush X dX11_upper_158 cs_931 ?_
                        refine aw_goto (tgt := 165) X dX11_upper_161 rfl ?_
                        refine RTN (some (.int _)) _ _ _ _ _ dX11_upper_165 (⟨_, rfl⟩) (Nat.le_of_ble_eq_true rfl) (Nat.le_of_ble_eq_true rfl) ?_
                        first | (constructor <;> ((try simp only [mo_upper, c14, c30, c44, c65, c72, c86, c105, c124, c131, c142, c155, if_true, if_false, not_true_eq_false, not_false_eq_true, and_self, true_and, and_true, false_and, and_false, or_true, true_or, or_false, false_or, reduceCtorEq, ne_eq]); (try rfl); done)) | (clear RTN X; constructor <;> ((try simp_all only [mo_upper, if_true, if_false, not_true_eq_false, not_false_eq_true, and_self, true_and, and_true, false_and, and_false, or_true, true_or, or_false, false_or, reduceCtorEq, ne_eq]); (try rfl); done))
                    · refine aw_sipush X dX11_upper_145 cs_376 ?_
                      refine aw_goto (tgt := 165) X dX11_upper_148 rfl ?_
                      refine RTN (some (.int _)) _ _ _ _ _ dX11_upper_165 (⟨_, rfl⟩) (Nat.le_of_ble_eq_true rfl) (Nat.le_of_ble_eq_true rfl) ?_
                      first | (constructor <;> ((try simp only [mo_upper, c14, c30, c44, c65, c72, c86, c105, c124, c131, c142, if_true, if_false, not_true_eq_false, not_false_eq_true, and_self, true_and, and_true, false_and, and_false, or_true, true_or, or_false, false_or, reduceCtorEq, ne_eq]); (try rfl); done)) | (clear RTN X; constructor <;> ((try simp_all only [mo_upper, if_true, if_false, not_true_eq_false, not_false_eq_true, and_self, true_and, and_true, false_and, and_false, or_true, true_or, or_false, false_or, reduceCtorEq, ne_eq]); (try rfl); done))
                  · refine aw_iload_n X dX11_upper_134 rfl rfl ?_
                    refine aw_iconst X dX11_upper_135 ci_1 ?_
                    refine aw_isub X dX11_upper_136 ?_
                    refine RTN (some (.int _)) _ _ _ _ _ dX11_upper_137 (⟨_, rfl⟩) (Nat.le_of_ble_eq_true rfl) (Nat.le_of_ble_eq_true rfl) ?_
                    first | (constructor <;> ((try simp only [mo_upper, c14, c30, c44, c65, c72, c86, c105, c124, c131, if_true, if_false, not_true_eq_false, not_false_eq_true, and_self, true_and, and_true, false_and, and_false, or_true, true_or, or_false, false_or, reduceCtorEq, ne_eq]); (try rfl); done)) | (clear RTN X; constructor <;> ((try simp_all only [mo_upper, if_true, if_false, not_true_eq_false, not_false_eq_true, and_self, true_and, and_true, false_and, and_false, or_true, true_or, or_false, false_or, reduceCtorEq, ne_eq]); (try rfl); done))
              · rw [bI_n0] at c105
                refine aw_iload_n X dX11_upper_108 rfl rfl ?_
                refine aw_bipush X dX11_upper_109 cb_80 ?_
                refine aw_isub X dX11_upper_111 ?_
                refine RTN (some (.int _)) _ _ _ _ _ dX11_upper_112 (⟨_, rfl⟩) (Nat.le_of_ble_eq_true rfl) (Nat.le_of_ble_eq_true rfl) ?_
                first | (constructor <;> ((try simp only [mo_upper, c14, c30, c44, c65, c72, c86, c105, if_true, if_false, not_true_eq_false, not_false_eq_true, and_self, true_and, and_true, false_and, and_false, or_true, true_or, or_false, false_or, reduceCtorEq, ne_eq]); (try rfl); done)) | (clear RTN X; constructor <;> ((try simp_all only [mo_upper, if_true, if_false, not_true_eq_false, not_false_eq_true, and_self, true_and, and_true, false_and, and_false, or_true, true_or, or_false, false_or, reduceCtorEq, ne_eq]); (try rfl); done))
            · rw [bI_n0] at c86
              refine aw_iload_n X dX11_upper_89 rfl rfl ?_
              refine aw_bipush X dX11_upper_90 cb_32 ?_
              refine aw_isub X dX11_upper_92 ?_
              refine RTN (some (.int _)) _ _ _ _ _ dX11_upper_93 (⟨_, rfl⟩) (Nat.le_of_ble_eq_true rfl) (Nat.le_of_ble_eq_true rfl) ?_
              first | (constructor <;> ((try simp only [mo_upper, c14, c30, c44, c65, c72, c86, if_true, if_false, not_true_eq_false, not_false_eq_true, and_self, true_and, and_true, false_and, and_false, or_true, true_or, or_false, false_or, reduceCtorEq, ne_eq]); (try rfl); done)) | (clear RTN X; constructor <;> ((try simp_all only [mo_upper, if_true, if_false, not_true_eq_false, not_false_eq_true, and_self, true_and, and_true, false_and, and_false, or_true, true_or, or_false, false_or, reduceCtorEq, ne_eq]); (try rfl); done))
      · rw [bI_n0] at c44
        refine aw_iload_n X dX11_upper_47 rfl rfl ?_
        refine aw_sipush X dX11_upper_48 cs_247 ?_
        refine aw_icmp_ne (tgt := 89) X dX11_upper_51 rfl (fun c51 => ?_) (fun c51 => ?_)
        · refine aw_iload_n X dX11_upper_89 rfl rfl ?_
          refine aw_bipush X dX11_upper_90 cb_32 ?_
          refine aw_isub X dX11_upper_92 ?_
          refine RTN (some (.int _)) _ _ _ _ _ dX11_upper_93 (⟨_, rfl⟩) (Nat.le_of_ble_eq_true rfl) (Nat.le_of_ble_eq_true rfl) ?_
          first | (constructor <;> ((try simp only [mo_upper, c14, c30, c44, c51, if_true, if_false, not_true_eq_false, not_false_eq_true, and_self, true_and, and_true, false_and, and_false, or_true, true_or, or_false, false_or, reduceCtorEq, ne_eq]); (try rfl); done)) | (clear RTN X; constructor <;> ((try simp_all only [mo_upper, if_true, if_false, not_true_eq_false, not_false_eq_true, and_self, true_and, and_true, false_and, and_false, or_true, true_or, or_false, false_or, reduceCtorEq, ne_eq]); (try rfl); done))
        · refine aw_iload_n X dX11_upper_54 rfl rfl ?_
          refine aw_i2l X dX11_upper_55 ?_
          refine aw_ldc2 X kl_X11_222 dX11_upper_56 ?_
          refine aw_ldc2 X kl_X11_224 dX11_upper_59 ?_
          refine aw_callS X (kX11_inI _ _ _ _ _ _ 945 969 rfl rfl) okm_X11_in ml_X11_12 st_X11_in rfl rfl (Nat.le_of_ble_eq_true rfl) ⟨Nat.le_of_ble_eq_true rfl, Nat.le_of_ble_eq_true rfl, Nat.le_of_ble_eq_true rfl, Nat.le_of_ble_eq_true rfl⟩ dX11_upper_62 (fun v w2 hp => ?_)
          obtain ⟨rfl, rfl⟩ := hp
          refine aw_if_eq (tgt := 75) X dX11_upper_65 rfl (fun c65 => ?_) (fun c65 => ?_)
          · rw [bI_0] at c65
            refine aw_iload_n X dX11_upper_75 rfl rfl ?_
            refine aw_i2l X dX11_upper_76 ?_
            refine aw_ldc2 X kl_X11_226 dX11_upper_77 ?_
            refine aw_ldc2 X kl_X11_228 dX11_upper_80 ?_
            refine aw_callS X (kX11_inI _ _ _ _ _ _ 1072 1103 rfl rfl) okm_X11_in ml_X11_12 st_X11_in rfl rfl (Nat.le_of_ble_eq_true rfl) ⟨Nat.le_of_ble_eq_true rfl, Nat.le_of_ble_eq_true rfl, Nat.le_of_ble_eq_true rfl, Nat.le_of_ble_eq_true rfl⟩ dX11_upper_83 (fun v w2 hp => ?_)
            obtain ⟨rfl, rfl⟩ := hp
            refine aw_if_eq (tgt := 94) X dX11_upper_86 rfl (fun c86 => ?_) (fun c86 => ?_)
            · rw [bI_0] at c86
              refine aw_iload_n X dX11_upper_94 rfl rfl ?_
              refine aw_i2l X dX11_upper_95 ?_
              refine aw_ldc2 X kl_X11_230 dX11_upper_96 ?_
              refine aw_ldc2 X kl_X11_232 dX11_upper_99 ?_
              refine aw_callS X (kX11_inI _ _ _ _ _ _ 1104 1119 rfl rfl) okm_X11_in ml_X11_12 st_X11_in rfl rfl (Nat.le_of_ble_eq_true rfl) ⟨Nat.le_of_ble_eq_true rfl, Nat.le_of_ble_eq_true rfl, Nat.le_of_ble_eq_true rfl, Nat.le_of_ble_eq_true rfl⟩ dX11_upper_102 (fun v w2 hp => ?_)
              obtain ⟨rfl, rfl⟩ := hp
              refine aw_if_eq (tgt := 113) X dX11_upper_105 rfl (fun c105 => ?_) (fun c105 => ?_)
              · rw [bI_0] at c105
                refine aw_iload_n X dX11_upper_113 rfl rfl ?_
                refine aw_i2l X dX11_upper_114 ?_
                refine aw_ldc2 X kl_X11_234 dX11_upper_115 ?_
                refine aw_ldc2 X kl_X11_236 dX11_upper_118 ?_
                refine aw_callS X (kX11_inI _ _ _ _ _ _ 257 303 rfl rfl) okm_X11_in ml_X11_12 st_X11_in rfl rfl (Nat.le_of_ble_eq_true rfl) ⟨Nat.le_of_ble_eq_true rfl, Nat.le_of_ble_eq_true rfl, Nat.le_of_ble_eq_true rfl, Nat.le_of_ble_eq_true rfl⟩ dX11_upper_121 (fun v w2 hp => ?_)
                obtain ⟨rfl, rfl⟩ := hp
                refine aw_if_eq (tgt := 138) X dX11_upper_124 rfl (fun c124 => ?_) (fun c124 => ?_)
                · rw [bI_0] at c124
                  refine aw_iload_n X dX11_upper_138 rfl rfl ?_
                  refine aw_sipush X dX11_upper_139 cs_255 ?_
                  refine aw_icmp_ne (tgt := 151) X dX11_upper_142 rfl (fun c142 => ?_) (fun c142 => ?_)
                  · refine aw_iload_n X dX11_upper_151 rfl rfl ?_
                    refine aw_sipush X dX11_upper_152 cs_962 ?_
                    refine aw_icmp_ne (tgt := 164) X dX11_upper_155 rfl (fun c155 => ?_) (fun c155 => ?_)
                    · refine aw_iload_n X dX11_upper_164 rfl rfl ?_
                      refine RTN (some (.int _)) _ _ _ _ _ dX11_upper_165 (⟨_, rfl⟩) (Nat.le_of_ble_eq_true rfl) (Nat.le_of_ble_eq_true rfl) ?_
                      first | (constructor <;> ((try simp only [mo_upper, c14, c30, c44, c51, c65, c86, c105, c124, c142, c155, if_true, if_false, not_true_eq_false, not_false_eq_true, and_self, true_and, and_true, false_and, and_false, or_true, true_or, or_false, false_or, reduceCtorEq, ne_eq]); (try rfl); done)) | (clear RTN X; constructor <;> ((try simp_all only [mo_upper, if_true, if_false, not_true_eq_false, not_false_eq_true, and_self, true_and, and_true, false_and, and_false, or_true, true_or, or_false, false_or, reduceCtorEq, ne_eq]); (try rfl); done))
                    · refine aw_sipush X dX11_upper_158 cs_931 ?_
                      refine aw_goto (tgt := 165) X dX11_upper_161 rfl ?_
                      refine RTN (some (.int _)) _ _ _ _ _ dX11_upper_165 (⟨_, rfl⟩) (Nat.le_of_ble_eq_true rfl) (Nat.le_of_ble_eq_true rfl) ?_
                      first | (constructor <;> ((try simp only [mo_upper, c14, c30, c44, c51, c65, c86, c105, c124, c142, c155, if_true, if_false, not_true_eq_false, not_false_eq_true, and_self, true_and, and_true, false_and, and_false, or_true, true_or, or_false, false_or, reduceCtorEq, ne_eq]); (try rfl); done)) | (clear RTN X; constructor <;> ((try simp_all only [mo_upper, if_true, if_false, not_true_eq_false, not_false_eq_true, and_self, true_and, and_true, false_and, and_false, or_true, true_or, or_false, false_or, reduceCtorEq, ne_eq]); (try rfl); done))
                  · refine aw_sipush X dX11_upper_145 cs_376 ?_
                    refine aw_goto (tgt := 165) X dX11_upper_148 rfl ?_
                    refine RTN (some (.int _)) _ _ _ _ _ dX11_upper_165 (⟨_, rfl⟩) (Nat.le_of_ble_eq_true rfl) (Nat.le_of_ble_eq_true rfl) ?_
                    first | (constructor <;> ((try simp only [mo_upper, c14, c30, c44, c51, c65, c86, c105, c124, c142, if_true, if_false, not_true_eq_false, not_false_eq_true, and_self, true_and, and_true, false_and, and_false, or_true, true_or, or_false, false_or, reduceCtorEq, ne_eq]); (try rfl); done)) | (clear RTN X; constructor <;> ((try simp_all only [mo_upper, if_true, if_false, not_true_eq_false, not_false_eq_true, and_self, true_and, and_true, false_and, and_false, or_true, true_or, or_false, false_or, reduceCtorEq, ne_eq]); (try rfl); done))
                · rw [bI_n0] at c124
                  refine aw_iload_n X dX11_upper_127 rfl rfl ?_
                  refine aw_iconst X dX11_upper_128 ci_2 ?_
                  refine aw_irem X dX11_upper_129 (by decide) ?_
                  refine aw_iconst X dX11_upper_130 ci_1 ?_
                  refine aw_icmp_ne (tgt := 138) X dX11_upper_131 rfl (fun c131 => ?_) (fun c131 => ?_)
                  · refine aw_iload_n X dX11_upper_138 rfl rfl ?_
                    refine aw_sipush X dX11_upper_139 cs_255 ?_
                    refine aw_icmp_ne (tgt := 151) X dX11_upper_142 rfl (fun c142 => ?_) (fun c142 => ?_)
                    · refine aw_iload_n X dX11_upper_151 rfl rfl ?_
                      refine aw_sipush X dX11_upper_152 cs_962 ?_
                      refine aw_icmp_ne (tgt := 164) X dX11_upper_155 rfl (fun c155 => ?_) (fun c155 => ?_)
                      · refine aw_iload_n X dX11_upper_164 rfl rfl ?_
                        refine RTN (some (.int _)) _ _ _ _ _ dX11_upper_165 (⟨_, rfl⟩) (Nat.le_of_ble_eq_true rfl) (Nat.le_of_ble_eq_true rfl) ?_
                        first | (constructor <;> ((try simp only [mo_upper, c14, c30, c44, c51, c65, c86, c105, c124, c131, c142, c155, if_true, if_false, not_true_eq_false, not_false_eq_true, and_self, true_and, and_true, false_and, and_false, or_true, true_or, or_false, false_or, reduceCtorEq, ne_eq]); (try rfl); done)) | (clear RTN X; constructor <;> ((try simp_all only [mo_upper, if_true, if_false, not_true_eq_false, not_false_eq_true, and_self, true_and, and_true, false_and, and_false, or_true, true_or, or_false, false_or, reduceCtorEq, ne_eq]); (try rfl); done))
                      · refine aw_sipush X dX11_upper_158 cs_931 ?_
                        refine aw_goto (tgt := 165) X dX11_upper_161 rfl ?_
                        refine RTN (some (.int _)) _ _ _ _ _ dX11_upper_165 (⟨_, rfl⟩) (Nat.le_of_ble_eq_true rfl) (Nat.le_of_ble_eq_true rfl) ?_
                        first | (constructor <;> ((try simp only [mo_upper, c14, c30, c44, c51, c65, c86, c105, c124, c131, c142, c155, if_true, if_false, not_true_eq_false, not_false_eq_true, and_self, true_and, and_true, false_and, and_false, or_true, true_or, or_false, false_or, reduceCtorEq, ne_eq]); (try rfl); done)) | (clear RTN X; constructor <;> ((try simp_all only [mo_upper, if_true, if_false, not_true_eq_false, not_false_eq_true, and_self, true_and, and_true, false_and, and_false, or_true, true_or, or_false, false_or, reduceCtorEq, ne_eq]); (try rfl); done))
                    · refine aw_sipush X dX11_upper_145 cs_376 ?_
                      refine aw_goto (tgt := 165) X dX11_upper_148 rfl ?_
                      refine RTN (some (.int _)) _ _ _ _ _ dX11_upper_165 (⟨_, rfl⟩) (Nat.le_of_ble_eq_true rfl) (Nat.le_of_ble_eq_true rfl) ?_
                      first | (constructor <;> ((try simp only [mo_upper, c14, c30, c44, c51, c65, c86, c105, c124, c131, c142, if_true, if_false, not_true_eq_false, not_false_eq_true, and_self, true_and, and_true, false_and, and_false, or_true, true_or, or_false, false_or, reduceCtorEq, ne_eq]); (try rfl); done)) | (clear RTN X; constructor <;> ((try simp_all only [mo_upper, if_true, if_false, not_true_eq_false, not_false_eq_true, and_self, true_and, and_true, false_and, and_false, or_true, true_or, or_false, false_or, reduceCtorEq, ne_eq]); (try rfl); done))
                  · refine aw_iload_n X dX11_upper_134 rfl rfl ?_
                    refine aw_iconst X dX11_upper_135 ci_1 ?_
                    refine aw_isub X dX11_upper_136 ?_
                    refine RTN (some (.int _)) _ _ _ _ _ dX11_upper_137 (⟨_, rfl⟩) (Nat.le_of_ble_eq_true rfl) (Nat.le_of_ble_eq_true rfl) ?_
                    first | (constructor <;> ((try simp only [mo_upper, c14, c30, c44, c51, c65, c86, c105, c124, c131, if_true, if_false, not_true_eq_false, not_false_eq_true, and_self, true_and, and_true, false_and, and_false, or_true, true_or, or_false, false_or, reduceCtorEq, ne_eq]); (try rfl); done)) | (clear RTN X; constructor <;> ((try simp_all only [mo_upper, if_true, if_false, not_true_eq_false, not_false_eq_true, and_self, true_and, and_true, false_and, and_false, or_true, true_or, or_false, false_or, reduceCtorEq, ne_eq]); (try rfl); done))
              · rw [bI_n0] at c105
                refine aw_iload_n X dX11_upper_108 rfl rfl ?_
                refine aw_bipush X dX11_upper_109 cb_80 ?_
                refine aw_isub X dX11_upper_111 ?_
                refine RTN (some (.int _)) _ _ _ _ _ dX11_upper_112 (⟨_, rfl⟩) (Nat.le_of_ble_eq_true rfl) (Nat.le_of_ble_eq_true rfl) ?_
                first | (constructor <;> ((try simp only [mo_upper, c14, c30, c44, c51, c65, c86, c105, if_true, if_false, not_true_eq_false, not_false_eq_true, and_self, true_and, and_true, false_and, and_false, or_true, true_or, or_false, false_or, reduceCtorEq, ne_eq]); (try rfl); done)) | (clear RTN X; constructor <;> ((try simp_all only [mo_upper, if_true, if_false, not_true_eq_false, not_false_eq_true, and_self, true_and, and_true, false_and, and_false, or_true, true_or, or_false, false_or, reduceCtorEq, ne_eq]); (try rfl); done))
            · rw [bI_n0] at c86
              refine aw_iload_n X dX11_upper_89 rfl rfl ?_
              refine aw_bipush X dX11_upper_90 cb_32 ?_
              refine aw_isub X dX11_upper_92 ?_
              refine RTN (some (.int _)) _ _ _ _ _ dX11_upper_93 (⟨_, rfl⟩) (Nat.le_of_ble_eq_true rfl) (Nat.le_of_ble_eq_true rfl) ?_
              first | (constructor <;> ((try simp only [mo_upper, c14, c30, c44, c51, c65, c86, if_true, if_false, not_true_eq_false, not_false_eq_true, and_self, true_and, and_true, false_and, and_false, or_true, true_or, or_false, false_or, reduceCtorEq, ne_eq]); (try rfl); done)) | (clear RTN X; constructor <;> ((try simp_all only [mo_upper, if_true, if_false, not_true_eq_false, not_false_eq_true, and_self, true_and, and_true, false_and, and_false, or_true, true_or, or_false, false_or, reduceCtorEq, ne_eq]); (try rfl); done))
          · rw [bI_n0] at c65
            refine aw_iload_n X dX11_upper_68 rfl rfl ?_
            refine aw_sipush X dX11_upper_69 cs_962 ?_
            refine aw_icmp_ne (tgt := 89) X dX11_upper_72 rfl (fun c72 => ?_) (fun c72 => ?_)
            · refine aw_iload_n X dX11_upper_89 rfl rfl ?_
              refine aw_bipush X dX11_upper_90 cb_32 ?_
              refine aw_isub X dX11_upper_92 ?_
              refine RTN (some (.int _)) _ _ _ _ _ dX11_upper_93 (⟨_, rfl⟩) (Nat.le_of_ble_eq_true rfl) (Nat.le_of_ble_eq_true rfl) ?_
              first | (constructor <;> ((try simp only [mo_upper, c14, c30, c44, c51, c65, c72, if_true, if_false, not_true_eq_false, not_false_eq_true, and_self, true_and, and_true, false_and, and_false, or_true, true_or, or_false, false_or, reduceCtorEq, ne_eq]); (try rfl); done)) | (clear RTN X; constructor <;> ((try simp_all only [mo_upper, if_true, if_false, not_true_eq_false, not_false_eq_true, and_self, true_and, and_true, false_and, and_false, or_true, true_or, or_false, false_or, reduceCtorEq, ne_eq]); (try rfl); done))
            · refine aw_iload_n X dX11_upper_75 rfl rfl ?_
              refine aw_i2l X dX11_upper_76 ?_
              refine aw_ldc2 X kl_X11_226 dX11_upper_77 ?_
              refine aw_ldc2 X kl_X11_228 dX11_upper_80 ?_
              refine aw_callS X (kX11_inI _ _ _ _ _ _ 1072 1103 rfl rfl) okm_X11_in ml_X11_12 st_X11_in rfl rfl (Nat.le_of_ble_eq_true rfl) ⟨Nat.le_of_ble_eq_true rfl, Nat.le_of_ble_eq_true rfl, Nat.le_of_ble_eq_true rfl, Nat.le_of_ble_eq_true rfl⟩ dX11_upper_83 (fun v w2 hp => ?_)
              obtain ⟨rfl, rfl⟩ := hp
              refine aw_if_eq (tgt := 94) X dX11_upper_86 rfl (fun c86 => ?_) (fun c86 => ?_)
              · rw [bI_0] at c86
                refine aw_iload_n X dX11_upper_94 rfl rfl ?_
                refine aw_i2l X dX11_upper_95 ?_
                refine aw_ldc2 X kl_X11_230 dX11_upper_96 ?_
                refine aw_ldc2 X kl_X11_232 dX11_upper_99 ?_
                refine aw_callS X (kX11_inI _ _ _ _ _ _ 1104 1119 rfl rfl) okm_X11_in ml_X11_12 st_X11_in rfl rfl (Nat.le_of_ble_eq_true rfl) ⟨Nat.le_of_ble_eq_true rfl, Nat.le_of_ble_eq_true rfl, Nat.le_of_ble_eq_true rfl, Nat.le_of_ble_eq_true rfl⟩ dX11_upper_102 (fun v w2 hp => ?_)
                obtain ⟨rfl, rfl⟩ := hp
                refine aw_if_eq (tgt := 113) X dX11_upper_105 rfl (fun c105 => ?_) (fun c105 => ?_)
                · rw [bI_0] at c105
                  refine aw_iload_n X dX11_upper_113 rfl rfl ?_
                  refine aw_i2l X dX11_upper_114 ?_
                  refine aw_ldc2 X kl_X11_234 dX11_upper_115 ?_
                  refine aw_ldc2 X kl_X11_236 dX11_upper_118 ?_
                  refine aw_callS X (kX11_inI _ _ _ _ _ _ 257 303 rfl rfl) okm_X11_in ml_X11_12 st_X11_in rfl rfl (Nat.le_of_ble_eq_true rfl) ⟨Nat.le_of_ble_eq_true rfl, Nat.le_of_ble_eq_true rfl, Nat.le_of_ble_eq_true rfl, Nat.le_of_ble_eq_true rfl⟩ dX11_upper_121 (fun v w2 hp => ?_)
                  obtain ⟨rfl, rfl⟩ := hp
                  refine aw_if_eq (tgt := 138) X dX11_upper_124 rfl (fun c124 => ?_) (fun c124 => ?_)
                  · rw [bI_0] at c124
                    refine aw_iload_n X dX11_upper_138 rfl rfl ?_
                    refine aw_sipush X dX11_upper_139 cs_255 ?_
                    refine aw_icmp_ne (tgt := 151) X dX11_upper_142 rfl (fun c142 => ?_) (fun c142 => ?_)
                    · refine aw_iload_n X dX11_upper_151 rfl rfl ?_
                      refine aw_sipush X dX11_upper_152 cs_962 ?_
                      refine aw_icmp_ne (tgt := 164) X dX11_upper_155 rfl (fun c155 => ?_) (fun c155 => ?_)
                      · refine aw_iload_n X dX11_upper_164 rfl rfl ?_
                        refine RTN (some (.int _)) _ _ _ _ _ dX11_upper_165 (⟨_, rfl⟩) (Nat.le_of_ble_eq_true rfl) (Nat.le_of_ble_eq_true rfl) ?_
                        first | (constructor <;> ((try simp only [mo_upper, c14, c30, c44, c51, c65, c72, c86, c105, c124, c142, c155, if_true, if_false, not_true_eq_false, not_false_eq_true, and_self, true_and, and_true, false_and, and_false, or_true, true_or, or_false, false_or, reduceCtorEq, ne_eq]); (try rfl); done)) | (clear RTN X; constructor <;> ((try simp_all only [mo_upper, if_true, if_false, not_true_eq_false, not_false_eq_true, and_self, true_and, and_true, false_and, and_false, or_true, true_or, or_false, false_or, reduceCtorEq, ne_eq]); (try rfl); done))
                      · refine aw_sipush X dX11_upper_158 cs_931 ?_
                        refine aw_goto (tgt := 165) X dX11_upper_161 rfl ?_
                        refine RTN (some (.int _)) _ _ _ _ _ dX11_upper_165 (⟨_, rfl⟩) (Nat.le_of_ble_eq_true rfl) (Nat.le_of_ble_eq_true rfl) ?_
                        first | (constructor <;> ((try simp only [mo_upper, c14, c30, c44, c51, c65, c72, c86, c105, c124, c142, c155, if_true, if_false, not_true_eq_false, not_false_eq_true, and_self, true_and, and_true, false_and, and_false, or_true, true_or, or_false, false_or, reduceCtorEq, ne_eq]); (try rfl); done)) | (clear RTN X; constructor <;> ((try simp_all only [mo_upper, if_true, if_false, not_true_eq_false, not_false_eq_true, and_self, true_and, and_true, false_and, and_false, or_true, true_or, or_false, false_or, reduceCtorEq, ne_eq]); (try rfl); done))
                    · refine aw_sipush X dX11_upper_145 cs_376 ?_
                      refine aw_goto (tgt := 165) X dX11_upper_148 rfl ?_
                      refine RTN (some (.int _)) _ _ _ _ _ dX11_upper_165 (⟨_, rfl⟩) (Nat.le_of_ble_eq_true rfl) (Nat.le_of_ble_eq_true rfl) ?_
                      first | (constructor <;> ((try simp only [mo_upper, c14, c30, c44, c51, c65, c72, c86, c105, c124, c142, if_true, if_false, not_true_eq_false, not_false_eq_true, and_self, true_and, and_true, false_and, and_false, or_true, true_or, or_false, false_or, reduceCtorEq, ne_eq]); (try rfl); done)) | (clear RTN X; constructor <;> ((try simp_all only [mo_upper, if_true, if_false, not_true_eq_false, not_false_eq_true, and_self, true_and, and_true, false_and, and_false, or_true, true_or, or_false, false_or, reduceCtorEq, ne_eq]); (try rfl); done))
                  · rw [bI_n0] at c124
                    refine aw_iload_n X dX11_upper_127 rfl rfl ?_
                    refine aw_iconst X dX11_upper_128 ci_2 ?_
                    refine aw_irem X dX11_upper_129 (by decide) ?_
                    refine aw_iconst X dX11_upper_130 ci_1 ?_
                    refine aw_icmp_ne (tgt := 138) X dX11_upper_131 rfl (fun c131 => ?_) (fun c131 => ?_)
                    · refine aw_iload_n X dX11_upper_138 rfl rfl ?_
                      refine aw_sipush X dX11_upper_139 cs_255 ?_
                      refine aw_icmp_ne (tgt := 151) X dX11_upper_142 rfl (fun c142 => ?_) (fun c142 => ?_)
                      · refine aw_iload_n X dX11_upper_151 rfl rfl ?_
                        refine aw_sipush X dX11_upper_152 cs_962 ?_
                        refine aw_icmp_ne (tgt := 164) X dX11_upper_155 rfl (fun c155 => ?_) (fun c155 => ?_)
                        · refine aw_iload_n X dX11_upper_164 rfl rfl ?_
                          refine RTN (some (.int _)) _ _ _ _ _ dX11_upper_165 (⟨_, rfl⟩) (Nat.le_of_ble_eq_true rfl) (Nat.le_of_ble_eq_true rfl) ?_
                          first | (constructor <;> ((try simp only [mo_upper, c14, c30, c44, c51, c65, c72, c86, c105, c124, c131, c142, c155, if_true, if_false, not_true_eq_false, not_false_eq_true, and_self, true_and, and_true, false_and, and_false, or_true, true_or, or_false, false_or, reduceCtorEq, ne_eq]); (try rfl); done)) | (clear RTN X; constructor <;> ((try simp_all only [mo_upper, if_true, if_false, not_true_eq_false, not_false_eq_true, and_self, true_and, and_true, false_and, and_false, or_true, true_or, or_false, false_or, reduceCtorEq, ne_eq]); (try rfl); done))
                        · refine aw_sipush X dX11_upper_158 cs_931 ?_
                          refine aw_goto (tgt := 165) X dX11_upper_161 rfl ?_
                          refine RTN (some (.int _)) _ _ _ _ _ dX11_upper_165 (⟨_, rfl⟩) (Nat.le_of_ble_eq_true rfl) (Nat.le_of_ble_eq_true rfl) ?_
                          first | (constructor <;> ((try simp only [mo_upper, c14, c30, c44, c51, c65, c72, c86, c105, c124, c131, c142, c155, if_true, if_false, not_true_eq_false, not_false_eq_true, and_self, true_and, and_true, false_and, and_false, or_true, true_or, or_false, false_or, reduceCtorEq, ne_eq]); (try rfl); done)) | (clear RTN X; constructor <;> ((try simp_all only [mo_upper, if_true, if_false, not_true_eq_false, not_false_eq_true, and_self, true_and, and_true, false_and, and_false, or_true, true_or, or_false, false_or, reduceCtorEq, ne_eq]); (try rfl); done))
                      · refine aw_sipush X dX11_upper_145 cs_376 ?_
                        refine aw_goto (tgt := 165) X dX11_upper_148 rfl ?_
                        refine RTN (some (.int _)) _ _ _ _ _ dX11_upper_165 (⟨_, rfl⟩) (Nat.le_of_ble_eq_true rfl) (Nat.le_of_ble_eq_true rfl) ?_
                        first | (constructor <;> ((try simp only [mo_upper, c14, c30, c44, c51, c65, c72, c86, c105, c124, c131, c142, if_true, if_false, not_true_eq_false, not_false_eq_true, and_self, true_and, and_true, false_and, and_false, or_true, true_or, or_false, false_or, reduceCtorEq, ne_eq]); (try rfl); done)) | (clear RTN X; constructor <;> ((try simp_all only [mo_upper, if_true, if_false, not_true_eq_false, not_false_eq_true, and_self, true_and, and_true, false_and, and_false, or_true, true_or, or_false, false_or, reduceCtorEq, ne_eq]); (try rfl); done))
                    · refine aw_iload_n X dX11_upper_134 rfl rfl ?_
                      refine aw_iconst X dX11_upper_135 ci_1 ?_
                      refine aw_isub X dX11_upper_136 ?_
                      refine RTN (some (.int _)) _ _ _ _ _ dX11_upper_137 (⟨_, rfl⟩) (Nat.le_of_ble_eq_true rfl) (Nat.le_of_ble_eq_true rfl) ?_
                      first | (constructor <;> ((try simp only [mo_upper, c14, c30, c44, c51, c65, c72, c86, c105, c124, c131, if_true, if_false, not_true_eq_false, not_false_eq_true, and_self, true_and, and_true, false_and, and_false, or_true, true_or, or_false, false_or, reduceCtorEq, ne_eq]); (try rfl); done)) | (clear RTN X; constructor <;> ((try simp_all only [mo_upper, if_true, if_false, not_true_eq_false, not_false_eq_true, and_self, true_and, and_true, false_and, and_false, or_true, true_or, or_false, false_or, reduceCtorEq, ne_eq]); (try rfl); done))
                · rw [bI_n0] at c105
                  refine aw_iload_n X dX11_upper_108 rfl rfl ?_
                  refine aw_bipush X dX11_upper_109 cb_80 ?_
                  refine aw_isub X dX11_upper_111 ?_
                  refine RTN (some (.int _)) _ _ _ _ _ dX11_upper_112 (⟨_, rfl⟩) (Nat.le_of_ble_eq_true rfl) (Nat.le_of_ble_eq_true rfl) ?_
                  first | (constructor <;> ((try simp only [mo_upper, c14, c30, c44, c51, c65, c72, c86, c105, if_true, if_false, not_true_eq_false, not_false_eq_true, and_self, true_and, and_true, false_and, and_false, or_true, true_or, or_false, false_or, reduceCtorEq, ne_eq]); (try rfl); done)) | (clear RTN X; constructor <;> ((try simp_all only [mo_upper, if_true, if_false, not_true_eq_false, not_false_eq_true, and_self, true_and, and_true, false_and, and_false, or_true, true_or, or_false, false_or, reduceCtorEq, ne_eq]); (try rfl); done))
              · rw [bI_n0] at c86
                refine aw_iload_n X dX11_upper_89 rfl rfl ?_
                refine aw_bipush X dX11_upper_90 cb_32 ?_
                refine aw_isub X dX11_upper_92 ?_
                refine RTN (some (.int _)) _ _ _ _ _ dX11_upper_93 (⟨_, rfl⟩) (Nat.le_of_ble_eq_true rfl) (Nat.le_of_ble_eq_true rfl) ?_
                first | (constructor <;> ((try simp only [mo_upper, c14, c30, c44, c51, c65, c72, c86, if_true, if_false, not_true_eq_false, not_false_eq_true, and_self, true_and, and_true, false_and, and_false, or_true, true_or, or_false, false_or, reduceCtorEq, ne_eq]); (try rfl); done)) | (clear RTN X; constructor <;> ((try simp_all only [mo_upper, if_true, if_false, not_true_eq_false, not_false_eq_true, and_self, true_and, and_true, false_and, and_false, or_true, true_or, or_false, false_or, reduceCtorEq, ne_eq]); (try rfl); done))
  · rw [bI_0] at c14
    refine aw_iconst X dX11_upper_17 ci_m1 ?_
    refine RTN (some (.int _)) _ _ _ _ _ dX11_upper_18 (⟨_, rfl⟩) (Nat.le_of_ble_eq_true rfl) (Nat.le_of_ble_eq_true rfl) ?_
    first | (constructor <;> ((try simp only [mo_upper, c14, if_true, if_false, not_true_eq_false, not_false_eq_true, and_self, true_and, and_true, false_and, and_false, or_true, true_or, or_false, false_or, reduceCtorEq, ne_eq]); (try rfl); done)) | (clear RTN X; constructor <;> ((try simp_all only [mo_upper, if_true, if_false, not_true_eq_false, not_false_eq_true, and_self, true_and, and_true, false_and, and_false, or_true, true_or, or_false, false_or, reduceCtorEq, ne_eq]); (try rfl); done))
set_option maxRecDepth 100000 in
set_option maxHeartbeats 4000000 in
theorem kX11_lower (G : GG) (l : Launch) (q : Nat → Nat) (M : MS) (hq : mInj q) (c0 : Int32) : MC G l yX11_lower cX11_lower 2 ((Option.some .int)) ({ frames := 1, cells := 0, slots := 0, locals := 25 } : Room) [.ref (q 0), .int c0] (mw G q M) (fun v w' => v = some (.int (mo_lower M c0).1) ∧ w' = mw G q (mo_lower M c0).2) := by
  refine mc_int (by decide) (Nat.le_of_ble_eq_true rfl) rfl rfl ?_
  intro p e s m args below meth c A H0 Q X hnm RTN
  have X : Cx G p s m args meth c A H0 cX11_lower 2 RX11 := X
  refine aw_aload_n X dX11_lower_0 rfl rfl ?_
  refine aw_iconst X dX11_lower_1 ci_0 ?_
  refine am_put X 0 (M' := sI _ 0 _) (Nat.le_of_ble_eq_true rfl) fl_X11_1 rfl rfl (rfl) (rfl) (mf_0 _ _ _) rfl dX11_lower_2 ?_
  refine aw_iload_n X dX11_lower_5 rfl rfl ?_
  refine aw_i2l X dX11_lower_6 ?_
  refine aw_lconst X dX11_lower_7 cl_0 ?_
  refine aw_ldc2 X kl_X11_186 dX11_lower_8 ?_
  refine aw_callS X (kX11_inI _ _ _ _ _ _ 0 1114111 rfl rfl) okm_X11_in ml_X11_12 st_X11_in rfl rfl (Nat.le_of_ble_eq_true rfl) ⟨Nat.le_of_ble_eq_true rfl, Nat.le_of_ble_eq_true rfl, Nat.le_of_ble_eq_true rfl, Nat.le_of_ble_eq_true rfl⟩ dX11_lower_11 (fun v w2 hp => ?_)
  obtain ⟨rfl, rfl⟩ := hp
  refine aw_if_ne (tgt := 19) X dX11_lower_14 rfl (fun c14 => ?_) (fun c14 => ?_)
  · rw [bI_n0] at c14
    refine aw_iload_n X dX11_lower_19 rfl rfl ?_
    refine aw_i2l X dX11_lower_20 ?_
    refine aw_ldc2 X kl_X11_238 dX11_lower_21 ?_
    refine aw_ldc2 X kl_X11_240 dX11_lower_24 ?_
    refine aw_callS X (kX11_inI _ _ _ _ _ _ 65 90 rfl rfl) okm_X11_in ml_X11_12 st_X11_in rfl rfl (Nat.le_of_ble_eq_true rfl) ⟨Nat.le_of_ble_eq_true rfl, Nat.le_of_ble_eq_true rfl, Nat.le_of_ble_eq_true rfl, Nat.le_of_ble_eq_true rfl⟩ dX11_lower_27 (fun v w2 hp => ?_)
    obtain ⟨rfl, rfl⟩ := hp
    refine aw_if_ne (tgt := 89) X dX11_lower_30 rfl (fun c30 => ?_) (fun c30 => ?_)
    · rw [bI_n0] at c30
      refine aw_iload_n X dX11_lower_89 rfl rfl ?_
      refine aw_bipush X dX11_lower_90 cb_32 ?_
      refine aw_iadd X dX11_lower_92 ?_
      refine RTN (some (.int _)) _ _ _ _ _ dX11_lower_93 (⟨_, rfl⟩) (Nat.le_of_ble_eq_true rfl) (Nat.le_of_ble_eq_true rfl) ?_
      first | (constructor <;> ((try simp only [mo_lower, c14, c30, if_true, if_false, not_true_eq_false, not_false_eq_true, and_self, true_and, and_true, false_and, and_false, or_true, true_or, or_false, false_or, reduceCtorEq, ne_eq]); (try rfl); done)) | (clear RTN X; constructor <;> ((try simp_all only [mo_lower, if_true, if_false, not_true_eq_false, not_false_eq_true, and_self, true_and, and_true, false_and, and_false, or_true, true_or, or_false, false_or, reduceCtorEq, ne_eq]); (try rfl); done))
    · rw [bI_0] at c30
      refine aw_iload_n X dX11_lower_33 rfl rfl ?_
      refine aw_i2l X dX11_lower_34 ?_
      refine aw_ldc2 X kl_X11_242 dX11_lower_35 ?_
      refine aw_ldc2 X kl_X11_244 dX11_lower_38 ?_
      refine aw_callS X (kX11_inI _ _ _ _ _ _ 192 222 rfl rfl) okm_X11_in ml_X11_12 st_X11_in rfl rfl (Nat.le_of_ble_eq_true rfl) ⟨Nat.le_of_ble_eq_true rfl, Nat.le_of_ble_eq_true rfl, Nat.le_of_ble_eq_true rfl, Nat.le_of_ble_eq_true rfl⟩ dX11_lower_41 (fun v w2 hp => ?_)
      obtain ⟨rfl, rfl⟩ := hp
      refine aw_if_eq (tgt := 54) X dX11_lower_44 rfl (fun c44 => ?_) (fun c44 => ?_)
      · rw [bI_0] at c44
        refine aw_iload_n X dX11_lower_54 rfl rfl ?_
        refine aw_i2l X dX11_lower_55 ?_
        refine aw_ldc2 X kl_X11_246 dX11_lower_56 ?_
        refine aw_ldc2 X kl_X11_248 dX11_lower_59 ?_
        refine aw_callS X (kX11_inI _ _ _ _ _ _ 913 937 rfl rfl) okm_X11_in ml_X11_12 st_X11_in rfl rfl (Nat.le_of_ble_eq_true rfl) ⟨Nat.le_of_ble_eq_true rfl, Nat.le_of_ble_eq_true rfl, Nat.le_of_ble_eq_true rfl, Nat.le_of_ble_eq_true rfl⟩ dX11_lower_62 (fun v w2 hp => ?_)
        obtain ⟨rfl, rfl⟩ := hp
        refine aw_if_eq (tgt := 75) X dX11_lower_65 rfl (fun c65 => ?_) (fun c65 => ?_)
        · rw [bI_0] at c65
          refine aw_iload_n X dX11_lower_75 rfl rfl ?_
          refine aw_i2l X dX11_lower_76 ?_
          refine aw_ldc2 X kl_X11_250 dX11_lower_77 ?_
          refine aw_ldc2 X kl_X11_252 dX11_lower_80 ?_
          refine aw_callS X (kX11_inI _ _ _ _ _ _ 1040 1071 rfl rfl) okm_X11_in ml_X11_12 st_X11_in rfl rfl (Nat.le_of_ble_eq_true rfl) ⟨Nat.le_of_ble_eq_true rfl, Nat.le_of_ble_eq_true rfl, Nat.le_of_ble_eq_true rfl, Nat.le_of_ble_eq_true rfl⟩ dX11_lower_83 (fun v w2 hp => ?_)
          obtain ⟨rfl, rfl⟩ := hp
          refine aw_if_eq (tgt := 94) X dX11_lower_86 rfl (fun c86 => ?_) (fun c86 => ?_)
          · rw [bI_0] at c86
            refine aw_iload_n X dX11_lower_94 rfl rfl ?_
            refine aw_i2l X dX11_lower_95 ?_
            refine aw_ldc2 X kl_X11_254 dX11_lower_96 ?_
            refine aw_ldc2 X kl_X11_256 dX11_lower_99 ?_
            refine aw_callS X (kX11_inI _ _ _ _ _ _ 1024 1039 rfl rfl) okm_X11_in ml_X11_12 st_X11_in rfl rfl (Nat.le_of_ble_eq_true rfl) ⟨Nat.le_of_ble_eq_true rfl, Nat.le_of_ble_eq_true rfl, Nat.le_of_ble_eq_true rfl, Nat.le_of_ble_eq_true rfl⟩ dX11_lower_102 (fun v w2 hp => ?_)
            obtain ⟨rfl, rfl⟩ := hp
            refine aw_if_eq (tgt := 113) X dX11_lower_105 rfl (fun c105 => ?_) (fun c105 => ?_)
            · rw [bI_0] at c105
              refine aw_iload_n X dX11_lower_113 rfl rfl ?_
              refine aw_i2l X dX11_lower_114 ?_
              refine aw_ldc2 X kl_X11_258 dX11_lower_115 ?_
              refine aw_ldc2 X kl_X11_260 dX11_lower_118 ?_
              refine aw_callS X (kX11_inI _ _ _ _ _ _ 256 302 rfl rfl) okm_X11_in ml_X11_12 st_X11_in rfl rfl (Nat.le_of_ble_eq_true rfl) ⟨Nat.le_of_ble_eq_true rfl, Nat.le_of_ble_eq_true rfl, Nat.le_of_ble_eq_true rfl, Nat.le_of_ble_eq_true rfl⟩ dX11_lower_121 (fun v w2 hp => ?_)
              obtain ⟨rfl, rfl⟩ := hp
              refine aw_if_eq (tgt := 137) X dX11_lower_124 rfl (fun c124 => ?_) (fun c124 => ?_)
              · rw [bI_0] at c124
                refine aw_iload_n X dX11_lower_137 rfl rfl ?_
                refine aw_sipush X dX11_lower_138 cs_376 ?_
                refine aw_icmp_ne (tgt := 150) X dX11_lower_141 rfl (fun c141 => ?_) (fun c141 => ?_)
                · refine aw_iload_n X dX11_lower_150 rfl rfl ?_
                  refine RTN (some (.int _)) _ _ _ _ _ dX11_lower_151 (⟨_, rfl⟩) (Nat.le_of_ble_eq_true rfl) (Nat.le_of_ble_eq_true rfl) ?_
                  first | (constructor <;> ((try simp only [mo_lower, c14, c30, c44, c65, c86, c105, c124, c141, if_true, if_false, not_true_eq_false, not_false_eq_true, and_self, true_and, and_true, false_and, and_false, or_true, true_or, or_false, false_or, reduceCtorEq, ne_eq]); (try rfl); done)) | (clear RTN X; constructor <;> ((try simp_all only [mo_lower, if_true, if_false, not_true_eq_false, not_false_eq_true, and_self, true_and, and_true, false_and, and_false, or_true, true_or, or_false, false_or, reduceCtorEq, ne_eq]); (try rfl); done))
                · refine aw_sipush X dX11_lower_144 cs_255 ?_
                  refine aw_goto (tgt := 151) X dX11_lower_147 rfl ?_
                  refine RTN (some (.int _)) _ _ _ _ _ dX11_lower_151 (⟨_, rfl⟩) (Nat.le_of_ble_eq_true rfl) (Nat.le_of_ble_eq_true rfl) ?_
                  first | (constructor <;> ((try simp only [mo_lower, c14, c30, c44, c65, c86, c105, c124, c141, if_true, if_false, not_true_eq_false, not_false_eq_true, and_self, true_and, and_true, false_and, and_false, or_true, true_or, or_false, false_or, reduceCtorEq, ne_eq]); (try rfl); done)) | (clear RTN X; constructor <;> ((try simp_all only [mo_lower, if_true, if_false, not_true_eq_false, not_false_eq_true, and_self, true_and, and_true, false_and, and_false, or_true, true_or, or_false, false_or, reduceCtorEq, ne_eq]); (try rfl); done))
              · rw [bI_n0] at c124
                refine aw_iload_n X dX11_lower_127 rfl rfl ?_
                refine aw_iconst X dX11_lower_128 ci_2 ?_
                refine aw_irem X dX11_lower_129 (by decide) ?_
                refine aw_if_ne (tgt := 137) X dX11_lower_130 rfl (fun c130 => ?_) (fun c130 => ?_)
                · refine aw_iload_n X dX11_lower_137 rfl rfl ?_
                  refine aw_sipush X dX11_lower_138 cs_376 ?_
                  refine aw_icmp_ne (tgt := 150) X dX11_lower_141 rfl (fun c141 => ?_) (fun c141 => ?_)
                  · refine aw_iload_n X dX11_lower_150 rfl rfl ?_
                    refine RTN (some (.int _)) _ _ _ _ _ dX11_lower_151 (⟨_, rfl⟩) (Nat.le_of_ble_eq_true rfl) (Nat.le_of_ble_eq_true rfl) ?_
                    first | (constructor <;> ((try simp only [mo_lower, c14, c30, c44, c65, c86, c105, c124, c130, c141, if_true, if_false, not_true_eq_false, not_false_eq_true, and_self, true_and, and_true, false_and, and_false, or_true, true_or, or_false, false_or, reduceCtorEq, ne_eq]); (try rfl); done)) | (clear RTN X; constructor <;> ((try simp_all only [mo_lower, if_true, if_false, not_true_eq_false, not_false_eq_true, and_self, true_and, and_true, false_and, and_false, or_true, true_or, or_false, false_or, reduceCtorEq, ne_eq]); (try rfl); done))
                  · refine aw_sipush X dX11_lower_144 cs_255 ?_
                    refine aw_goto (tgt := 151) X dX11_lower_147 rfl ?_
                    refine RTN (some (.int _)) _ _ _ _ _ dX11_lower_151 (⟨_, rfl⟩) (Nat.le_of_ble_eq_true rfl) (Nat.le_of_ble_eq_true rfl) ?_
                    first | (constructor <;> ((try simp only [mo_lower, c14, c30, c44, c65, c86, c105, c124, c130, c141, if_true, if_false, not_true_eq_false, not_false_eq_true, and_self, true_and, and_true, false_and, and_false, or_true, true_or, or_false, false_or, reduceCtorEq, ne_eq]); (try rfl); done)) | (clear RTN X; constructor <;> ((try simp_all only [mo_lower, if_true, if_false, not_true_eq_false, not_false_eq_true, and_self, true_and, and_true, false_and, and_false, or_true, true_or, or_false, false_or, reduceCtorEq, ne_eq]); (try rfl); done))
                · refine aw_iload_n X dX11_lower_133 rfl rfl ?_
                  refine aw_iconst X dX11_lower_134 ci_1 ?_
                  refine aw_iadd X dX11_lower_135 ?_
                  refine RTN (some (.int _)) _ _ _ _ _ dX11_lower_136 (⟨_, rfl⟩) (Nat.le_of_ble_eq_true rfl) (Nat.le_of_ble_eq_true rfl) ?_
                  first | (constructor <;> ((try simp only [mo_lower, c14, c30, c44, c65, c86, c105, c124, c130, if_true, if_false, not_true_eq_false, not_false_eq_true, and_self, true_and, and_true, false_and, and_false, or_true, true_or, or_false, false_or, reduceCtorEq, ne_eq]); (try rfl); done)) | (clear RTN X; constructor <;> ((try simp_all only [mo_lower, if_true, if_false, not_true_eq_false, not_false_eq_true, and_self, true_and, and_true, false_and, and_false, or_true, true_or, or_false, false_or, reduceCtorEq, ne_eq]); (try rfl); done))
            · rw [bI_n0] at c105
              refine aw_iload_n X dX11_lower_108 rfl rfl ?_
              refine aw_bipush X dX11_lower_109 cb_80 ?_
              refine aw_iadd X dX11_lower_111 ?_
              refine RTN (some (.int _)) _ _ _ _ _ dX11_lower_112 (⟨_, rfl⟩) (Nat.le_of_ble_eq_true rfl) (Nat.le_of_ble_eq_true rfl) ?_
              first | (constructor <;> ((try simp only [mo_lower, c14, c30, c44, c65, c86, c105, if_true, if_false, not_true_eq_false, not_false_eq_true, and_self, true_and, and_true, false_and, and_false, or_true, true_or, or_false, false_or, reduceCtorEq, ne_eq]); (try rfl); done)) | (clear RTN X; constructor <;> ((try simp_all only [mo_lower, if_true, if_false, not_true_eq_false, not_false_eq_true, and_self, true_and, and_true, false_and, and_false, or_true, true_or, or_false, false_or, reduceCtorEq, ne_eq]); (try rfl); done))
          · rw [bI_n0] at c86
            refine aw_iload_n X dX11_lower_89 rfl rfl ?_
            refine aw_bipush X dX11_lower_90 cb_32 ?_
            refine aw_iadd X dX11_lower_92 ?_
            refine RTN (some (.int _)) _ _ _ _ _ dX11_lower_93 (⟨_, rfl⟩) (Nat.le_of_ble_eq_true rfl) (Nat.le_of_ble_eq_true rfl) ?_
            first | (constructor <;> ((try simp only [mo_lower, c14, c30, c44, c65, c86, if_true, if_false, not_true_eq_false, not_false_eq_true, and_self, true_and, and_true, false_and, and_false, or_true, true_or, or_false, false_or, reduceCtorEq, ne_eq]); (try rfl); done)) | (clear RTN X; constructor <;> ((try simp_all only [mo_lower, if_true, if_false, not_true_eq_false, not_false_eq_true, and_self, true_and, and_true, false_and, and_false, or_true, true_or, or_false, false_or, reduceCtorEq, ne_eq]); (try rfl); done))
        · rw [bI_n0] at c65
          refine aw_iload_n X dX11_lower_68 rfl rfl ?_
          refine aw_sipush X dX11_lower_69 cs_930 ?_
          refine aw_icmp_ne (tgt := 89) X dX11_lower_72 rfl (fun c72 => ?_) (fun c72 => ?_)
          · refine aw_iload_n X dX11_lower_89 rfl rfl ?_
            refine aw_bipush X dX11_lower_90 cb_32 ?_
            refine aw_iadd X dX11_lower_92 ?_
            refine RTN (some (.int _)) _ _ _ _ _ dX11_lower_93 (⟨_, rfl⟩) (Nat.le_of_ble_eq_true rfl) (Nat.le_of_ble_eq_true rfl) ?_
            first | (constructor <;> ((try simp only [mo_lower, c14, c30, c44, c65, c72, if_true, if_false, not_true_eq_false, not_false_eq_true, and_self, true_and, and_true, false_and, and_false, or_true, true_or, or_false, false_or, reduceCtorEq, ne_eq]); (try rfl); done)) | (clear RTN X; constructor <;> ((try simp_all only [mo_lower, if_true, if_false, not_true_eq_false, not_false_eq_true, and_self, true_and, and_true, false_and, and_false, or_true, true_or, or_false, false_or, reduceCtorEq, ne_eq]); (try rfl); done))
          · refine aw_iload_n X dX11_lower_75 rfl rfl ?_
            refine aw_i2l X dX11_lower_76 ?_
            refine aw_ldc2 X kl_X11_250 dX11_lower_77 ?_
            refine aw_ldc2 X kl_X11_252 dX11_lower_80 ?_
            refine aw_callS X (kX11_inI _ _ _ _ _ _ 1040 1071 rfl rfl) okm_X11_in ml_X11_12 st_X11_in rfl rfl (Nat.le_of_ble_eq_true rfl) ⟨Nat.le_of_ble_eq_true rfl, Nat.le_of_ble_eq_true rfl, Nat.le_of_ble_eq_true rfl, Nat.le_of_ble_eq_true rfl⟩ dX11_lower_83 (fun v w2 hp => ?_)
            obtain ⟨rfl, rfl⟩ := hp
            refine aw_if_eq (tgt := 94) X dX11_lower_86 rfl (fun c86 => ?_) (fun c86 => ?_)
            · rw [bI_0] at c86
              refine aw_iload_n X dX11_lower_94 rfl rfl ?_
              refine aw_i2l X dX11_lower_95 ?_
              refine aw_ldc2 X kl_X11_254 dX11_lower_96 ?_
              refine aw_ldc2 X kl_X11_256 dX11_lower_99 ?_
              refine aw_callS X (kX11_inI _ _ _ _ _ _ 1024 1039 rfl rfl) okm_X11_in ml_X11_12 st_X11_in rfl rfl (Nat.le_of_ble_eq_true rfl) ⟨Nat.le_of_ble_eq_true rfl, Nat.le_of_ble_eq_true rfl, Nat.le_of_ble_eq_true rfl, Nat.le_of_ble_eq_true rfl⟩ dX11_lower_102 (fun v w2 hp => ?_)
              obtain ⟨rfl, rfl⟩ := hp
              refine aw_if_eq (tgt := 113) X dX11_lower_105 rfl (fun c105 => ?_) (fun c105 => ?_)
              · rw [bI_0] at c105
                refine aw_iload_n X dX11_lower_113 rfl rfl ?_
                refine aw_i2l X dX11_lower_114 ?_
                refine aw_ldc2 X kl_X11_258 dX11_lower_115 ?_
                refine aw_ldc2 X kl_X11_260 dX11_lower_118 ?_
                refine aw_callS X (kX11_inI _ _ _ _ _ _ 256 302 rfl rfl) okm_X11_in ml_X11_12 st_X11_in rfl rfl (Nat.le_of_ble_eq_true rfl) ⟨Nat.le_of_ble_eq_true rfl, Nat.le_of_ble_eq_true rfl, Nat.le_of_ble_eq_true rfl, Nat.le_of_ble_eq_true rfl⟩ dX11_lower_121 (fun v w2 hp => ?_)
                obtain ⟨rfl, rfl⟩ := hp
                refine aw_if_eq (tgt := 137) X dX11_lower_124 rfl (fun c124 => ?_) (fun c124 => ?_)
                · rw [bI_0] at c124
                  refine aw_iload_n X dX11_lower_137 rfl rfl ?_
                  refine aw_sipush X dX11_lower_138 cs_376 ?_
                  refine aw_icmp_ne (tgt := 150) X dX11_lower_141 rfl (fun c141 => ?_) (fun c141 => ?_)
                  · refine aw_iload_n X dX11_lower_150 rfl rfl ?_
                    refine RTN (some (.int _)) _ _ _ _ _ dX11_lower_151 (⟨_, rfl⟩) (Nat.le_of_ble_eq_true rfl) (Nat.le_of_ble_eq_true rfl) ?_
                    first | (constructor <;> ((try simp only [mo_lower, c14, c30, c44, c65, c72, c86, c105, c124, c141, if_true, if_false, not_true_eq_false, not_false_eq_true, and_self, true_and, and_true, false_and, and_false, or_true, true_or, or_false, false_or, reduceCtorEq, ne_eq]); (try rfl); done)) | (clear RTN X; constructor <;> ((try simp_all only [mo_lower, if_true, if_false, not_true_eq_false, not_false_eq_true, and_self, true_and, and_true, false_and, and_false, or_true, true_or, or_false, false_or, reduceCtorEq, ne_eq]); (try rfl); done))
                  · refine aw_sipush X dX11_lower_144 cs_255 ?_
                    refine aw_goto (tgt := 151) X dX11_lower_147 rfl ?_
                    refine RTN (some (.int _)) _ _ _ _ _ dX11_lower_151 (⟨_, rfl⟩) (Nat.le_of_ble_eq_true rfl) (Nat.le_of_ble_eq_true rfl) ?_
                    first | (constructor <;> ((try simp only [mo_lower, c14, c30, c44, c65, c72, c86, c105, c124, c141, if_true, if_false, not_true_eq_false, not_false_eq_true, and_self, true_and, and_true, false_and, and_false, or_true, true_or, or_false, false_or, reduceCtorEq, ne_eq]); (try rfl); done)) | (clear RTN X; constructor <;> ((try simp_all only [mo_lower, if_true, if_false, not_true_eq_false, not_false_eq_true, and_self, true_and, and_true, false_and, and_false, or_true, true_or, or_false, false_or, reduceCtorEq, ne_eq]); (try rfl); done))
                · rw [bI_n0] at c124
                  refine aw_iload_n X dX11_lower_127 rfl rfl ?_
                  refine aw_iconst X dX11_lower_128 ci_2 ?_
                  refine aw_irem X dX11_lower_129 (by decide) ?_
                  refine aw_if_ne (tgt := 137) X dX11_lower_130 rfl (fun c130 => ?_) (fun c130 => ?_)
                  · refine aw_iload_n X dX11_lower_137 rfl rfl ?_
                    refine aw_sipush X dX11_lower_138 cs_376 ?_
                    refine aw_icmp_ne (tgt := 150) X dX11_lower_141 rfl (fun c141 => ?_) (fun c141 => ?_)
                    · refine aw_iload_n X dX11_lower_150 rfl rfl ?_
                      refine RTN (some (.int _)) _ _ _ _ _ dX11_lower_151 (⟨_, rfl⟩) (Nat.le_of_ble_eq_true rfl) (Nat.le_of_ble_eq_true rfl) ?_
                      first | (constructor <;> ((try simp only [mo_lower, c14, c30, c44, c65, c72, c86, c105, c124, c130, c141, if_true, if_false, not_true_eq_false, not_false_eq_true, and_self, true_and, and_true, false_and, and_false, or_true, true_or, or_false, false_or, reduceCtorEq, ne_eq]); (try rfl); done)) | (clear RTN X; constructor <;> ((try simp_all only [mo_lower, if_true, if_false, not_true_eq_false, not_false_eq_true, and_self, true_and, and_true, false_and, and_false, or_true, true_or, or_false, false_or, reduceCtorEq, ne_eq]); (try rfl); done))
                    · refine aw_sipush X dX11_lower_144 cs_255 ?_
                      refine aw_goto (tgt := 151) X dX11_lower_147 rfl ?_
                      refine RTN (some (.int _)) _ _ _ _ _ dX11_lower_151 (⟨_, rfl⟩) (Nat.le_of_ble_eq_true rfl) (Nat.le_of_ble_eq_true rfl) ?_
                      first | (constructor <;> ((try simp only [mo_lower, c14, c30, c44, c65, c72, c86, c105, c124, c130, c141, if_true, if_false, not_true_eq_false, not_false_eq_true, and_self, true_and, and_true, false_and, and_false, or_true, true_or, or_false, false_or, reduceCtorEq, ne_eq]); (try rfl); done)) | (clear RTN X; constructor <;> ((try simp_all only [mo_lower, if_true, if_false, not_true_eq_false, not_false_eq_true, and_self, true_and, and_true, false_and, and_false, or_true, true_or, or_false, false_or, reduceCtorEq, ne_eq]); (try rfl); done))
                  · refine aw_iload_n X dX11_lower_133 rfl rfl ?_
                    refine aw_iconst X dX11_lower_134 ci_1 ?_
                    refine aw_iadd X dX11_lower_135 ?_
                    refine RTN (some (.int _)) _ _ _ _ _ dX11_lower_136 (⟨_, rfl⟩) (Nat.le_of_ble_eq_true rfl) (Nat.le_of_ble_eq_true rfl) ?_
                    first | (constructor <;> ((try simp only [mo_lower, c14, c30, c44, c65, c72, c86, c105, c124, c130, if_true, if_false, not_true_eq_false, not_false_eq_true, and_self, true_and, and_true, false_and, and_false, or_true, true_or, or_false, false_or, reduceCtorEq, ne_eq]); (try rfl); done)) | (clear RTN X; constructor <;> ((try simp_all only [mo_lower, if_true, if_false, not_true_eq_false, not_false_eq_true, and_self, true_and, and_true, false_and, and_false, or_true, true_or, or_false, false_or, reduceCtorEq, ne_eq]); (try rfl); done))
              · rw [bI_n0] at c105
                refine aw_iload_n X dX11_lower_108 rfl rfl ?_
                refine aw_bipush X dX11_lower_109 cb_80 ?_
                refine aw_iadd X dX11_lower_111 ?_
                refine RTN (some (.int _)) _ _ _ _ _ dX11_lower_112 (⟨_, rfl⟩) (Nat.le_of_ble_eq_true rfl) (Nat.le_of_ble_eq_true rfl) ?_
                first | (constructor <;> ((try simp only [mo_lower, c14, c30, c44, c65, c72, c86, c105, if_true, if_false, not_true_eq_false, not_false_eq_true, and_self, true_and, and_true, false_and, and_false, or_true, true_or, or_false, false_or, reduceCtorEq, ne_eq]); (try rfl); done)) | (clear RTN X; constructor <;> ((try simp_all only [mo_lower, if_true, if_false, not_true_eq_false, not_false_eq_true, and_self, true_and, and_true, false_and, and_false, or_true, true_or, or_false, false_or, reduceCtorEq, ne_eq]); (try rfl); done))
            · rw [bI_n0] at c86
              refine aw_iload_n X dX11_lower_89 rfl rfl ?_
              refine aw_bipush X dX11_lower_90 cb_32 ?_
              refine aw_iadd X dX11_lower_92 ?_
              refine RTN (some (.int _)) _ _ _ _ _ dX11_lower_93 (⟨_, rfl⟩) (Nat.le_of_ble_eq_true rfl) (Nat.le_of_ble_eq_true rfl) ?_
              first | (constructor <;> ((try simp only [mo_lower, c14, c30, c44, c65, c72, c86, if_true, if_false, not_true_eq_false, not_false_eq_true, and_self, true_and, and_true, false_and, and_false, or_true, true_or, or_false, false_or, reduceCtorEq, ne_eq]); (try rfl); done)) | (clear RTN X; constructor <;> ((try simp_all only [mo_lower, if_true, if_false, not_true_eq_false, not_false_eq_true, and_self, true_and, and_true, false_and, and_false, or_true, true_or, or_false, false_or, reduceCtorEq, ne_eq]); (try rfl); done))
      · rw [bI_n0] at c44
        refine aw_iload_n X dX11_lower_47 rfl rfl ?_
        refine aw_sipush X dX11_lower_48 cs_215 ?_
        refine aw_icmp_ne (tgt := 89) X dX11_lower_51 rfl (fun c51 => ?_) (fun c51 => ?_)
        · refine aw_iload_n X dX11_lower_89 rfl rfl ?_
          refine aw_bipush X dX11_lower_90 cb_32 ?_
          refine aw_iadd X dX11_lower_92 ?_
          refine RTN (some (.int _)) _ _ _ _ _ dX11_lower_93 (⟨_, rfl⟩) (Nat.le_of_ble_eq_true rfl) (Nat.le_of_ble_eq_true rfl) ?_
          first | (constructor <;> ((try simp only [mo_lower, c14, c30, c44, c51, if_true, if_false, not_true_eq_false, not_false_eq_true, and_self, true_and, and_true, false_and, and_false, or_true, true_or, or_false, false_or, reduceCtorEq, ne_eq]); (try rfl); done)) | (clear RTN X; constructor <;> ((try simp_all only [mo_lower, if_true, if_false, not_true_eq_false, not_false_eq_true, and_self, true_and, and_true, false_and, and_false, or_true, true_or, or_false, false_or, reduceCtorEq, ne_eq]); (try rfl); done))
        · refine aw_iload_n X dX11_lower_54 rfl rfl ?_
          refine aw_i2l X dX11_lower_55 ?_
          refine aw_ldc2 X kl_X11_246 dX11_lower_56 ?_
          refine aw_ldc2 X kl_X11_248 dX11_lower_59 ?_
          refine aw_callS X (kX11_inI _ _ _ _ _ _ 913 937 rfl rfl) okm_X11_in ml_X11_12 st_X11_in rfl rfl (Nat.le_of_ble_eq_true rfl) ⟨Nat.le_of_ble_eq_true rfl, Nat.le_of_ble_eq_true rfl, Nat.le_of_ble_eq_true rfl, Nat.le_of_ble_eq_true rfl⟩ dX11_lower_62 (fun v w2 hp => ?_)
          obtain ⟨rfl, rfl⟩ := hp
          refine aw_if_eq (tgt := 75) X dX11_lower_65 rfl (fun c65 => ?_) (fun c65 => ?_)
          · rw [bI_0] at c65
            refine aw_iload_n X dX11_lower_75 rfl rfl ?_
            refine aw_i2l X dX11_lower_76 ?_
            refine aw_ldc2 X kl_X11_250 dX11_lower_77 ?_
            refine aw_ldc2 X kl_X11_252 dX11_lower_80 ?_
            refine aw_callS X (kX11_inI _ _ _ _ _ _ 1040 1071 rfl rfl) okm_X11_in ml_X11_12 st_X11_in rfl rfl (Nat.le_of_ble_eq_true rfl) ⟨Nat.le_of_ble_eq_true rfl, Nat.le_of_ble_eq_true rfl, Nat.le_of_ble_eq_true rfl, Nat.le_of_ble_eq_true rfl⟩ dX11_lower_83 (fun v w2 hp => ?_)
            obtain ⟨rfl, rfl⟩ := hp
            refine aw_if_eq (tgt := 94) X dX11_lower_86 rfl (fun c86 => ?_) (fun c86 => ?_)
            · rw [bI_0] at c86
              refine aw_iload_n X dX11_lower_94 rfl rfl ?_
              refine aw_i2l X dX11_lower_95 ?_
              refine aw_ldc2 X kl_X11_254 dX11_lower_96 ?_
              refine aw_ldc2 X kl_X11_256 dX11_lower_99 ?_
              refine aw_callS X (kX11_inI _ _ _ _ _ _ 1024 1039 rfl rfl) okm_X11_in ml_X11_12 st_X11_in rfl rfl (Nat.le_of_ble_eq_true rfl) ⟨Nat.le_of_ble_eq_true rfl, Nat.le_of_ble_eq_true rfl, Nat.le_of_ble_eq_true rfl, Nat.le_of_ble_eq_true rfl⟩ dX11_lower_102 (fun v w2 hp => ?_)
              obtain ⟨rfl, rfl⟩ := hp
              refine aw_if_eq (tgt := 113) X dX11_lower_105 rfl (fun c105 => ?_) (fun c105 => ?_)
              · rw [bI_0] at c105
                refine aw_iload_n X dX11_lower_113 rfl rfl ?_
                refine aw_i2l X dX11_lower_114 ?_
                refine aw_ldc2 X kl_X11_258 dX11_lower_115 ?_
                refine aw_ldc2 X kl_X11_260 dX11_lower_118 ?_
                refine aw_callS X (kX11_inI _ _ _ _ _ _ 256 302 rfl rfl) okm_X11_in ml_X11_12 st_X11_in rfl rfl (Nat.le_of_ble_eq_true rfl) ⟨Nat.le_of_ble_eq_true rfl, Nat.le_of_ble_eq_true rfl, Nat.le_of_ble_eq_true rfl, Nat.le_of_ble_eq_true rfl⟩ dX11_lower_121 (fun v w2 hp => ?_)
                obtain ⟨rfl, rfl⟩ := hp
                refine aw_if_eq (tgt := 137) X dX11_lower_124 rfl (fun c124 => ?_) (fun c124 => ?_)
                · rw [bI_0] at c124
                  refine aw_iload_n X dX11_lower_137 rfl rfl ?_
                  refine aw_sipush X dX11_lower_138 cs_376 ?_
                  refine aw_icmp_ne (tgt := 150) X dX11_lower_141 rfl (fun c141 => ?_) (fun c141 => ?_)
                  · refine aw_iload_n X dX11_lower_150 rfl rfl ?_
                    refine RTN (some (.int _)) _ _ _ _ _ dX11_lower_151 (⟨_, rfl⟩) (Nat.le_of_ble_eq_true rfl) (Nat.le_of_ble_eq_true rfl) ?_
                    first | (constructor <;> ((try simp only [mo_lower, c14, c30, c44, c51, c65, c86, c105, c124, c141, if_true, if_false, not_true_eq_false, not_false_eq_true, and_self, true_and, and_true, false_and, and_false, or_true, true_or, or_false, false_or, reduceCtorEq, ne_eq]); (try rfl); done)) | (clear RTN X; constructor <;> ((try simp_all only [mo_lower, if_true, if_false, not_true_eq_false, not_false_eq_true, and_self, true_and, and_true, false_and, and_false, or_true, true_or, or_false, false_or, reduceCtorEq, ne_eq]); (try rfl); done))
                  · refine aw_sipush X dX11_lower_144 cs_255 ?_
                    refine aw_goto (tgt := 151) X dX11_lower_147 rfl ?_
                    refine RTN (some (.int _)) _ _ _ _ _ dX11_lower_151 (⟨_, rfl⟩) (Nat.le_of_ble_eq_true rfl) (Nat.le_of_ble_eq_true rfl) ?_
                    first | (constructor <;> ((try simp only [mo_lower, c14, c30, c44, c51, c65, c86, c105, c124, c141, if_true, if_false, not_true_eq_false, not_false_eq_true, and_self, true_and, and_true, false_and, and_false, or_true, true_or, or_false, false_or, reduceCtorEq, ne_eq]); (try rfl); done)) | (clear RTN X; constructor <;> ((try simp_all only [mo_lower, if_true, if_false, not_true_eq_false, not_false_eq_true, and_self, true_and, and_true, false_and, and_false, or_true, true_or, or_false, false_or, reduceCtorEq, ne_eq]); (try rfl); done))
                · rw [bI_n0] at c124
                  refine aw_iload_n X dX11_lower_127 rfl rfl ?_
                  refine aw_iconst X dX11_lower_128 ci_2 ?_
                  refine aw_irem X dX11_lower_129 (by decide) ?_
                  refine aw_if_ne (tgt := 137) X dX11_lower_130 rfl (fun c130 => ?_) (fun c130 => ?_)
                  · refine aw_iload_n X dX11_lower_137 rfl rfl ?_
                    refine aw_sipush X dX11_lower_138 cs_376 ?_
                    refine aw_icmp_ne (tgt := 150) X dX11_lower_141 rfl (fun c141 => ?_) (fun c141 => ?_)
                    · refine aw_iload_n X dX11_lower_150 rfl rfl ?_
                      refine RTN (some (.int _)) _ _ _ _ _ dX11_lower_151 (⟨_, rfl⟩) (Nat.le_of_ble_eq_true rfl) (Nat.le_of_ble_eq_true rfl) ?_
                      first | (constructor <;> ((try simp only [mo_lower, c14, c30, c44, c51, c65, c86, c105, c124, c130, c141, if_true, if_false, not_true_eq_false, not_false_eq_true, and_self, true_and, and_true, false_and, and_false, or_true, true_or, or_false, false_or, reduceCtorEq, ne_eq]); (try rfl); done)) | (clear RTN X; constructor <;> ((try simp_all only [mo_lower, if_true, if_false, not_true_eq_false, not_false_eq_true, and_self, true_and, and_true, false_and, and_false, or_true, true_or, or_false, false_or, reduceCtorEq, ne_eq]); (try rfl); done))
                    · refine aw_sipush X dX11_lower_144 cs_255 ?_
                      refine aw_goto (tgt := 151) X dX11_lower_147 rfl ?_
                      refine RTN (some (.int _)) _ _ _ _ _ dX11_lower_151 (⟨_, rfl⟩) (Nat.le_of_ble_eq_true rfl) (Nat.le_of_ble_eq_true rfl) ?_
                      first | (constructor <;> ((try simp only [mo_lower, c14, c30, c44, c51, c65, c86, c105, c124, c130, c141, if_true, if_false, not_true_eq_false, not_false_eq_true, and_self, true_and, and_true, false_and, and_false, or_true, true_or, or_false, false_or, reduceCtorEq, ne_eq]); (try rfl); done)) | (clear RTN X; constructor <;> ((try simp_all only [mo_lower, if_true, if_false, not_true_eq_false, not_false_eq_true, and_self, true_and, and_true, false_and, and_false, or_true, true_or, or_false, false_or, reduceCtorEq, ne_eq]); (try rfl); done))
                  · refine aw_iload_n X dX11_lower_133 rfl rfl ?_
                    refine aw_iconst X dX11_lower_134 ci_1 ?_
                    refine aw_iadd X dX11_lower_135 ?_
                    refine RTN (some (.int _)) _ _ _ _ _ dX11_lower_136 (⟨_, rfl⟩) (Nat.le_of_ble_eq_true rfl) (Nat.le_of_ble_eq_true rfl) ?_
                    first | (constructor <;> ((try simp only [mo_lower, c14, c30, c44, c51, c65, c86, c105, c124, c130, if_true, if_false, not_true_eq_false, not_false_eq_true, and_self, true_and, and_true, false_and, and_false, or_true, true_or, or_false, false_or, reduceCtorEq, ne_eq]); (try rfl); done)) | (clear RTN X; constructor <;> ((try simp_all only [mo_lower, if_true, if_false, not_true_eq_false, not_false_eq_true, and_self, true_and, and_true, false_and, and_false, or_true, true_or, or_false, false_or, reduceCtorEq, ne_eq]); (try rfl); done))
              · rw [bI_n0] at c105
                refine aw_iload_n X dX11_lower_108 rfl rfl ?_
                refine aw_bipush X dX11_lower_109 cb_80 ?_
                refine aw_iadd X dX11_lower_111 ?_
                refine RTN (some (.int _)) _ _ _ _ _ dX11_lower_112 (⟨_, rfl⟩) (Nat.le_of_ble_eq_true rfl) (Nat.le_of_ble_eq_true rfl) ?_
                first | (constructor <;> ((try simp only [mo_lower, c14, c30, c44, c51, c65, c86, c105, if_true, if_false, not_true_eq_false, not_false_eq_true, and_self, true_and, and_true, false_and, and_false, or_true, true_or, or_false, false_or, reduceCtorEq, ne_eq]); (try rfl); done)) | (clear RTN X; constructor <;> ((try simp_all only [mo_lower, if_true, if_false, not_true_eq_false, not_false_eq_true, and_self, true_and, and_true, false_and, and_false, or_true, true_or, or_false, false_or, reduceCtorEq, ne_eq]); (try rfl); done))
            · rw [bI_n0] at c86
              refine aw_iload_n X dX11_lower_89 rfl rfl ?_
              refine aw_bipush X dX11_lower_90 cb_32 ?_
              refine aw_iadd X dX11_lower_92 ?_
              refine RTN (some (.int _)) _ _ _ _ _ dX11_lower_93 (⟨_, rfl⟩) (Nat.le_of_ble_eq_true rfl) (Nat.le_of_ble_eq_true rfl) ?_
              first | (constructor <;> ((try simp only [mo_lower, c14, c30, c44, c51, c65, c86, if_true, if_false, not_true_eq_false, not_false_eq_true, and_self, true_and, and_true, false_and, and_false, or_true, true_or, or_false, false_or, reduceCtorEq, ne_eq]); (try rfl); done)) | (clear RTN X; constructor <;> ((try simp_all only [mo_lower, if_true, if_false, not_true_eq_false, not_false_eq_true, and_self, true_and, and_true, false_and, and_false, or_true, true_or, or_false, false_or, reduceCtorEq, ne_eq]); (try rfl); done))
          · rw [bI_n0] at c65
            refine aw_iload_n X dX11_lower_68 rfl rfl ?_
            refine aw_sipush X dX11_lower_69 cs_930 ?_
            refine aw_icmp_ne (tgt := 89) X dX11_lower_72 rfl (fun c72 => ?_) (fun c72 => ?_)
            · refine aw_iload_n X dX11_lower_89 rfl rfl ?_
              refine aw_bipush X dX11_lower_90 cb_32 ?_
              refine aw_iadd X dX11_lower_92 ?_
              refine RTN (some (.int _)) _ _ _ _ _ dX11_lower_93 (⟨_, rfl⟩) (Nat.le_of_ble_eq_true rfl) (Nat.le_of_ble_eq_true rfl) ?_
              first | (constructor <;> ((try simp only [mo_lower, c14, c30, c44, c51, c65, c72, if_true, if_false, not_true_eq_false, not_false_eq_true, and_self, true_and, and_true, false_and, and_false, or_true, true_or, or_false, false_or, reduceCtorEq, ne_eq]); (try rfl); done)) | (clear RTN X; constructor <;> ((try simp_all only [mo_lower, if_true, if_false, not_true_eq_false, not_false_eq_true, and_self, true_and, and_true, false_and, and_false, or_true, true_or, or_false, false_or, reduceCtorEq, ne_eq]); (try rfl); done))
            · refine aw_iload_n X dX11_lower_75 rfl rfl ?_
              refine aw_i2l X dX11_lower_76 ?_
              refine aw_ldc2 X kl_X11_250 dX11_lower_77 ?_
              refine aw_ldc2 X kl_X11_252 dX11_lower_80 ?_
              refine aw_callS X (kX11_inI _ _ _ _ _ _ 1040 1071 rfl rfl) okm_X11_in ml_X11_12 st_X11_in rfl rfl (Nat.le_of_ble_eq_true rfl) ⟨Nat.le_of_ble_eq_true rfl, Nat.le_of_ble_eq_true rfl, Nat.le_of_ble_eq_true rfl, Nat.le_of_ble_eq_true rfl⟩ dX11_lower_83 (fun v w2 hp => ?_)
              obtain ⟨rfl, rfl⟩ := hp
              refine aw_if_eq (tgt := 94) X dX11_lower_86 rfl (fun c86 => ?_) (fun c86 => ?_)
              · rw [bI_0] at c86
                refine aw_iload_n X dX11_lower_94 rfl rfl ?_
                refine aw_i2l X dX11_lower_95 ?_
                refine aw_ldc2 X kl_X11_254 dX11_lower_96 ?_
                refine aw_ldc2 X kl_X11_256 dX11_lower_99 ?_
                refine aw_callS X (kX11_inI _ _ _ _ _ _ 1024 1039 rfl rfl) okm_X11_in ml_X11_12 st_X11_in rfl rfl (Nat.le_of_ble_eq_true rfl) ⟨Nat.le_of_ble_eq_true rfl, Nat.le_of_ble_eq_true rfl, Nat.le_of_ble_eq_true rfl, Nat.le_of_ble_eq_true rfl⟩ dX11_lower_102 (fun v w2 hp => ?_)
                obtain ⟨rfl, rfl⟩ := hp
                refine aw_if_eq (tgt := 113) X dX11_lower_105 rfl (fun c105 => ?_) (fun c105 => ?_)
                · rw [bI_0] at c105
                  refine aw_iload_n X dX11_lower_113 rfl rfl ?_
                  refine aw_i2l X dX11_lower_114 ?_
                  refine aw_ldc2 X kl_X11_258 dX11_lower_115 ?_
                  refine aw_ldc2 X kl_X11_260 dX11_lower_118 ?_
                  refine aw_callS X (kX11_inI _ _ _ _ _ _ 256 302 rfl rfl) okm_X11_in ml_X11_12 st_X11_in rfl rfl (Nat.le_of_ble_eq_true rfl) ⟨Nat.le_of_ble_eq_true rfl, Nat.le_of_ble_eq_true rfl, Nat.le_of_ble_eq_true rfl, Nat.le_of_ble_eq_true rfl⟩ dX11_lower_121 (fun v w2 hp => ?_)
                  obtain ⟨rfl, rfl⟩ := hp
                  refine aw_if_eq (tgt := 137) X dX11_lower_124 rfl (fun c124 => ?_) (fun c124 => ?_)
                  · rw [bI_0] at c124
                    refine aw_iload_n X dX11_lower_137 rfl rfl ?_
                    refine aw_sipush X dX11_lower_138 cs_376 ?_
                    refine aw_icmp_ne (tgt := 150) X dX11_lower_141 rfl (fun c141 => ?_) (fun c141 => ?_)
                    · refine aw_iload_n X dX11_lower_150 rfl rfl ?_
                      refine RTN (some (.int _)) _ _ _ _ _ dX11_lower_151 (⟨_, rfl⟩) (Nat.le_of_ble_eq_true rfl) (Nat.le_of_ble_eq_true rfl) ?_
                      first | (constructor <;> ((try simp only [mo_lower, c14, c30, c44, c51, c65, c72, c86, c105, c124, c141, if_true, if_false, not_true_eq_false, not_false_eq_true, and_self, true_and, and_true, false_and, and_false, or_true, true_or, or_false, false_or, reduceCtorEq, ne_eq]); (try rfl); done)) | (clear RTN X; constructor <;> ((try simp_all only [mo_lower, if_true, if_false, not_true_eq_false, not_false_eq_true, and_self, true_and, and_true, false_and, and_false, or_true, true_or, or_false, false_or, reduceCtorEq, ne_eq]); (try rfl); done))
                    · refine aw_sipush X dX11_lower_144 cs_255 ?_
                      refine aw_goto (tgt := 151) X dX11_lower_147 rfl ?_
                      refine RTN (some (.int _)) _ _ _ _ _ dX11_lower_151 (⟨_, rfl⟩) (Nat.le_of_ble_eq_true rfl) (Nat.le_of_ble_eq_true rfl) ?_
                      first | (constructor <;> ((try simp only [mo_lower, c14, c30, c44, c51, c65, c72, c86, c105, c124, c141, if_true, if_false, not_true_eq_false, not_false_eq_true, and_self, true_and, and_true, false_and, and_false, or_true, true_or, or_false, false_or, reduceCtorEq, ne_eq]); (try rfl); done)) | (clear RTN X; constructor <;> ((try simp_all only [mo_lower, if_true, if_false, not_true_eq_false, not_false_eq_true, and_self, true_and, and_true, false_and, and_false, or_true, true_or, or_false, false_or, reduceCtorEq, ne_eq]); (try rfl); done))
                  · rw [bI_n0] at c124
                    refine aw_iload_n X dX11_lower_127 rfl rfl ?_
                    refine aw_iconst X dX11_lower_128 ci_2 ?_
                    refine aw_irem X dX11_lower_129 (by decide) ?_
                    refine aw_if_ne (tgt := 137) X dX11_lower_130 rfl (fun c130 => ?_) (fun c130 => ?_)
                    · refine aw_iload_n X dX11_lower_137 rfl rfl ?_
                      refine aw_sipush X dX11_lower_138 cs_376 ?_
                      refine aw_icmp_ne (tgt := 150) X dX11_lower_141 rfl (fun c141 => ?_) (fun c141 => ?_)
                      · refine aw_iload_n X dX11_lower_150 rfl rfl ?_
                        refine RTN (some (.int _)) _ _ _ _ _ dX11_lower_151 (⟨_, rfl⟩) (Nat.le_of_ble_eq_true rfl) (Nat.le_of_ble_eq_true rfl) ?_
                        first | (constructor <;> ((try simp only [mo_lower, c14, c30, c44, c51, c65, c72, c86, c105, c124, c130, c141, if_true, if_false, not_true_eq_false, not_false_eq_true, and_self, true_and, and_true, false_and, and_false, or_true, true_or, or_false, false_or, reduceCtorEq, ne_eq]); (try rfl); done)) | (clear RTN X; constructor <;> ((try simp_all only [mo_lower, if_true, if_false, not_true_eq_false, not_false_eq_true, and_self, true_and, and_true, false_and, and_false, or_true, true_or, or_false, false_or, reduceCtorEq, ne_eq]); (try rfl); done))
                      · refine aw_sipush X dX11_lower_144 cs_255 ?_
                        refine aw_goto (tgt := 151) X dX11_lower_147 rfl ?_
                        refine RTN (some (.int _)) _ _ _ _ _ dX11_lower_151 (⟨_, rfl⟩) (Nat.le_of_ble_eq_true rfl) (Nat.le_of_ble_eq_true rfl) ?_
                        first | (constructor <;> ((try simp only [mo_lower, c14, c30, c44, c51, c65, c72, c86, c105, c124, c130, c141, if_true, if_false, not_true_eq_false, not_false_eq_true, and_self, true_and, and_true, false_and, and_false, or_true, true_or, or_false, false_or, reduceCtorEq, ne_eq]); (try rfl); done)) | (clear RTN X; constructor <;> ((try simp_all only [mo_lower, if_true, if_false, not_true_eq_false, not_false_eq_true, and_self, true_and, and_true, false_and, and_false, or_true, true_or, or_false, false_or, reduceCtorEq, ne_eq]); (try rfl); done))
                    · refine aw_iload_n X dX11_lower_133 rfl rfl ?_
                      refine aw_iconst X dX11_lower_134 ci_1 ?_
                      refine aw_iadd X dX11_lower_135 ?_
                      refine RTN (some (.int _)) _ _ _ _ _ dX11_lower_136 (⟨_, rfl⟩) (Nat.le_of_ble_eq_true rfl) (Nat.le_of_ble_eq_true rfl) ?_
                      first | (constructor <;> ((try simp only [mo_lower, c14, c30, c44, c51, c65, c72, c86, c105, c124, c130, if_true, if_false, not_true_eq_false, not_false_eq_true, and_self, true_and, and_true, false_and, and_false, or_true, true_or, or_false, false_or, reduceCtorEq, ne_eq]); (try rfl); done)) | (clear RTN X; constructor <;> ((try simp_all only [mo_lower, if_true, if_false, not_true_eq_false, not_false_eq_true, and_self, true_and, and_true, false_and, and_false, or_true, true_or, or_false, false_or, reduceCtorEq, ne_eq]); (try rfl); done))
                · rw [bI_n0] at c105
                  refine aw_iload_n X dX11_lower_108 rfl rfl ?_
                  refine aw_bipush X dX11_lower_109 cb_80 ?_
                  refine aw_iadd X dX11_lower_111 ?_
                  refine RTN (some (.int _)) _ _ _ _ _ dX11_lower_112 (⟨_, rfl⟩) (Nat.le_of_ble_eq_true rfl) (Nat.le_of_ble_eq_true rfl) ?_
                  first | (constructor <;> ((try simp only [mo_lower, c14, c30, c44, c51, c65, c72, c86, c105, if_true, if_false, not_true_eq_false, not_false_eq_true, and_self, true_and, and_true, false_and, and_false, or_true, true_or, or_false, false_or, reduceCtorEq, ne_eq]); (try rfl); done)) | (clear RTN X; constructor <;> ((try simp_all only [mo_lower, if_true, if_false, not_true_eq_false, not_false_eq_true, and_self, true_and, and_true, false_and, and_false, or_true, true_or, or_false, false_or, reduceCtorEq, ne_eq]); (try rfl); done))
              · rw [bI_n0] at c86
                refine aw_iload_n X dX11_lower_89 rfl rfl ?_
                refine aw_bipush X dX11_lower_90 cb_32 ?_
                refine aw_iadd X dX11_lower_92 ?_
                refine RTN (some (.int _)) _ _ _ _ _ dX11_lower_93 (⟨_, rfl⟩) (Nat.le_of_ble_eq_true rfl) (Nat.le_of_ble_eq_true rfl) ?_
                first | (constructor <;> ((try simp only [mo_lower, c14, c30, c44, c51, c65, c72, c86, if_true, if_false, not_true_eq_false, not_false_eq_true, and_self, true_and, and_true, false_and, and_false, or_true, true_or, or_false, false_or, reduceCtorEq, ne_eq]); (try rfl); done)) | (clear RTN X; constructor <;> ((try simp_all only [mo_lower, if_true, if_false, not_true_eq_false, not_false_eq_true, and_self, true_and, and_true, false_and, and_false, or_true, true_or, or_false, false_or, reduceCtorEq, ne_eq]); (try rfl); done))
  · rw [bI_0] at c14
    refine aw_iconst X dX11_lower_17 ci_m1 ?_
    refine RTN (some (.int _)) _ _ _ _ _ dX11_lower_18 (⟨_, rfl⟩) (Nat.le_of_ble_eq_true rfl) (Nat.le_of_ble_eq_true rfl) ?_
    first | (constructor <;> ((try simp only [mo_lower, c14, if_true, if_false, not_true_eq_false, not_false_eq_true, and_self, true_and, and_true, false_and, and_false, or_true, true_or, or_false, false_or, reduceCtorEq, ne_eq]); (try rfl); done)) | (clear RTN X; constructor <;> ((try simp_all only [mo_lower, if_true, if_false, not_true_eq_false, not_false_eq_true, and_self, true_and, and_true, false_and, and_false, or_true, true_or, or_false, false_or, reduceCtorEq, ne_eq]); (try rfl); done))
