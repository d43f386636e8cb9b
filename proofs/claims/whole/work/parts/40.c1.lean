set_option maxRecDepth 100000 in
set_option maxHeartbeats 4000000 in
theorem kX10_within (G : GG) (l : Launch) (w : WM) (x a b : Int32) (lo hi : Int) (ha : a.toInt = lo) (hb : b.toInt = hi) : MC G l yX10_within cX10_within 3 ((Option.some .boolean)) ({ frames := 0, cells := 0, slots := 0, locals := 0 } : Room) [.int x, .int a, .int b] w (fun v w' => v = some (.int (bI (bt x lo hi = true))) ∧ w' = w) := by
  refine mc_bool (by decide) (Nat.le_of_ble_eq_true rfl) rfl rfl ?_
  intro p e s m args below meth c A H0 Q X hnm RTN
  have X : Cx G p s m args meth c A H0 cX10_within 3 RX10 := X
  refine aw_iload_n X dX10_within_0 rfl rfl ?_
  refine aw_iload_n X dX10_within_1 rfl rfl ?_
  refine aw_icmp_lt (tgt := 14) X dX10_within_2 rfl (fun c2 => ?_) (fun c2 => ?_)
  · refine aw_iconst X dX10_within_14 ci_0 ?_
    refine RTN (some (.int _)) _ _ _ _ _ dX10_within_15 (by first | exact Or.inl rfl | exact Or.inr rfl) (Nat.le_of_ble_eq_true rfl) (Nat.le_of_ble_eq_true rfl) ?_
    exact ⟨by rw [bI_f]; intro h; rw [i32_lt, ha] at c2; have := (bt_iff.mp h).1; omega, rfl⟩
  · refine aw_iload_n X dX10_within_5 rfl rfl ?_
    refine aw_iload_n X dX10_within_6 rfl rfl ?_
    refine aw_icmp_gt (tgt := 14) X dX10_within_7 rfl (fun c7 => ?_) (fun c7 => ?_)
    · refine aw_iconst X dX10_within_14 ci_0 ?_
      refine RTN (some (.int _)) _ _ _ _ _ dX10_within_15 (by first | exact Or.inl rfl | exact Or.inr rfl) (Nat.le_of_ble_eq_true rfl) (Nat.le_of_ble_eq_true rfl) ?_
      exact ⟨by rw [bI_f]; intro h; rw [i32_lt, hb] at c7; have := (bt_iff.mp h).2; omega, rfl⟩
    · refine aw_iconst X dX10_within_10 ci_1 ?_
      refine aw_goto (tgt := 15) X dX10_within_11 rfl ?_
      refine RTN (some (.int _)) _ _ _ _ _ dX10_within_15 (by first | exact Or.inl rfl | exact Or.inr rfl) (Nat.le_of_ble_eq_true rfl) (Nat.le_of_ble_eq_true rfl) ?_
      exact ⟨by rw [bI_t (bt_iff.mpr ⟨by rw [← ha, ← i32_le]; exact Int32.not_lt.mp c2, by rw [← hb, ← i32_le]; exact Int32.not_lt.mp c7⟩)], rfl⟩
set_option maxRecDepth 100000 in
set_option maxHeartbeats 4000000 in
theorem kX10_isRow (G : GG) (l : Launch) (w : WM) (x : Int32) : MC G l yX10_isRow cX10_isRow 1 ((Option.some .boolean)) ({ frames := 1, cells := 0, slots := 0, locals := 22 } : Room) [.int x] w (fun v w' => v = some (.int (bI (bt x 0 7 = true))) ∧ w' = w) := by
  refine mc_bool (by decide) (Nat.le_of_ble_eq_true rfl) rfl rfl ?_
  intro p e s m args below meth c A H0 Q X hnm RTN
  have X : Cx G p s m args meth c A H0 cX10_isRow 1 RX10 := X
  refine aw_iload_n X dX10_isRow_0 rfl rfl ?_
  refine aw_iconst X dX10_isRow_1 ci_0 ?_
  refine aw_bipush X dX10_isRow_2 cb_7 ?_
  refine aw_callS X (kX10_within _ _ _ _ _ _ 0 7 rfl rfl) okm_X10_within ml_X10_50 st_X10_within rfl rfl (Nat.le_of_ble_eq_true rfl) ⟨Nat.le_of_ble_eq_true rfl, Nat.le_of_ble_eq_true rfl, Nat.le_of_ble_eq_true rfl, Nat.le_of_ble_eq_true rfl⟩ dX10_isRow_4 (fun v w2 hp => ?_)
  obtain ⟨rfl, rfl⟩ := hp
  refine RTN (some (.int _)) _ _ _ _ _ dX10_isRow_7 (bI_ok) (Nat.le_of_ble_eq_true rfl) (Nat.le_of_ble_eq_true rfl) ?_
  exact ⟨rfl, rfl⟩
set_option maxRecDepth 100000 in
set_option maxHeartbeats 4000000 in
theorem kX10_isSign (G : GG) (l : Launch) (w : WM) (x : Int32) : MC G l yX10_isSign cX10_isSign 1 ((Option.some .boolean)) ({ frames := 1, cells := 0, slots := 0, locals := 22 } : Room) [.int x] w (fun v w' => v = some (.int (bI (bt x 0 1114111 = true))) ∧ w' = w) := by
  refine mc_bool (by decide) (Nat.le_of_ble_eq_true rfl) rfl rfl ?_
  intro p e s m args below meth c A H0 Q X hnm RTN
  have X : Cx G p s m args meth c A H0 cX10_isSign 1 RX10 := X
  refine aw_iload_n X dX10_isSign_0 rfl rfl ?_
  refine aw_iconst X dX10_isSign_1 ci_0 ?_
  refine aw_ldcw X kc_X10_378 dX10_isSign_2 ?_
  refine aw_callS X (kX10_within _ _ _ _ _ _ 0 1114111 rfl rfl) okm_X10_within ml_X10_50 st_X10_within rfl rfl (Nat.le_of_ble_eq_true rfl) ⟨Nat.le_of_ble_eq_true rfl, Nat.le_of_ble_eq_true rfl, Nat.le_of_ble_eq_true rfl, Nat.le_of_ble_eq_true rfl⟩ dX10_isSign_5 (fun v w2 hp => ?_)
  obtain ⟨rfl, rfl⟩ := hp
  refine RTN (some (.int _)) _ _ _ _ _ dX10_isSign_8 (bI_ok) (Nat.le_of_ble_eq_true rfl) (Nat.le_of_ble_eq_true rfl) ?_
  exact ⟨rfl, rfl⟩
set_option maxRecDepth 100000 in
set_option maxHeartbeats 4000000 in
theorem kX10_isResource (G : GG) (l : Launch) (w : WM) (x : Int32) : MC G l yX10_isResource cX10_isResource 1 ((Option.some .boolean)) ({ frames := 1, cells := 0, slots := 0, locals := 22 } : Room) [.int x] w (fun v w' => v = some (.int (bI (bt x 0 3 = true))) ∧ w' = w) := by
  refine mc_bool (by decide) (Nat.le_of_ble_eq_true rfl) rfl rfl ?_
  intro p e s m args below meth c A H0 Q X hnm RTN
  have X : Cx G p s m args meth c A H0 cX10_isResource 1 RX10 := X
  refine aw_iload_n X dX10_isResource_0 rfl rfl ?_
  refine aw_iconst X dX10_isResource_1 ci_0 ?_
  refine aw_iconst X dX10_isResource_2 ci_3 ?_
  refine aw_callS X (kX10_within _ _ _ _ _ _ 0 3 rfl rfl) okm_X10_within ml_X10_50 st_X10_within rfl rfl (Nat.le_of_ble_eq_true rfl) ⟨Nat.le_of_ble_eq_true rfl, Nat.le_of_ble_eq_true rfl, Nat.le_of_ble_eq_true rfl, Nat.le_of_ble_eq_true rfl⟩ dX10_isResource_3 (fun v w2 hp => ?_)
  obtain ⟨rfl, rfl⟩ := hp
  refine RTN (some (.int _)) _ _ _ _ _ dX10_isResource_6 (bI_ok) (Nat.le_of_ble_eq_true rfl) (Nat.le_of_ble_eq_true rfl) ?_
  exact ⟨rfl, rfl⟩
set_option maxRecDepth 100000 in
set_option maxHeartbeats 4000000 in
theorem kX10_isUse (G : GG) (l : Launch) (w : WM) (x : Int32) : MC G l yX10_isUse cX10_isUse 1 ((Option.some .boolean)) ({ frames := 1, cells := 0, slots := 0, locals := 22 } : Room) [.int x] w (fun v w' => v = some (.int (bI (bt x 0 3 = true))) ∧ w' = w) := by
  refine mc_bool (by decide) (Nat.le_of_ble_eq_true rfl) rfl rfl ?_
  intro p e s m args below meth c A H0 Q X hnm RTN
  have X : Cx G p s m args meth c A H0 cX10_isUse 1 RX10 := X
  refine aw_iload_n X dX10_isUse_0 rfl rfl ?_
  refine aw_iconst X dX10_isUse_1 ci_0 ?_
  refine aw_iconst X dX10_isUse_2 ci_3 ?_
  refine aw_callS X (kX10_within _ _ _ _ _ _ 0 3 rfl rfl) okm_X10_within ml_X10_50 st_X10_within rfl rfl (Nat.le_of_ble_eq_true rfl) ⟨Nat.le_of_ble_eq_true rfl, Nat.le_of_ble_eq_true rfl, Nat.le_of_ble_eq_true rfl, Nat.le_of_ble_eq_true rfl⟩ dX10_isUse_3 (fun v w2 hp => ?_)
  obtain ⟨rfl, rfl⟩ := hp
  refine RTN (some (.int _)) _ _ _ _ _ dX10_isUse_6 (bI_ok) (Nat.le_of_ble_eq_true rfl) (Nat.le_of_ble_eq_true rfl) ?_
  exact ⟨rfl, rfl⟩
def cl_sgn (x : Int32) : Int32 := if bt (x &&& 2097151) 0 1114111 then x &&& 2097151 else 63
def cl_cd (c : Int32) : Int32 :=
  if bt c 97 122 ∨ (bt c 224 254 ∧ ¬ c = 247) then 32
  else if (bt c 945 969 ∧ ¬ c = 962) ∨ bt c 1072 1103 then 32
  else if bt c 1104 1119 then 80
  else if bt c 257 303 ∧ c - c / 2 * 2 = 1 then 1 else 0
def cl_upper (c : Int32) : Int32 := if bt c 0 1114111 then (if c = 255 then 376 else if c = 962 then 931 else c - cl_cd c) else -1
def cl_lower (c : Int32) : Int32 := if bt c 0 1114111 then (if c = 376 then 255 else if cl_cd (c + 32) = 32 then c + 32 else if cl_cd (c + 80) = 80 then c + 80 else if cl_cd (c + 1) = 1 then c + 1 else c) else -1
def fdv (x y : Int64) : Int64 := if 0 ≤ x ^^^ y then x / y else if x / y * y = x then x / y else x / y - 1
def fmd (x y : Int64) : Int64 := if 0 ≤ x ^^^ y then x - x / y * y else if x - x / y * y = 0 then x - x / y * y else (x - x / y * y) + y
def cl_fy (era : Int64) (y month : Int32) : Int32 := ((era * 400).toInt32 + y) + (if 2 < month then 0 else 1)
def cl_cal (days : Int64) (what : Int32) : Int32 :=
  let era := fdv (days + 719468) 146097
  let e := (fmd (days + 719468) 146097).toInt32
  let y := mo_dy e
  let of := mo_dof e y
  let m := mo_dm of
  if what = 1 then mo_month m else if what = 2 then (of - (((153 * m) + 2) / 5)) + 1
  else (if 0 ≤ cl_fy era y (mo_month m) then cl_fy era y (mo_month m) else cl_fy era y (mo_month m) - 10)
def cl_date (x : Int64) (what : Int32) : Int32 :=
  if bt what 0 6 then
    if x < (-100000000000000) ∨ ¬ x ≤ 100000000000000 then -3
    else if what = 3 then (fmd (fdv x 86400 + 4) 7).toInt32
    else if what = 4 then (fmd x 86400).toInt32 / 3600
    else if what = 5 then ((fmd x 86400).toInt32 / 60) - ((((fmd x 86400).toInt32 / 60) / 60) * 60)
    else if what = 6 then (fmd x 86400).toInt32 - (((fmd x 86400).toInt32 / 60) * 60)
    else cl_cal (fdv x 86400) what
  else -3
theorem sw_3_6 (x : Int32) : (x.toInt < 3 ∨ 6 < x.toInt) ∨ x = 3 ∨ x = 4 ∨ x = 5 ∨ x = 6 := by
  rcases Int.lt_or_le x.toInt 3 with h | h
  · exact Or.inl (Or.inl h)
  · rcases Int.lt_or_le 6 x.toInt with h2 | h2
    · exact Or.inl (Or.inr h2)
    · right
      simp only [i32_eq]
      have e3 : (3 : Int32).toInt = 3 := rfl
      have e4 : (4 : Int32).toInt = 4 := rfl
      have e5 : (5 : Int32).toInt = 5 := rfl
      have e6 : (6 : Int32).toInt = 6 := rfl
      omega
set_option maxRecDepth 100000 in
set_option maxHeartbeats 4000000 in
theorem kX10_signOf (G : GG) (l : Launch) (w : WM) (x : Int32) : MC G l yX10_signOf cX10_signOf 2 ((Option.some .int)) ({ frames := 2, cells := 0, slots := 0, locals := 42 } : Room) [.int x] w (fun v w' => v = some (.int (cl_sgn x)) ∧ w' = w) := by
  refine mc_int (by decide) (Nat.le_of_ble_eq_true rfl) rfl rfl ?_
  intro p e s m args below meth c A H0 Q X hnm RTN
  have X : Cx G p s m args meth c A H0 cX10_signOf 2 RX10 := X
  refine aw_iload_n X dX10_signOf_0 rfl rfl ?_
  refine aw_ldcw X kc_X10_379 dX10_signOf_1 ?_
  refine aw_iand X dX10_signOf_4 ?_
  refine aw_istore_n (lv' := [(1, _), (0, _)]) X dX10_signOf_5 rfl (by decide) rfl ?_
  refine aw_iload_n X dX10_signOf_6 rfl rfl ?_
  refine aw_callS X (kX10_isSign _ _ _ _) okm_X10_isSign ml_X10_237 st_X10_isSign rfl rfl (Nat.le_of_ble_eq_true rfl) ⟨Nat.le_of_ble_eq_true rfl, Nat.le_of_ble_eq_true rfl, Nat.le_of_ble_eq_true rfl, Nat.le_of_ble_eq_true rfl⟩ dX10_signOf_7 (fun v w2 hp => ?_)
  obtain ⟨rfl, rfl⟩ := hp
  refine aw_if_eq (tgt := 17) X dX10_signOf_10 rfl (fun c10 => ?_) (fun c10 => ?_)
  · rw [bI_0] at c10
    refine aw_bipush X dX10_signOf_17 cb_63 ?_
    refine RTN (some (.int _)) _ _ _ _ _ dX10_signOf_19 (⟨_, rfl⟩) (Nat.le_of_ble_eq_true rfl) (Nat.le_of_ble_eq_true rfl) ?_
    first | (constructor <;> ((try simp only [cl_sgn, c10, if_true, if_false, not_true_eq_false, not_false_eq_true, and_self, true_and, and_true, false_and, and_false, or_true, true_or, or_false, false_or, reduceCtorEq, ne_eq, va_us, pk_us]); (try with_reducible rfl); done)) | (clear RTN X; constructor <;> ((try simp_all only [cl_sgn, if_true, if_false, not_true_eq_false, not_false_eq_true, and_self, true_and, and_true, false_and, and_false, or_true, true_or, or_false, false_or, reduceCtorEq, ne_eq, va_us, pk_us]); (try with_reducible rfl); done)) | (constructor <;> ((try simp only [cl_sgn, c10, if_true, if_false, not_true_eq_false, not_false_eq_true, and_self, true_and, and_true, false_and, and_false, or_true, true_or, or_false, false_or, reduceCtorEq, ne_eq, va_us, pk_us]); (try rfl); done))
  · rw [bI_n0] at c10
    refine aw_iload_n X dX10_signOf_13 rfl rfl ?_
    refine aw_goto (tgt := 19) X dX10_signOf_14 rfl ?_
    refine RTN (some (.int _)) _ _ _ _ _ dX10_signOf_19 (⟨_, rfl⟩) (Nat.le_of_ble_eq_true rfl) (Nat.le_of_ble_eq_true rfl) ?_
    first | (constructor <;> ((try simp only [cl_sgn, c10, if_true, if_false, not_true_eq_false, not_false_eq_true, and_self, true_and, and_true, false_and, and_false, or_true, true_or, or_false, false_or, reduceCtorEq, ne_eq, va_us, pk_us]); (try with_reducible rfl); done)) | (clear RTN X; constructor <;> ((try simp_all only [cl_sgn, if_true, if_false, not_true_eq_false, not_false_eq_true, and_self, true_and, and_true, false_and, and_false, or_true, true_or, or_false, false_or, reduceCtorEq, ne_eq, va_us, pk_us]); (try with_reducible rfl); done)) | (constructor <;> ((try simp only [cl_sgn, c10, if_true, if_false, not_true_eq_false, not_false_eq_true, and_self, true_and, and_true, false_and, and_false, or_true, true_or, or_false, false_or, reduceCtorEq, ne_eq, va_us, pk_us]); (try rfl); done))
set_option maxRecDepth 100000 in
set_option maxHeartbeats 4000000 in
theorem kX10_isFault (G : GG) (l : Launch) (w : WM) (x : Int32) : MC G l yX10_isFault cX10_isFault 1 ((Option.some .boolean)) ({ frames := 0, cells := 0, slots := 0, locals := 0 } : Room) [.int x] w (fun v w' => v = some (.int (bI (x < (-10)))) ∧ w' = w) := by
  refine mc_bool (by decide) (Nat.le_of_ble_eq_true rfl) rfl rfl ?_
  intro p e s m args below meth c A H0 Q X hnm RTN
  have X : Cx G p s m args meth c A H0 cX10_isFault 1 RX10 := X
  refine aw_iload_n X dX10_isFault_0 rfl rfl ?_
  refine aw_bipush X dX10_isFault_1 cb_m10 ?_
  refine aw_icmp_ge (tgt := 10) X dX10_isFault_3 rfl (fun c3 => ?_) (fun c3 => ?_)
  · refine aw_iconst X dX10_isFault_10 ci_0 ?_
    refine RTN (some (.int _)) _ _ _ _ _ dX10_isFault_11 (by first | exact Or.inl rfl | exact Or.inr rfl) (Nat.le_of_ble_eq_true rfl) (Nat.le_of_ble_eq_true rfl) ?_
    exact ⟨by rw [bI_f]; exact Int32.not_lt.mpr c3, rfl⟩
  · refine aw_iconst X dX10_isFault_6 ci_1 ?_
    refine aw_goto (tgt := 11) X dX10_isFault_7 rfl ?_
    refine RTN (some (.int _)) _ _ _ _ _ dX10_isFault_11 (by first | exact Or.inl rfl | exact Or.inr rfl) (Nat.le_of_ble_eq_true rfl) (Nat.le_of_ble_eq_true rfl) ?_
    exact ⟨by rw [bI_t]; exact Int32.not_le.mp c3, rfl⟩
set_option maxRecDepth 100000 in
set_option maxHeartbeats 4000000 in
theorem kX10_caseDistance (G : GG) (l : Launch) (w : WM) (x : Int32) : MC G l yX10_caseDistance cX10_caseDistance 1 ((Option.some .int)) ({ frames := 1, cells := 0, slots := 0, locals := 22 } : Room) [.int x] w (fun v w' => v = some (.int (cl_cd x)) ∧ w' = w) := by
  refine mc_int (by decide) (Nat.le_of_ble_eq_true rfl) rfl rfl ?_
  intro p e s m args below meth c A H0 Q X hnm RTN
  have X : Cx G p s m args meth c A H0 cX10_caseDistance 1 RX10 := X
  refine aw_iload_n X dX10_caseDistance_0 rfl rfl ?_
  refine aw_bipush X dX10_caseDistance_1 cb_97 ?_
  refine aw_bipush X dX10_caseDistance_3 cb_122 ?_
  refine aw_callS X (kX10_within _ _ _ _ _ _ 97 122 rfl rfl) okm_X10_within ml_X10_50 st_X10_within rfl rfl (Nat.le_of_ble_eq_true rfl) ⟨Nat.le_of_ble_eq_true rfl, Nat.le_of_ble_eq_true rfl, Nat.le_of_ble_eq_true rfl, Nat.le_of_ble_eq_true rfl⟩ dX10_caseDistance_5 (fun v w2 hp => ?_)
  obtain ⟨rfl, rfl⟩ := hp
  refine aw_if_ne (tgt := 31) X dX10_caseDistance_8 rfl (fun c8 => ?_) (fun c8 => ?_)
  · rw [bI_n0] at c8
    refine aw_bipush X dX10_caseDistance_31 cb_32 ?_
    refine RTN (some (.int _)) _ _ _ _ _ dX10_caseDistance_33 (⟨_, rfl⟩) (Nat.le_of_ble_eq_true rfl) (Nat.le_of_ble_eq_true rfl) ?_
    first | (constructor <;> ((try simp only [cl_cd, c8, if_true, if_false, not_true_eq_false, not_false_eq_true, and_self, true_and, and_true, false_and, and_false, or_true, true_or, or_false, false_or, reduceCtorEq, ne_eq, va_us, pk_us]); (try with_reducible rfl); done)) | (clear RTN X; constructor <;> ((try simp_all only [cl_cd, if_true, if_false, not_true_eq_false, not_false_eq_true, and_self, true_and, and_true, false_and, and_false, or_true, true_or, or_false, false_or, reduceCtorEq, ne_eq, va_us, pk_us]); (try with_reducible rfl); done)) | (constructor <;> ((try simp only [cl_cd, c8, if_true, if_false, not_true_eq_false, not_false_eq_true, and_self, true_and, and_true, false_and, and_false, or_true, true_or, or_false, false_or, reduceCtorEq, ne_eq, va_us, pk_us]); (try rfl); done))
  · rw [bI_0] at c8
    refine aw_iload_n X dX10_caseDistance_11 rfl rfl ?_
    refine aw_sipush X dX10_caseDistance_12 cs_224 ?_
    refine aw_sipush X dX10_caseDistance_15 cs_254 ?_
    refine aw_callS X (kX10_within _ _ _ _ _ _ 224 254 rfl rfl) okm_X10_within ml_X10_50 st_X10_within rfl rfl (Nat.le_of_ble_eq_true rfl) ⟨Nat.le_of_ble_eq_true rfl, Nat.le_of_ble_eq_true rfl, Nat.le_of_ble_eq_true rfl, Nat.le_of_ble_eq_true rfl⟩ dX10_caseDistance_18 (fun v w2 hp => ?_)
    obtain ⟨rfl, rfl⟩ := hp
    refine aw_if_eq (tgt := 34) X dX10_caseDistance_21 rfl (fun c21 => ?_) (fun c21 => ?_)
    · rw [bI_0] at c21
      refine aw_iload_n X dX10_caseDistance_34 rfl rfl ?_
      refine aw_sipush X dX10_caseDistance_35 cs_945 ?_
      refine aw_sipush X dX10_caseDistance_38 cs_969 ?_
      refine aw_callS X (kX10_within _ _ _ _ _ _ 945 969 rfl rfl) okm_X10_within ml_X10_50 st_X10_within rfl rfl (Nat.le_of_ble_eq_true rfl) ⟨Nat.le_of_ble_eq_true rfl, Nat.le_of_ble_eq_true rfl, Nat.le_of_ble_eq_true rfl, Nat.le_of_ble_eq_true rfl⟩ dX10_caseDistance_41 (fun v w2 hp => ?_)
      obtain ⟨rfl, rfl⟩ := hp
      refine aw_if_eq (tgt := 54) X dX10_caseDistance_44 rfl (fun c44 => ?_) (fun c44 => ?_)
      · rw [bI_0] at c44
        refine aw_iload_n X dX10_caseDistance_54 rfl rfl ?_
        refine aw_sipush X dX10_caseDistance_55 cs_1072 ?_
        refine aw_sipush X dX10_caseDistance_58 cs_1103 ?_
        refine aw_callS X (kX10_within _ _ _ _ _ _ 1072 1103 rfl rfl) okm_X10_within ml_X10_50 st_X10_within rfl rfl (Nat.le_of_ble_eq_true rfl) ⟨Nat.le_of_ble_eq_true rfl, Nat.le_of_ble_eq_true rfl, Nat.le_of_ble_eq_true rfl, Nat.le_of_ble_eq_true rfl⟩ dX10_caseDistance_61 (fun v w2 hp => ?_)
        obtain ⟨rfl, rfl⟩ := hp
        refine aw_if_eq (tgt := 70) X dX10_caseDistance_64 rfl (fun c64 => ?_) (fun c64 => ?_)
        · rw [bI_0] at c64
          refine aw_iload_n X dX10_caseDistance_70 rfl rfl ?_
          refine aw_sipush X dX10_caseDistance_71 cs_1104 ?_
          refine aw_sipush X dX10_caseDistance_74 cs_1119 ?_
          refine aw_callS X (kX10_within _ _ _ _ _ _ 1104 1119 rfl rfl) okm_X10_within ml_X10_50 st_X10_within rfl rfl (Nat.le_of_ble_eq_true rfl) ⟨Nat.le_of_ble_eq_true rfl, Nat.le_of_ble_eq_true rfl, Nat.le_of_ble_eq_true rfl, Nat.le_of_ble_eq_true rfl⟩ dX10_caseDistance_77 (fun v w2 hp => ?_)
          obtain ⟨rfl, rfl⟩ := hp
          refine aw_if_eq (tgt := 86) X dX10_caseDistance_80 rfl (fun c80 => ?_) (fun c80 => ?_)
          · rw [bI_0] at c80
            refine aw_iload_n X dX10_caseDistance_86 rfl rfl ?_
            refine aw_sipush X dX10_caseDistance_87 cs_257 ?_
            refine aw_sipush X dX10_caseDistance_90 cs_303 ?_
            refine aw_callS X (kX10_within _ _ _ _ _ _ 257 303 rfl rfl) okm_X10_within ml_X10_50 st_X10_within rfl rfl (Nat.le_of_ble_eq_true rfl) ⟨Nat.le_of_ble_eq_true rfl, Nat.le_of_ble_eq_true rfl, Nat.le_of_ble_eq_true rfl, Nat.le_of_ble_eq_true rfl⟩ dX10_caseDistance_93 (fun v w2 hp => ?_)
            obtain ⟨rfl, rfl⟩ := hp
            refine aw_if_eq (tgt := 110) X dX10_caseDistance_96 rfl (fun c96 => ?_) (fun c96 => ?_)
            · rw [bI_0] at c96
              refine aw_iconst X dX10_caseDistance_110 ci_0 ?_
              refine RTN (some (.int _)) _ _ _ _ _ dX10_caseDistance_111 (⟨_, rfl⟩) (Nat.le_of_ble_eq_true rfl) (Nat.le_of_ble_eq_true rfl) ?_
              first | (constructor <;> ((try simp only [cl_cd, c8, c21, c44, c64, c80, c96, if_true, if_false, not_true_eq_false, not_false_eq_true, and_self, true_and, and_true, false_and, and_false, or_true, true_or, or_false, false_or, reduceCtorEq, ne_eq, va_us, pk_us]); (try with_reducible rfl); done)) | (clear RTN X; constructor <;> ((try simp_all only [cl_cd, if_true, if_false, not_true_eq_false, not_false_eq_true, and_self, true_and, and_true, false_and, and_false, or_true, true_or, or_false, false_or, reduceCtorEq, ne_eq, va_us, pk_us]); (try with_reducible rfl); done)) | (constructor <;> ((try simp only [cl_cd, c8, c21, c44, c64, c80, c96, if_true, if_false, not_true_eq_false, not_false_eq_true, and_self, true_and, and_true, false_and, and_false, or_true, true_or, or_false, false_or, reduceCtorEq, ne_eq, va_us, pk_us]); (try rfl); done))
            · rw [bI_n0] at c96
              refine aw_iload_n X dX10_caseDistance_99 rfl rfl ?_
              refine aw_iconst X dX10_caseDistance_100 ci_2 ?_
              refine aw_irem X dX10_caseDistance_101 (by decide) ?_
              refine aw_iconst X dX10_caseDistance_102 ci_1 ?_
              refine aw_icmp_ne (tgt := 110) X dX10_caseDistance_103 rfl (fun c103 => ?_) (fun c103 => ?_)
              · refine aw_iconst X dX10_caseDistance_110 ci_0 ?_
                refine RTN (some (.int _)) _ _ _ _ _ dX10_caseDistance_111 (⟨_, rfl⟩) (Nat.le_of_ble_eq_true rfl) (Nat.le_of_ble_eq_true rfl) ?_
                first | (constructor <;> ((try simp only [cl_cd, c8, c21, c44, c64, c80, c96, c103, if_true, if_false, not_true_eq_false, not_false_eq_true, and_self, true_and, and_true, false_and, and_false, or_true, true_or, or_false, false_or, reduceCtorEq, ne_eq, va_us, pk_us]); (try with_reducible rfl); done)) | (clear RTN X; constructor <;> ((try simp_all only [cl_cd, if_true, if_false, not_true_eq_false, not_false_eq_true, and_self, true_and, and_true, false_and, and_false, or_true, true_or, or_false, false_or, reduceCtorEq, ne_eq, va_us, pk_us]); (try with_reducible rfl); done)) | (constructor <;> ((try simp only [cl_cd, c8, c21, c44, c64, c80, c96, c103, if_true, if_false, not_true_eq_false, not_false_eq_true, and_self, true_and, and_true, false_and, and_false, or_true, true_or, or_false, false_or, reduceCtorEq, ne_eq, va_us, pk_us]); (try rfl); done))
              · refine aw_iconst X dX10_caseDistance_106 ci_1 ?_
                refine aw_goto (tgt := 111) X dX10_caseDistance_107 rfl ?_
                refine RTN (some (.int _)) _ _ _ _ _ dX10_caseDistance_111 (⟨_, rfl⟩) (Nat.le_of_ble_eq_true rfl) (Nat.le_of_ble_eq_true rfl) ?_
                first | (constructor <;> ((try simp only [cl_cd, c8, c21, c44, c64, c80, c96, (eq_true c103), if_true, if_false, not_true_eq_false, not_false_eq_true, and_self, true_and, and_true, false_and, and_false, or_true, true_or, or_false, false_or, reduceCtorEq, ne_eq, va_us, pk_us]); (try with_reducible rfl); done)) | (clear RTN X; constructor <;> ((try simp_all only [cl_cd, if_true, if_false, not_true_eq_false, not_false_eq_true, and_self, true_and, and_true, false_and, and_false, or_true, true_or, or_false, false_or, reduceCtorEq, ne_eq, va_us, pk_us]); (try with_reducible rfl); done)) | (constructor <;> ((try simp only [cl_cd, c8, c21, c44, c64, c80, c96, (eq_true c103), if_true, if_false, not_true_eq_false, not_false_eq_true, and_self, true_and, and_true, false_and, and_false, or_true, true_or, or_false, false_or, reduceCtorEq, ne_eq, va_us, pk_us]); (try rfl); done))
          · rw [bI_n0] at c80
            refine aw_bipush X dX10_caseDistance_83 cb_80 ?_
            refine RTN (some (.int _)) _ _ _ _ _ dX10_caseDistance_85 (⟨_, rfl⟩) (Nat.le_of_ble_eq_true rfl) (Nat.le_of_ble_eq_true rfl) ?_
            first | (constructor <;> ((try simp only [cl_cd, c8, c21, c44, c64, c80, if_true, if_false, not_true_eq_false, not_false_eq_true, and_self, true_and, and_true, false_and, and_false, or_true, true_or, or_false, false_or, reduceCtorEq, ne_eq, va_us, pk_us]); (try with_reducible rfl); done)) | (clear RTN X; constructor <;> ((try simp_all only [cl_cd, if_true, if_false, not_true_eq_false, not_false_eq_true, and_self, true_and, and_true, false_and, and_false, or_true, true_or, or_false, false_or, reduceCtorEq, ne_eq, va_us, pk_us]); (try with_reducible rfl); done)) | (constructor <;> ((try simp only [cl_cd, c8, c21, c44, c64, c80, if_true, if_false, not_true_eq_false, not_false_eq_true, and_self, true_and, and_true, false_and, and_false, or_true, true_or, or_false, false_or, reduceCtorEq, ne_eq, va_us, pk_us]); (try rfl); done))
        · rw [bI_n0] at c64
          refine aw_bipush X dX10_caseDistance_67 cb_32 ?_
          refine RTN (some (.int _)) _ _ _ _ _ dX10_caseDistance_69 (⟨_, rfl⟩) (Nat.le_of_ble_eq_true rfl) (Nat.le_of_ble_eq_true rfl) ?_
          first | (constructor <;> ((try simp only [cl_cd, c8, c21, c44, c64, if_true, if_false, not_true_eq_false, not_false_eq_true, and_self, true_and, and_true, false_and, and_false, or_true, true_or, or_false, false_or, reduceCtorEq, ne_eq, va_us, pk_us]); (try with_reducible rfl); done)) | (clear RTN X; constructor <;> ((try simp_all only [cl_cd, if_true, if_false, not_true_eq_false, not_false_eq_true, and_self, true_and, and_true, false_and, and_false, or_true, true_or, or_false, false_or, reduceCtorEq, ne_eq, va_us, pk_us]); (try with_reducible rfl); done)) | (constructor <;> ((try simp only [cl_cd, c8, c21, c44, c64, if_true, if_false, not_true_eq_false, not_false_eq_true, and_self, true_and, and_true, false_and, and_false, or_true, true_or, or_false, false_or, reduceCtorEq, ne_eq, va_us, pk_us]); (try rfl); done))
      · rw [bI_n0] at c44
        refine aw_iload_n X dX10_caseDistance_47 rfl rfl ?_
        refine aw_sipush X dX10_caseDistance_48 cs_962 ?_
        refine aw_icmp_ne (tgt := 67) X dX10_caseDistance_51 rfl (fun c51 => ?_) (fun c51 => ?_)
        · refine aw_bipush X dX10_caseDistance_67 cb_32 ?_
          refine RTN (some (.int _)) _ _ _ _ _ dX10_caseDistance_69 (⟨_, rfl⟩) (Nat.le_of_ble_eq_true rfl) (Nat.le_of_ble_eq_true rfl) ?_
          first | (constructor <;> ((try simp only [cl_cd, c8, c21, c44, c51, if_true, if_false, not_true_eq_false, not_false_eq_true, and_self, true_and, and_true, false_and, and_false, or_true, true_or, or_false, false_or, reduceCtorEq, ne_eq, va_us, pk_us]); (try with_reducible rfl); done)) | (clear RTN X; constructor <;> ((try simp_all only [cl_cd, if_true, if_false, not_true_eq_false, not_false_eq_true, and_self, true_and, and_true, false_and, and_false, or_true, true_or, or_false, false_or, reduceCtorEq, ne_eq, va_us, pk_us]); (try with_reducible rfl); done)) | (constructor <;> ((try simp only [cl_cd, c8, c21, c44, c51, if_true, if_false, not_true_eq_false, not_false_eq_true, and_self, true_and, and_true, false_and, and_false, or_true, true_or, or_false, false_or, reduceCtorEq, ne_eq, va_us, pk_us]); (try rfl); done))
        · refine aw_iload_n X dX10_caseDistance_54 rfl rfl ?_
          refine aw_sipush X dX10_caseDistance_55 cs_1072 ?_
          refine aw_sipush X dX10_caseDistance_58 cs_1103 ?_
          refine aw_callS X (kX10_within _ _ _ _ _ _ 1072 1103 rfl rfl) okm_X10_within ml_X10_50 st_X10_within rfl rfl (Nat.le_of_ble_eq_true rfl) ⟨Nat.le_of_ble_eq_true rfl, Nat.le_of_ble_eq_true rfl, Nat.le_of_ble_eq_true rfl, Nat.le_of_ble_eq_true rfl⟩ dX10_caseDistance_61 (fun v w2 hp => ?_)
          obtain ⟨rfl, rfl⟩ := hp
          refine aw_if_eq (tgt := 70) X dX10_caseDistance_64 rfl (fun c64 => ?_) (fun c64 => ?_)
          · rw [bI_0] at c64
            refine aw_iload_n X dX10_caseDistance_70 rfl rfl ?_
            refine aw_sipush X dX10_caseDistance_71 cs_1104 ?_
            refine aw_sipush X dX10_caseDistance_74 cs_1119 ?_
            refine aw_callS X (kX10_within _ _ _ _ _ _ 1104 1119 rfl rfl) okm_X10_within ml_X10_50 st_X10_within rfl rfl (Nat.le_of_ble_eq_true rfl) ⟨Nat.le_of_ble_eq_true rfl, Nat.le_of_ble_eq_true rfl, Nat.le_of_ble_eq_true rfl, Nat.le_of_ble_eq_true rfl⟩ dX10_caseDistance_77 (fun v w2 hp => ?_)
            obtain ⟨rfl, rfl⟩ := hp
            refine aw_if_eq (tgt := 86) X dX10_caseDistance_80 rfl (fun c80 => ?_) (fun c80 => ?_)
            · rw [bI_0] at c80
              refine aw_iload_n X dX10_caseDistance_86 rfl rfl ?_
              refine aw_sipush X dX10_caseDistance_87 cs_257 ?_
              refine aw_sipush X dX10_caseDistance_90 cs_303 ?_
              refine aw_callS X (kX10_within _ _ _ _ _ _ 257 303 rfl rfl) okm_X10_within ml_X10_50 st_X10_within rfl rfl (Nat.le_of_ble_eq_true rfl) ⟨Nat.le_of_ble_eq_true rfl, Nat.le_of_ble_eq_true rfl, Nat.le_of_ble_eq_true rfl, Nat.le_of_ble_eq_true rfl⟩ dX10_caseDistance_93 (fun v w2 hp => ?_)
              obtain ⟨rfl, rfl⟩ := hp
              refine aw_if_eq (tgt := 110) X dX10_caseDistance_96 rfl (fun c96 => ?_) (fun c96 => ?_)
              · rw [bI_0] at c96
                refine aw_iconst X dX10_caseDistance_110 ci_0 ?_
                refine RTN (some (.int _)) _ _ _ _ _ dX10_caseDistance_111 (⟨_, rfl⟩) (Nat.le_of_ble_eq_true rfl) (Nat.le_of_ble_eq_true rfl) ?_
                first | (constructor <;> ((try simp only [cl_cd, c8, c21, c44, (eq_true c51), c64, c80, c96, if_true, if_false, not_true_eq_false, not_false_eq_true, and_self, true_and, and_true, false_and, and_false, or_true, true_or, or_false, false_or, reduceCtorEq, ne_eq, va_us, pk_us]); (try with_reducible rfl); done)) | (clear RTN X; constructor <;> ((try simp_all only [cl_cd, if_true, if_false, not_true_eq_false, not_false_eq_true, and_self, true_and, and_true, false_and, and_false, or_true, true_or, or_false, false_or, reduceCtorEq, ne_eq, va_us, pk_us]); (try with_reducible rfl); done)) | (constructor <;> ((try simp only [cl_cd, c8, c21, c44, (eq_true c51), c64, c80, c96, if_true, if_false, not_true_eq_false, not_false_eq_true, and_self, true_and, and_true, false_and, and_false, or_true, true_or, or_false, false_or, reduceCtorEq, ne_eq, va_us, pk_us]); (try rfl); done))
              · rw [bI_n0] at c96
                refine aw_iload_n X dX10_caseDistance_99 rfl rfl ?_
                refine aw_iconst X dX10_caseDistance_100 ci_2 ?_
                refine aw_irem X dX10_caseDistance_101 (by decide) ?_
                refine aw_iconst X dX10_caseDistance_102 ci_1 ?_
                refine aw_icmp_ne (tgt := 110) X dX10_caseDistance_103 rfl (fun c103 => ?_) (fun c103 => ?_)
                · refine aw_iconst X dX10_caseDistance_110 ci_0 ?_
                  refine RTN (some (.int _)) _ _ _ _ _ dX10_caseDistance_111 (⟨_, rfl⟩) (Nat.le_of_ble_eq_true rfl) (Nat.le_of_ble_eq_true rfl) ?_
                  first | (constructor <;> ((try simp only [cl_cd, c8, c21, c44, (eq_true c51), c64, c80, c96, c103, if_true, if_false, not_true_eq_false, not_false_eq_true, and_self, true_and, and_true, false_and, and_false, or_true, true_or, or_false, false_or, reduceCtorEq, ne_eq, va_us, pk_us]); (try with_reducible rfl); done)) | (clear RTN X; constructor <;> ((try simp_all only [cl_cd, if_true, if_false, not_true_eq_false, not_false_eq_true, and_self, true_and, and_true, false_and, and_false, or_true, true_or, or_false, false_or, reduceCtorEq, ne_eq, va_us, pk_us]); (try with_reducible rfl); done)) | (constructor <;> ((try simp only [cl_cd, c8, c21, c44, (eq_true c51), c64, c80, c96, c103, if_true, if_false, not_true_eq_false, not_false_eq_true, and_self, true_and, and_true, false_and, and_false, or_true, true_or, or_false, false_or, reduceCtorEq, ne_eq, va_us, pk_us]); (try rfl); done))
                · refine aw_iconst X dX10_caseDistance_106 ci_1 ?_
                  refine aw_goto (tgt := 111) X dX10_caseDistance_107 rfl ?_
                  refine RTN (some (.int _)) _ _ _ _ _ dX10_caseDistance_111 (⟨_, rfl⟩) (Nat.le_of_ble_eq_true rfl) (Nat.le_of_ble_eq_true rfl) ?_
                  first | (constructor <;> ((try simp only [cl_cd, c8, c21, c44, (eq_true c51), c64, c80, c96, (eq_true c103), if_true, if_false, not_true_eq_false, not_false_eq_true, and_self, true_and, and_true, false_and, and_false, or_true, true_or, or_false, false_or, reduceCtorEq, ne_eq, va_us, pk_us]); (try with_reducible rfl); done)) | (clear RTN X; constructor <;> ((try simp_all only [cl_cd, if_true, if_false, not_true_eq_false, not_false_eq_true, and_self, true_and, and_true, false_and, and_false, or_true, true_or, or_false, false_or, reduceCtorEq, ne_eq, va_us, pk_us]); (try with_reducible rfl); done)) | (constructor <;> ((try simp only [cl_cd, c8, c21, c44, (eq_true c51), c64, c80, c96, (eq_true c103), if_true, if_false, not_true_eq_false, not_false_eq_true, and_self, true_and, and_true, false_and, and_false, or_true, true_or, or_false, false_or, reduceCtorEq, ne_eq, va_us, pk_us]); (try rfl); done))
            · rw [bI_n0] at c80
              refine aw_bipush X dX10_caseDistance_83 cb_80 ?_
              refine RTN (some (.int _)) _ _ _ _ _ dX10_caseDistance_85 (⟨_, rfl⟩) (Nat.le_of_ble_eq_true rfl) (Nat.le_of_ble_eq_true rfl) ?_
              first | (constructor <;> ((try simp only [cl_cd, c8, c21, c44, (eq_true c51), c64, c80, if_true, if_false, not_true_eq_false, not_false_eq_true, and_self, true_and, and_true, false_and, and_false, or_true, true_or, or_false, false_or, reduceCtorEq, ne_eq, va_us, pk_us]); (try with_reducible rfl); done)) | (clear RTN X; constructor <;> ((try simp_all only [cl_cd, if_true, if_false, not_true_eq_false, not_false_eq_true, and_self, true_and, and_true, false_and, and_false, or_true, true_or, or_false, false_or, reduceCtorEq, ne_eq, va_us, pk_us]); (try with_reducible rfl); done)) | (constructor <;> ((try simp only [cl_cd, c8, c21, c44, (eq_true c51), c64, c80, if_true, if_false, not_true_eq_false, not_false_eq_true, and_self, true_and, and_true, false_and, and_false, or_true, true_or, or_false, false_or, reduceCtorEq, ne_eq, va_us, pk_us]); (try rfl); done))
          · rw [bI_n0] at c64
            refine aw_bipush X dX10_caseDistance_67 cb_32 ?_
            refine RTN (some (.int _)) _ _ _ _ _ dX10_caseDistance_69 (⟨_, rfl⟩) (Nat.le_of_ble_eq_true rfl) (Nat.le_of_ble_eq_true rfl) ?_
            first | (constructor <;> ((try simp only [cl_cd, c8, c21, c44, (eq_true c51), c64, if_true, if_false, not_true_eq_false, not_false_eq_true, and_self, true_and, and_true, false_and, and_false, or_true, true_or, or_false, false_or, reduceCtorEq, ne_eq, va_us, pk_us]); (try with_reducible rfl); done)) | (clear RTN X; constructor <;> ((try simp_all only [cl_cd, if_true, if_false, not_true_eq_false, not_false_eq_true, and_self, true_and, and_true, false_and, and_false, or_true, true_or, or_false, false_or, reduceCtorEq, ne_eq, va_us, pk_us]); (try with_reducible rfl); done)) | (constructor <;> ((try simp only [cl_cd, c8, c21, c44, (eq_true c51), c64, if_true, if_false, not_true_eq_false, not_false_eq_true, and_self, true_and, and_true, false_and, and_false, or_true, true_or, or_false, false_or, reduceCtorEq, ne_eq, va_us, pk_us]); (try rfl); done))
    · rw [bI_n0] at c21
      refine aw_iload_n X dX10_caseDistance_24 rfl rfl ?_
      refine aw_sipush X dX10_caseDistance_25 cs_247 ?_
      refine aw_icmp_eq (tgt := 34) X dX10_caseDistance_28 rfl (fun c28 => ?_) (fun c28 => ?_)
      · refine aw_iload_n X dX10_caseDistance_34 rfl rfl ?_
        refine aw_sipush X dX10_caseDistance_35 cs_945 ?_
        refine aw_sipush X dX10_caseDistance_38 cs_969 ?_
        refine aw_callS X (kX10_within _ _ _ _ _ _ 945 969 rfl rfl) okm_X10_within ml_X10_50 st_X10_within rfl rfl (Nat.le_of_ble_eq_true rfl) ⟨Nat.le_of_ble_eq_true rfl, Nat.le_of_ble_eq_true rfl, Nat.le_of_ble_eq_true rfl, Nat.le_of_ble_eq_true rfl⟩ dX10_caseDistance_41 (fun v w2 hp => ?_)
        obtain ⟨rfl, rfl⟩ := hp
        refine aw_if_eq (tgt := 54) X dX10_caseDistance_44 rfl (fun c44 => ?_) (fun c44 => ?_)
        · rw [bI_0] at c44
          refine aw_iload_n X dX10_caseDistance_54 rfl rfl ?_
          refine aw_sipush X dX10_caseDistance_55 cs_1072 ?_
          refine aw_sipush X dX10_caseDistance_58 cs_1103 ?_
          refine aw_callS X (kX10_within _ _ _ _ _ _ 1072 1103 rfl rfl) okm_X10_within ml_X10_50 st_X10_within rfl rfl (Nat.le_of_ble_eq_true rfl) ⟨Nat.le_of_ble_eq_true rfl, Nat.le_of_ble_eq_true rfl, Nat.le_of_ble_eq_true rfl, Nat.le_of_ble_eq_true rfl⟩ dX10_caseDistance_61 (fun v w2 hp => ?_)
          obtain ⟨rfl, rfl⟩ := hp
          refine aw_if_eq (tgt := 70) X dX10_caseDistance_64 rfl (fun c64 => ?_) (fun c64 => ?_)
          · rw [bI_0] at c64
            refine aw_iload_n X dX10_caseDistance_70 rfl rfl ?_
            refine aw_sipush X dX10_caseDistance_71 cs_1104 ?_
            refine aw_sipush X dX10_caseDistance_74 cs_1119 ?_
            refine aw_callS X (kX10_within _ _ _ _ _ _ 1104 1119 rfl rfl) okm_X10_within ml_X10_50 st_X10_within rfl rfl (Nat.le_of_ble_eq_true rfl) ⟨Nat.le_of_ble_eq_true rfl, Nat.le_of_ble_eq_true rfl, Nat.le_of_ble_eq_true rfl, Nat.le_of_ble_eq_true rfl⟩ dX10_caseDistance_77 (fun v w2 hp => ?_)
            obtain ⟨rfl, rfl⟩ := hp
            refine aw_if_eq (tgt := 86) X dX10_caseDistance_80 rfl (fun c80 => ?_) (fun c80 => ?_)
            · rw [bI_0] at c80
              refine aw_iload_n X dX10_caseDistance_86 rfl rfl ?_
              refine aw_sipush X dX10_caseDistance_87 cs_257 ?_
              refine aw_sipush X dX10_caseDistance_90 cs_303 ?_
              refine aw_callS X (kX10_within _ _ _ _ _ _ 257 303 rfl rfl) okm_X10_within ml_X10_50 st_X10_within rfl rfl (Nat.le_of_ble_eq_true rfl) ⟨Nat.le_of_ble_eq_true rfl, Nat.le_of_ble_eq_true rfl, Nat.le_of_ble_eq_true rfl, Nat.le_of_ble_eq_true rfl⟩ dX10_caseDistance_93 (fun v w2 hp => ?_)
              obtain ⟨rfl, rfl⟩ := hp
              refine aw_if_eq (tgt := 110) X dX10_caseDistance_96 rfl (fun c96 => ?_) (fun c96 => ?_)
              · rw [bI_0] at c96
                refine aw_iconst X dX10_caseDistance_110 ci_0 ?_
                refine RTN (some (.int _)) _ _ _ _ _ dX10_caseDistance_111 (⟨_, rfl⟩) (Nat.le_of_ble_eq_true rfl) (Nat.le_of_ble_eq_true rfl) ?_
                first | (constructor <;> ((try simp only [cl_cd, c8, c21, (eq_true c28), c44, c64, c80, c96, if_true, if_false, not_true_eq_false, not_false_eq_true, and_self, true_and, and_true, false_and, and_false, or_true, true_or, or_false, false_or, reduceCtorEq, ne_eq, va_us, pk_us]); (try with_reducible rfl); done)) | (clear RTN X; constructor <;> ((try simp_all only [cl_cd, if_true, if_false, not_true_eq_false, not_false_eq_true, and_self, true_and, and_true, false_and, and_false, or_true, true_or, or_false, false_or, reduceCtorEq, ne_eq, va_us, pk_us]); (try with_reducible rfl); done)) | (constructor <;> ((try simp only [cl_cd, c8, c21, (eq_true c28), c44, c64, c80, c96, if_true, if_false, not_true_eq_false, not_false_eq_true, and_self, true_and, and_true, false_and, and_false, or_true, true_or, or_false, false_or, reduceCtorEq, ne_eq, va_us, pk_us]); (try rfl); done))
              · rw [bI_n0] at c96
                refine aw_iload_n X dX10_caseDistance_99 rfl rfl ?_
                refine aw_iconst X dX10_caseDistance_100 ci_2 ?_
                refine aw_irem X dX10_caseDistance_101 (by decide) ?_
                refine aw_iconst X dX10_caseDistance_102 ci_1 ?_
                refine aw_icmp_ne (tgt := 110) X dX10_caseDistance_103 rfl (fun c103 => ?_) (fun c103 => ?_)
                · refine aw_iconst X dX10_caseDistance_110 ci_0 ?_
                  refine RTN (some (.int _)) _ _ _ _ _ dX10_caseDistance_111 (⟨_, rfl⟩) (Nat.le_of_ble_eq_true rfl) (Nat.le_of_ble_eq_true rfl) ?_
                  first | (constructor <;> ((try simp only [cl_cd, c8, c21, (eq_true c28), c44, c64, c80, c96, c103, if_true, if_false, not_true_eq_false, not_false_eq_true, and_self, true_and, and_true, false_and, and_false, or_true, true_or, or_false, false_or, reduceCtorEq, ne_eq, va_us, pk_us]); (try with_reducible rfl); done)) | (clear RTN X; constructor <;> ((try simp_all only [cl_cd, if_true, if_false, not_true_eq_false, not_false_eq_true, and_self, true_and, and_true, false_and, and_false, or_true, true_or, or_false, false_or, reduceCtorEq, ne_eq, va_us, pk_us]); (try with_reducible rfl); done)) | (constructor <;> ((try simp only [cl_cd, c8, c21, (eq_true c28), c44, c64, c80, c96, c103, if_true, if_false, not_true_eq_false, not_false_eq_true, and_self, true_and, and_true, false_and, and_false, or_true, true_or, or_false, false_or, reduceCtorEq, ne_eq, va_us, pk_us]); (try rfl); done))
                · refine aw_iconst X dX10_caseDistance_106 ci_1 ?_
                  refine aw_goto (tgt := 111) X dX10_caseDistance_107 rfl ?_
                  refine RTN (some (.int _)) _ _ _ _ _ dX10_caseDistance_111 (⟨_, rfl⟩) (Nat.le_of_ble_eq_true rfl) (Nat.le_of_ble_eq_true rfl) ?_
                  first | (constructor <;> ((try simp only [cl_cd, c8, c21, (eq_true c28), c44, c64, c80, c96, (eq_true c103), if_true, if_false, not_true_eq_false, not_false_eq_true, and_self, true_and, and_true, false_and, and_false, or_true, true_or, or_false, false_or, reduceCtorEq, ne_eq, va_us, pk_us]); (try with_reducible rfl); done)) | (clear RTN X; constructor <;> ((try simp_all only [cl_cd, if_true, if_false, not_true_eq_false, not_false_eq_true, and_self, true_and, and_true, false_and, and_false, or_true, true_or, or_false, false_or, reduceCtorEq, ne_eq, va_us, pk_us]); (try with_reducible rfl); done)) | (constructor <;> ((try simp only [cl_cd, c8, c21, (eq_true c28), c44, c64, c80, c96, (eq_true c103), if_true, if_false, not_true_eq_false, not_false_eq_true, and_self, true_and, and_true, false_and, and_false, or_true, true_or, or_false, false_or, reduceCtorEq, ne_eq, va_us, pk_us]); (try rfl); done))
            · rw [bI_n0] at c80
              refine aw_bipush X dX10_caseDistance_83 cb_80 ?_
              refine RTN (some (.int _)) _ _ _ _ _ dX10_caseDistance_85 (⟨_, rfl⟩) (Nat.le_of_ble_eq_true rfl) (Nat.le_of_ble_eq_true rfl) ?_
              first | (constructor <;> ((try simp only [cl_cd, c8, c21, (eq_true c28), c44, c64, c80, if_true, if_false, not_true_eq_false, not_false_eq_true, and_self, true_and, and_true, false_and, and_false, or_true, true_or, or_false, false_or, reduceCtorEq, ne_eq, va_us, pk_us]); (try with_reducible rfl); done)) | (clear RTN X; constructor <;> ((try simp_all only [cl_cd, if_true, if_false, not_true_eq_false, not_false_eq_true, and_self, true_and, and_true, false_and, and_false, or_true, true_or, or_false, false_or, reduceCtorEq, ne_eq, va_us, pk_us]); (try with_reducible rfl); done)) | (constructor <;> ((try simp only [cl_cd, c8, c21, (eq_true c28), c44, c64, c80, if_true, if_false, not_true_eq_false, not_false_eq_true, and_self, true_and, and_true, false_and, and_false, or_true, true_or, or_false, false_or, reduceCtorEq, ne_eq, va_us, pk_us]); (try rfl); done))
          · rw [bI_n0] at c64
            refine aw_bipush X dX10_caseDistance_67 cb_32 ?_
            refine RTN (some (.int _)) _ _ _ _ _ dX10_caseDistance_69 (⟨_, rfl⟩) (Nat.le_of_ble_eq_true rfl) (Nat.le_of_ble_eq_true rfl) ?_
            first | (constructor <;> ((try simp only [cl_cd, c8, c21, (eq_true c28), c44, c64, if_true, if_false, not_true_eq_false, not_false_eq_true, and_self, true_and, and_true, false_and, and_false, or_true, true_or, or_false, false_or, reduceCtorEq, ne_eq, va_us, pk_us]); (try with_reducible rfl); done)) | (clear RTN X; constructor <;> ((try simp_all only [cl_cd, if_true, if_false, not_true_eq_false, not_false_eq_true, and_self, true_and, and_true, false_and, and_false, or_true, true_or, or_false, false_or, reduceCtorEq, ne_eq, va_us, pk_us]); (try with_reducible rfl); done)) | (constructor <;> ((try simp only [cl_cd, c8, c21, (eq_true c28), c44, c64, if_true, if_false, not_true_eq_false, not_false_eq_true, and_self, true_and, and_true, false_and, and_false, or_true, true_or, or_false, false_or, reduceCtorEq, ne_eq, va_us, pk_us]); (try rfl); done))
        · rw [bI_n0] at c44
          refine aw_iload_n X dX10_caseDistance_47 rfl rfl ?_
          refine aw_sipush X dX10_caseDistance_48 cs_962 ?_
          refine aw_icmp_ne (tgt := 67) X dX10_caseDistance_51 rfl (fun c51 => ?_) (fun c51 => ?_)
          · refine aw_bipush X dX10_caseDistance_67 cb_32 ?_
            refine RTN (some (.int _)) _ _ _ _ _ dX10_caseDistance_69 (⟨_, rfl⟩) (Nat.le_of_ble_eq_true rfl) (Nat.le_of_ble_eq_true rfl) ?_
            first | (constructor <;> ((try simp only [cl_cd, c8, c21, (eq_true c28), c44, c51, if_true, if_false, not_true_eq_false, not_false_eq_true, and_self, true_and, and_true, false_and, and_false, or_true, true_or, or_false, false_or, reduceCtorEq, ne_eq, va_us, pk_us]); (try with_reducible rfl); done)) | (clear RTN X; constructor <;> ((try simp_all only [cl_cd, if_true, if_false, not_true_eq_false, not_false_eq_true, and_self, true_and, and_true, false_and, and_false, or_true, true_or, or_false, false_or, reduceCtorEq, ne_eq, va_us, pk_us]); (try with_reducible rfl); done)) | (constructor <;> ((try simp only [cl_cd, c8, c21, (eq_true c28), c44, c51, if_true, if_false, not_true_eq_false, not_false_eq_true, and_self, true_and, and_true, false_and, and_false, or_true, true_or, or_false, false_or, reduceCtorEq, ne_eq, va_us, pk_us]); (try rfl); done))
          · refine aw_iload_n X dX10_caseDistance_54 rfl rfl ?_
            refine aw_sipush X dX10_caseDistance_55 cs_1072 ?_
            refine aw_sipush X dX10_caseDistance_58 cs_1103 ?_
            refine aw_callS X (kX10_within _ _ _ _ _ _ 1072 1103 rfl rfl) okm_X10_within ml_X10_50 st_X10_within rfl rfl (Nat.le_of_ble_eq_true rfl) ⟨Nat.le_of_ble_eq_true rfl, Nat.le_of_ble_eq_true rfl, Nat.le_of_ble_eq_true rfl, Nat.le_of_ble_eq_true rfl⟩ dX10_caseDistance_61 (fun v w2 hp => ?_)
            obtain ⟨rfl, rfl⟩ := hp
            refine aw_if_eq (tgt := 70) X dX10_caseDistance_64 rfl (fun c64 => ?_) (fun c64 => ?_)
            · rw [bI_0] at c64
              refine aw_iload_n X dX10_caseDistance_70 rfl rfl ?_
              refine aw_sipush X dX10_caseDistance_71 cs_1104 ?_
              refine aw_sipush X dX10_caseDistance_74 cs_1119 ?_
              refine aw_callS X (kX10_within _ _ _ _ _ _ 1104 1119 rfl rfl) okm_X10_within ml_X10_50 st_X10_within rfl rfl (Nat.le_of_ble_eq_true rfl) ⟨Nat.le_of_ble_eq_true rfl, Nat.le_of_ble_eq_true rfl, Nat.le_of_ble_eq_true rfl, Nat.le_of_ble_eq_true rfl⟩ dX10_caseDistance_77 (fun v w2 hp => ?_)
              obtain ⟨rfl, rfl⟩ := hp
              refine aw_if_eq (tgt := 86) X dX10_caseDistance_80 rfl (fun c80 => ?_) (fun c80 => ?_)
              · rw [bI_0] at c80
                refine aw_iload_n X dX10_caseDistance_86 rfl rfl ?_
                refine aw_sipush X dX10_caseDistance_87 cs_257 ?_
                refine aw_sipush X dX10_caseDistance_90 cs_303 ?_
                refine aw_callS X (kX10_within _ _ _ _ _ _ 257 303 rfl rfl) okm_X10_within ml_X10_50 st_X10_within rfl rfl (Nat.le_of_ble_eq_true rfl) ⟨Nat.le_of_ble_eq_true rfl, Nat.le_of_ble_eq_true rfl, Nat.le_of_ble_eq_true rfl, Nat.le_of_ble_eq_true rfl⟩ dX10_caseDistance_93 (fun v w2 hp => ?_)
                obtain ⟨rfl, rfl⟩ := hp
                refine aw_if_eq (tgt := 110) X dX10_caseDistance_96 rfl (fun c96 => ?_) (fun c96 => ?_)
                · rw [bI_0] at c96
                  refine aw_iconst X dX10_caseDistance_110 ci_0 ?_
                  refine RTN (some (.int _)) _ _ _ _ _ dX10_caseDistance_111 (⟨_, rfl⟩) (Nat.le_of_ble_eq_true rfl) (Nat.le_of_ble_eq_true rfl) ?_
                  first | (constructor <;> ((try simp only [cl_cd, c8, c21, (eq_true c28), c44, (eq_true c51), c64, c80, c96, if_true, if_false, not_true_eq_false, not_false_eq_true, and_self, true_and, and_true, false_and, and_false, or_true, true_or, or_false, false_or, reduceCtorEq, ne_eq, va_us, pk_us]); (try with_reducible rfl); done)) | (clear RTN X; constructor <;> ((try simp_all only [cl_cd, if_true, if_false, not_true_eq_false, not_false_eq_true, and_self, true_and, and_true, false_and, and_false, or_true, true_or, or_false, false_or, reduceCtorEq, ne_eq, va_us, pk_us]); (try with_reducible rfl); done)) | (constructor <;> ((try simp only [cl_cd, c8, c21, (eq_true c28), c44, (eq_true c51), c64, c80, c96, if_true, if_false, not_true_eq_false, not_false_eq_true, and_self, true_and, and_true, false_and, and_false, or_true, true_or, or_false, false_or, reduceCtorEq, ne_eq, va_us, pk_us]); (try rfl); done))
                · rw [bI_n0] at c96
                  refine aw_iload_n X dX10_caseDistance_99 rfl rfl ?_
                  refine aw_iconst X dX10_caseDistance_100 ci_2 ?_
                  refine aw_irem X dX10_caseDistance_101 (by decide) ?_
                  refine aw_iconst X dX10_caseDistance_102 ci_1 ?_
                  refine aw_icmp_ne (tgt := 110) X dX10_caseDistance_103 rfl (fun c103 => ?_) (fun c103 => ?_)
                  · refine aw_iconst X dX10_caseDistance_110 ci_0 ?_
                    refine RTN (some (.int _)) _ _ _ _ _ dX10_caseDistance_111 (⟨_, rfl⟩) (Nat.le_of_ble_eq_true rfl) (Nat.le_of_ble_eq_true rfl) ?_
                    first | (constructor <;> ((try simp only [cl_cd, c8, c21, (eq_true c28), c44, (eq_true c51), c64, c80, c96, c103, if_true, if_false, not_true_eq_false, not_false_eq_true, and_self, true_and, and_true, false_and, and_false, or_true, true_or, or_false, false_or, reduceCtorEq, ne_eq, va_us, pk_us]); (try with_reducible rfl); done)) | (clear RTN X; constructor <;> ((try simp_all only [cl_cd, if_true, if_false, not_true_eq_false, not_false_eq_true, and_self, true_and, and_true, false_and, and_false, or_true, true_or, or_false, false_or, reduceCtorEq, ne_eq, va_us, pk_us]); (try with_reducible rfl); done)) | (constructor <;> ((try simp only [cl_cd, c8, c21, (eq_true c28), c44, (eq_true c51), c64, c80, c96, c103, if_true, if_false, not_true_eq_false, not_false_eq_true, and_self, true_and, and_true, false_and, and_false, or_true, true_or, or_false, false_or, reduceCtorEq, ne_eq, va_us, pk_us]); (try rfl); done))
                  · refine aw_iconst X dX10_caseDistance_106 ci_1 ?_
                    refine aw_goto (tgt := 111) X dX10_caseDistance_107 rfl ?_
                    refine RTN (some (.int _)) _ _ _ _ _ dX10_caseDistance_111 (⟨_, rfl⟩) (Nat.le_of_ble_eq_true rfl) (Nat.le_of_ble_eq_true rfl) ?_
                    first | (constructor <;> ((try simp only [cl_cd, c8, c21, (eq_true c28), c44, (eq_true c51), c64, c80, c96, (eq_true c103), if_true, if_false, not_true_eq_false, not_false_eq_true, and_self, true_and, and_true, false_and, and_false, or_true, true_or, or_false, false_or, reduceCtorEq, ne_eq, va_us, pk_us]); (try with_reducible rfl); done)) | (clear RTN X; constructor <;> ((try simp_all only [cl_cd, if_true, if_false, not_true_eq_false, not_false_eq_true, and_self, true_and, and_true, false_and, and_false, or_true, true_or, or_false, false_or, reduceCtorEq, ne_eq, va_us, pk_us]); (try with_reducible rfl); done)) | (constructor <;> ((try simp only [cl_cd, c8, c21, (eq_true c28), c44, (eq_true c51), c64, c80, c96, (eq_true c103), if_true, if_false, not_true_eq_false, not_false_eq_true, and_self, true_and, and_true, false_and, and_false, or_true, true_or, or_false, false_or, reduceCtorEq, ne_eq, va_us, pk_us]); (try rfl); done))
              · rw [bI_n0] at c80
                refine aw_bipush X dX10_caseDistance_83 cb_80 ?_
                refine RTN (some (.int _)) _ _ _ _ _ dX10_caseDistance_85 (⟨_, rfl⟩) (Nat.le_of_ble_eq_true rfl) (Nat.le_of_ble_eq_true rfl) ?_
                first | (constructor <;> ((try simp only [cl_cd, c8, c21, (eq_true c28), c44, (eq_true c51), c64, c80, if_true, if_false, not_true_eq_false, not_false_eq_true, and_self, true_and, and_true, false_and, and_false, or_true, true_or, or_false, false_or, reduceCtorEq, ne_eq, va_us, pk_us]); (try with_reducible rfl); done)) | (clear RTN X; constructor <;> ((try simp_all only [cl_cd, if_true, if_false, not_true_eq_false, not_false_eq_true, and_self, true_and, and_true, false_and, and_false, or_true, true_or, or_false, false_or, reduceCtorEq, ne_eq, va_us, pk_us]); (try with_reducible rfl); done)) | (constructor <;> ((try simp only [cl_cd, c8, c21, (eq_true c28), c44, (eq_true c51), c64, c80, if_true, if_false, not_true_eq_false, not_false_eq_true, and_self, true_and, and_true, false_and, and_false, or_true, true_or, or_false, false_or, reduceCtorEq, ne_eq, va_us, pk_us]); (try rfl); done))
            · rw [bI_n0] at c64
              refine aw_bipush X dX10_caseDistance_67 cb_32 ?_
              refine RTN (some (.int _)) _ _ _ _ _ dX10_caseDistance_69 (⟨_, rfl⟩) (Nat.le_of_ble_eq_true rfl) (Nat.le_of_ble_eq_true rfl) ?_
              first | (constructor <;> ((try simp only [cl_cd, c8, c21, (eq_true c28), c44, (eq_true c51), c64, if_true, if_false, not_true_eq_false, not_false_eq_true, and_self, true_and, and_true, false_and, and_false, or_true, true_or, or_false, false_or, reduceCtorEq, ne_eq, va_us, pk_us]); (try with_reducible rfl); done)) | (clear RTN X; constructor <;> ((try simp_all only [cl_cd, if_true, if_false, not_true_eq_false, not_false_eq_true, and_self, true_and, and_true, false_and, and_false, or_true, true_or, or_false, false_or, reduceCtorEq, ne_eq, va_us, pk_us]); (try with_reducible rfl); done)) | (constructor <;> ((try simp only [cl_cd, c8, c21, (eq_true c28), c44, (eq_true c51), c64, if_true, if_false, not_true_eq_false, not_false_eq_true, and_self, true_and, and_true, false_and, and_false, or_true, true_or, or_false, false_or, reduceCtorEq, ne_eq, va_us, pk_us]); (try rfl); done))
      · refine aw_bipush X dX10_caseDistance_31 cb_32 ?_
        refine RTN (some (.int _)) _ _ _ _ _ dX10_caseDistance_33 (⟨_, rfl⟩) (Nat.le_of_ble_eq_true rfl) (Nat.le_of_ble_eq_true rfl) ?_
        first | (constructor <;> ((try simp only [cl_cd, c8, c21, c28, if_true, if_false, not_true_eq_false, not_false_eq_true, and_self, true_and, and_true, false_and, and_false, or_true, true_or, or_false, false_or, reduceCtorEq, ne_eq, va_us, pk_us]); (try with_reducible rfl); done)) | (clear RTN X; constructor <;> ((try simp_all only [cl_cd, if_true, if_false, not_true_eq_false, not_false_eq_true, and_self, true_and, and_true, false_and, and_false, or_true, true_or, or_false, false_or, reduceCtorEq, ne_eq, va_us, pk_us]); (try with_reducible rfl); done)) | (constructor <;> ((try simp only [cl_cd, c8, c21, c28, if_true, if_false, not_true_eq_false, not_false_eq_true, and_self, true_and, and_true, false_and, and_false, or_true, true_or, or_false, false_or, reduceCtorEq, ne_eq, va_us, pk_us]); (try rfl); done))
set_option maxRecDepth 100000 in
set_option maxHeartbeats 4000000 in
theorem kX10_upper (G : GG) (l : Launch) (w : WM) (o : Nat) (x : Int32) : MC G l yX10_upper cX10_upper 2 ((Option.some .int)) ({ frames := 2, cells := 0, slots := 0, locals := 42 } : Room) [.ref o, .int x] w (fun v w' => v = some (.int (cl_upper x)) ∧ w' = w) := by
  refine mc_int (by decide) (Nat.le_of_ble_eq_true rfl) rfl rfl ?_
  intro p e s m args below meth c A H0 Q X hnm RTN
  have X : Cx G p s m args meth c A H0 cX10_upper 2 RX10 := X
  refine aw_iload_n X dX10_upper_0 rfl rfl ?_
  refine aw_callS X (kX10_isSign _ _ _ _) okm_X10_isSign ml_X10_237 st_X10_isSign rfl rfl (Nat.le_of_ble_eq_true rfl) ⟨Nat.le_of_ble_eq_true rfl, Nat.le_of_ble_eq_true rfl, Nat.le_of_ble_eq_true rfl, Nat.le_of_ble_eq_true rfl⟩ dX10_upper_1 (fun v w2 hp => ?_)
  obtain ⟨rfl, rfl⟩ := hp
  refine aw_if_ne (tgt := 9) X dX10_upper_4 rfl (fun c4 => ?_) (fun c4 => ?_)
  · rw [bI_n0] at c4
    refine aw_iload_n X dX10_upper_9 rfl rfl ?_
    refine aw_sipush X dX10_upper_10 cs_255 ?_
    refine aw_icmp_ne (tgt := 20) X dX10_upper_13 rfl (fun c13 => ?_) (fun c13 => ?_)
    · refine aw_iload_n X dX10_upper_20 rfl rfl ?_
      refine aw_sipush X dX10_upper_21 cs_962 ?_
      refine aw_icmp_ne (tgt := 31) X dX10_upper_24 rfl (fun c24 => ?_) (fun c24 => ?_)
      · refine aw_iload_n X dX10_upper_31 rfl rfl ?_
        refine aw_iload_n X dX10_upper_32 rfl rfl ?_
        refine aw_callS X (kX10_caseDistance _ _ _ _) okm_X10_caseDistance ml_X10_318 st_X10_caseDistance rfl rfl (Nat.le_of_ble_eq_true rfl) ⟨Nat.le_of_ble_eq_true rfl, Nat.le_of_ble_eq_true rfl, Nat.le_of_ble_eq_true rfl, Nat.le_of_ble_eq_true rfl⟩ dX10_upper_33 (fun v w2 hp => ?_)
        obtain ⟨rfl, rfl⟩ := hp
        refine aw_isub X dX10_upper_36 ?_
        refine RTN (some (.int _)) _ _ _ _ _ dX10_upper_37 (⟨_, rfl⟩) (Nat.le_of_ble_eq_true rfl) (Nat.le_of_ble_eq_true rfl) ?_
        first | (constructor <;> ((try simp only [cl_upper, c4, c13, c24, if_true, if_false, not_true_eq_false, not_false_eq_true, and_self, true_and, and_true, false_and, and_false, or_true, true_or, or_false, false_or, reduceCtorEq, ne_eq, va_us, pk_us]); (try with_reducible rfl); done)) | (clear RTN X; constructor <;> ((try simp_all only [cl_upper, if_true, if_false, not_true_eq_false, not_false_eq_true, and_self, true_and, and_true, false_and, and_false, or_true, true_or, or_false, false_or, reduceCtorEq, ne_eq, va_us, pk_us]); (try with_reducible rfl); done)) | (constructor <;> ((try simp only [cl_upper, c4, c13, c24, if_true, if_false, not_true_eq_false, not_false_eq_true, and_self, true_and, and_true, false_and, and_false, or_true, true_or, or_false, false_or, reduceCtorEq, ne_eq, va_us, pk_us]); (try rfl); done))
      · refine aw_sipush X dX10_upper_27 cs_931 ?_
        refine RTN (some (.int _)) _ _ _ _ _ dX10_upper_30 (⟨_, rfl⟩) (Nat.le_of_ble_eq_true rfl) (Nat.le_of_ble_eq_true rfl) ?_
        first | (constructor <;> ((try simp only [cl_upper, c4, c13, (eq_true c24), if_true, if_false, not_true_eq_false, not_false_eq_true, and_self, true_and, and_true, false_and, and_false, or_true, true_or, or_false, false_or, reduceCtorEq, ne_eq, va_us, pk_us]); (try with_reducible rfl); done)) | (clear RTN X; constructor <;> ((try simp_all only [cl_upper, if_true, if_false, not_true_eq_false, not_false_eq_true, and_self, true_and, and_true, false_and, and_false, or_true, true_or, or_false, false_or, reduceCtorEq, ne_eq, va_us, pk_us]); (try with_reducible rfl); done)) | (constructor <;> ((try simp only [cl_upper, c4, c13, (eq_true c24), if_true, if_false, not_true_eq_false, not_false_eq_true, and_self, true_and, and_true, false_and, and_false, or_true, true_or, or_false, false_or, reduceCtorEq, ne_eq, va_us, pk_us]); (try rfl); done))
    · refine aw_sipush X dX10_upper_16 cs_376 ?_
      refine RTN (some (.int _)) _ _ _ _ _ dX10_upper_19 (⟨_, rfl⟩) (Nat.le_of_ble_eq_true rfl) (Nat.le_of_ble_eq_true rfl) ?_
      first | (constructor <;> ((try simp only [cl_upper, c4, (eq_true c13), if_true, if_false, not_true_eq_false, not_false_eq_true, and_self, true_and, and_true, false_and, and_false, or_true, true_or, or_false, false_or, reduceCtorEq, ne_eq, va_us, pk_us]); (try with_reducible rfl); done)) | (clear RTN X; constructor <;> ((try simp_all only [cl_upper, if_true, if_false, not_true_eq_false, not_false_eq_true, and_self, true_and, and_true, false_and, and_false, or_true, true_or, or_false, false_or, reduceCtorEq, ne_eq, va_us, pk_us]); (try with_reducible rfl); done)) | (constructor <;> ((try simp only [cl_upper, c4, (eq_true c13), if_true, if_false, not_true_eq_false, not_false_eq_true, and_self, true_and, and_true, false_and, and_false, or_true, true_or, or_false, false_or, reduceCtorEq, ne_eq, va_us, pk_us]); (try rfl); done))
  · rw [bI_0] at c4
    refine aw_iconst X dX10_upper_7 ci_m1 ?_
    refine RTN (some (.int _)) _ _ _ _ _ dX10_upper_8 (⟨_, rfl⟩) (Nat.le_of_ble_eq_true rfl) (Nat.le_of_ble_eq_true rfl) ?_
    first | (constructor <;> ((try simp only [cl_upper, c4, if_true, if_false, not_true_eq_false, not_false_eq_true, and_self, true_and, and_true, false_and, and_false, or_true, true_or, or_false, false_or, reduceCtorEq, ne_eq, va_us, pk_us]); (try with_reducible rfl); done)) | (clear RTN X; constructor <;> ((try simp_all only [cl_upper, if_true, if_false, not_true_eq_false, not_false_eq_true, and_self, true_and, and_true, false_and, and_false, or_true, true_or, or_false, false_or, reduceCtorEq, ne_eq, va_us, pk_us]); (try with_reducible rfl); done)) | (constructor <;> ((try simp only [cl_upper, c4, if_true, if_false, not_true_eq_false, not_false_eq_true, and_self, true_and, and_true, false_and, and_false, or_true, true_or, or_false, false_or, reduceCtorEq, ne_eq, va_us, pk_us]); (try rfl); done))
set_option maxRecDepth 100000 in
set_option maxHeartbeats 4000000 in
theorem kX10_lower (G : GG) (l : Launch) (w : WM) (o : Nat) (x : Int32) : MC G l yX10_lower cX10_lower 2 ((Option.some .int)) ({ frames := 2, cells := 0, slots := 0, locals := 42 } : Room) [.ref o, .int x] w (fun v w' => v = some (.int (cl_lower x)) ∧ w' = w) := by
  refine mc_int (by decide) (Nat.le_of_ble_eq_true rfl) rfl rfl ?_
  intro p e s m args below meth c A H0 Q X hnm RTN
  have X : Cx G p s m args meth c A H0 cX10_lower 2 RX10 := X
  refine aw_iload_n X dX10_lower_0 rfl rfl ?_
  refine aw_callS X (kX10_isSign _ _ _ _) okm_X10_isSign ml_X10_237 st_X10_isSign rfl rfl (Nat.le_of_ble_eq_true rfl) ⟨Nat.le_of_ble_eq_true rfl, Nat.le_of_ble_eq_true rfl, Nat.le_of_ble_eq_true rfl, Nat.le_of_ble_eq_true rfl⟩ dX10_lower_1 (fun v w2 hp => ?_)
  obtain ⟨rfl, rfl⟩ := hp
  refine aw_if_ne (tgt := 9) X dX10_lower_4 rfl (fun c4 => ?_) (fun c4 => ?_)
  · rw [bI_n0] at c4
    refine aw_iload_n X dX10_lower_9 rfl rfl ?_
    refine aw_sipush X dX10_lower_10 cs_376 ?_
    refine aw_icmp_ne (tgt := 20) X dX10_lower_13 rfl (fun c13 => ?_) (fun c13 => ?_)
    · refine aw_iload_n X dX10_lower_20 rfl rfl ?_
      refine aw_bipush X dX10_lower_21 cb_32 ?_
      refine aw_iadd X dX10_lower_23 ?_
      refine aw_callS X (kX10_caseDistance _ _ _ _) okm_X10_caseDistance ml_X10_318 st_X10_caseDistance rfl rfl (Nat.le_of_ble_eq_true rfl) ⟨Nat.le_of_ble_eq_true rfl, Nat.le_of_ble_eq_true rfl, Nat.le_of_ble_eq_true rfl, Nat.le_of_ble_eq_true rfl⟩ dX10_lower_24 (fun v w2 hp => ?_)
      obtain ⟨rfl, rfl⟩ := hp
      refine aw_bipush X dX10_lower_27 cb_32 ?_
      refine aw_icmp_ne (tgt := 37) X dX10_lower_29 rfl (fun c29 => ?_) (fun c29 => ?_)
      · refine aw_iload_n X dX10_lower_37 rfl rfl ?_
        refine aw_bipush X dX10_lower_38 cb_80 ?_
        refine aw_iadd X dX10_lower_40 ?_
        refine aw_callS X (kX10_caseDistance _ _ _ _) okm_X10_caseDistance ml_X10_318 st_X10_caseDistance rfl rfl (Nat.le_of_ble_eq_true rfl) ⟨Nat.le_of_ble_eq_true rfl, Nat.le_of_ble_eq_true rfl, Nat.le_of_ble_eq_true rfl, Nat.le_of_ble_eq_true rfl⟩ dX10_lower_41 (fun v w2 hp => ?_)
        obtain ⟨rfl, rfl⟩ := hp
        refine aw_bipush X dX10_lower_44 cb_80 ?_
        refine aw_icmp_ne (tgt := 54) X dX10_lower_46 rfl (fun c46 => ?_) (fun c46 => ?_)
        · refine aw_iload_n X dX10_lower_54 rfl rfl ?_
          refine aw_iconst X dX10_lower_55 ci_1 ?_
          refine aw_iadd X dX10_lower_56 ?_
          refine aw_callS X (kX10_caseDistance _ _ _ _) okm_X10_caseDistance ml_X10_318 st_X10_caseDistance rfl rfl (Nat.le_of_ble_eq_true rfl) ⟨Nat.le_of_ble_eq_true rfl, Nat.le_of_ble_eq_true rfl, Nat.le_of_ble_eq_true rfl, Nat.le_of_ble_eq_true rfl⟩ dX10_lower_57 (fun v w2 hp => ?_)
          obtain ⟨rfl, rfl⟩ := hp
          refine aw_iconst X dX10_lower_60 ci_1 ?_
          refine aw_icmp_ne (tgt := 70) X dX10_lower_61 rfl (fun c61 => ?_) (fun c61 => ?_)
          · refine aw_iload_n X dX10_lower_70 rfl rfl ?_
            refine RTN (some (.int _)) _ _ _ _ _ dX10_lower_71 (⟨_, rfl⟩) (Nat.le_of_ble_eq_true rfl) (Nat.le_of_ble_eq_true rfl) ?_
            first | (constructor <;> ((try simp only [cl_lower, c4, c13, c29, c46, c61, if_true, if_false, not_true_eq_false, not_false_eq_true, and_self, true_and, and_true, false_and, and_false, or_true, true_or, or_false, false_or, reduceCtorEq, ne_eq, va_us, pk_us]); (try with_reducible rfl); done)) | (clear RTN X; constructor <;> ((try simp_all only [cl_lower, if_true, if_false, not_true_eq_false, not_false_eq_true, and_self, true_and, and_true, false_and, and_false, or_true, true_or, or_false, false_or, reduceCtorEq, ne_eq, va_us, pk_us]); (try with_reducible rfl); done)) | (constructor <;> ((try simp only [cl_lower, c4, c13, c29, c46, c61, if_true, if_false, not_true_eq_false, not_false_eq_true, and_self, true_and, and_true, false_and, and_false, or_true, true_or, or_false, false_or, reduceCtorEq, ne_eq, va_us, pk_us]); (try rfl); done))
          · refine aw_iload_n X dX10_lower_64 rfl rfl ?_
            refine aw_iconst X dX10_lower_65 ci_1 ?_
            refine aw_iadd X dX10_lower_66 ?_
            refine aw_goto (tgt := 71) X dX10_lower_67 rfl ?_
            refine RTN (some (.int _)) _ _ _ _ _ dX10_lower_71 (⟨_, rfl⟩) (Nat.le_of_ble_eq_true rfl) (Nat.le_of_ble_eq_true rfl) ?_
            first | (constructor <;> ((try simp only [cl_lower, c4, c13, c29, c46, (eq_true c61), if_true, if_false, not_true_eq_false, not_false_eq_true, and_self, true_and, and_true, false_and, and_false, or_true, true_or, or_false, false_or, reduceCtorEq, ne_eq, va_us, pk_us]); (try with_reducible rfl); done)) | (clear RTN X; constructor <;> ((try simp_all only [cl_lower, if_true, if_false, not_true_eq_false, not_false_eq_true, and_self, true_and, and_true, false_and, and_false, or_true, true_or, or_false, false_or, reduceCtorEq, ne_eq, va_us, pk_us]); (try with_reducible rfl); done)) | (constructor <;> ((try simp only [cl_lower, c4, c13, c29, c46, (eq_true c61), if_true, if_false, not_true_eq_false, not_false_eq_true, and_self, true_and, and_true, false_and, and_false, or_true, true_or, or_false, false_or, reduceCtorEq, ne_eq, va_us, pk_us]); (try rfl); done))
        · refine aw_iload_n X dX10_lower_49 rfl rfl ?_
          refine aw_bipush X dX10_lower_50 cb_80 ?_
          refine aw_iadd X dX10_lower_52 ?_
          refine RTN (some (.int _)) _ _ _ _ _ dX10_lower_53 (⟨_, rfl⟩) (Nat.le_of_ble_eq_true rfl) (Nat.le_of_ble_eq_true rfl) ?_
          first | (constructor <;> ((try simp only [cl_lower, c4, c13, c29, (eq_true c46), if_true, if_false, not_true_eq_false, not_false_eq_true, and_self, true_and, and_true, false_and, and_false, or_true, true_or, or_false, false_or, reduceCtorEq, ne_eq, va_us, pk_us]); (try with_reducible rfl); done)) | (clear RTN X; constructor <;> ((try simp_all only [cl_lower, if_true, if_false, not_true_eq_false, not_false_eq_true, and_self, true_and, and_true, false_and, and_false, or_true, true_or, or_false, false_or, reduceCtorEq, ne_eq, va_us, pk_us]); (try with_reducible rfl); done)) | (constructor <;> ((try simp only [cl_lower, c4, c13, c29, (eq_true c46), if_true, if_false, not_true_eq_false, not_false_eq_true, and_self, true_and, and_true, false_and, and_false, or_true, true_or, or_false, false_or, reduceCtorEq, ne_eq, va_us, pk_us]); (try rfl); done))
      · refine aw_iload_n X dX10_lower_32 rfl rfl ?_
        refine aw_bipush X dX10_lower_33 cb_32 ?_
        refine aw_iadd X dX10_lower_35 ?_
        refine RTN (some (.int _)) _ _ _ _ _ dX10_lower_36 (⟨_, rfl⟩) (Nat.le_of_ble_eq_true rfl) (Nat.le_of_ble_eq_true rfl) ?_
        first | (constructor <;> ((try simp only [cl_lower, c4, c13, (eq_true c29), if_true, if_false, not_true_eq_false, not_false_eq_true, and_self, true_and, and_true, false_and, and_false, or_true, true_or, or_false, false_or, reduceCtorEq, ne_eq, va_us, pk_us]); (try with_reducible rfl); done)) | (clear RTN X; constructor <;> ((try simp_all only [cl_lower, if_true, if_false, not_true_eq_false, not_false_eq_true, and_self, true_and, and_true, false_and, and_false, or_true, true_or, or_false, false_or, reduceCtorEq, ne_eq, va_us, pk_us]); (try with_reducible rfl); done)) | (constructor <;> ((try simp only [cl_lower, c4, c13, (eq_true c29), if_true, if_false, not_true_eq_false, not_false_eq_true, and_self, true_and, and_true, false_and, and_false, or_true, true_or, or_false, false_or, reduceCtorEq, ne_eq, va_us, pk_us]); (try rfl); done))
    · refine aw_sipush X dX10_lower_16 cs_255 ?_
      refine RTN (some (.int _)) _ _ _ _ _ dX10_lower_19 (⟨_, rfl⟩) (Nat.le_of_ble_eq_true rfl) (Nat.le_of_ble_eq_true rfl) ?_
      first | (constructor <;> ((try simp only [cl_lower, c4, (eq_true c13), if_true, if_false, not_true_eq_false, not_false_eq_true, and_self, true_and, and_true, false_and, and_false, or_true, true_or, or_false, false_or, reduceCtorEq, ne_eq, va_us, pk_us]); (try with_reducible rfl); done)) | (clear RTN X; constructor <;> ((try simp_all only [cl_lower, if_true, if_false, not_true_eq_false, not_false_eq_true, and_self, true_and, and_true, false_and, and_false, or_true, true_or, or_false, false_or, reduceCtorEq, ne_eq, va_us, pk_us]); (try with_reducible rfl); done)) | (constructor <;> ((try simp only [cl_lower, c4, (eq_true c13), if_true, if_false, not_true_eq_false, not_false_eq_true, and_self, true_and, and_true, false_and, and_false, or_true, true_or, or_false, false_or, reduceCtorEq, ne_eq, va_us, pk_us]); (try rfl); done))
  · rw [bI_0] at c4
    refine aw_iconst X dX10_lower_7 ci_m1 ?_
    refine RTN (some (.int _)) _ _ _ _ _ dX10_lower_8 (⟨_, rfl⟩) (Nat.le_of_ble_eq_true rfl) (Nat.le_of_ble_eq_true rfl) ?_
    first | (constructor <;> ((try simp only [cl_lower, c4, if_true, if_false, not_true_eq_false, not_false_eq_true, and_self, true_and, and_true, false_and, and_false, or_true, true_or, or_false, false_or, reduceCtorEq, ne_eq, va_us, pk_us]); (try with_reducible rfl); done)) | (clear RTN X; constructor <;> ((try simp_all only [cl_lower, if_true, if_false, not_true_eq_false, not_false_eq_true, and_self, true_and, and_true, false_and, and_false, or_true, true_or, or_false, false_or, reduceCtorEq, ne_eq, va_us, pk_us]); (try with_reducible rfl); done)) | (constructor <;> ((try simp only [cl_lower, c4, if_true, if_false, not_true_eq_false, not_false_eq_true, and_self, true_and, and_true, false_and, and_false, or_true, true_or, or_false, false_or, reduceCtorEq, ne_eq, va_us, pk_us]); (try rfl); done))
set_option maxRecDepth 100000 in
set_option maxHeartbeats 4000000 in
theorem kJ9_floorDiv_f86c9 (G : GG) (l : Launch) (w : WM) (x y : Int64) (hy : ¬ y = 0) : MC G l yJ9_floorDiv_f86c9 cJ9_floorDiv_f86c9 6 ((Option.some .long)) ({ frames := 0, cells := 0, slots := 0, locals := 0 } : Room) [.long x, .long y] w (fun v w' => v = some (.long (fdv x y)) ∧ w' = w) := by
  refine mf9_long (by decide +kernel) (Nat.le_of_ble_eq_true rfl) rfl rfl ?_
  intro p e s m args below meth c A H0 Q X hnm RTN
  have X : Cx G p s m args meth c A H0 cJ9_floorDiv_f86c9 6 RJ9 := X
  refine aw_lload_n X dJ9_floorDiv_f86c9_0 rfl rfl ?_
  refine aw_lload_n X dJ9_floorDiv_f86c9_1 rfl rfl ?_
  refine aw_ldiv X dJ9_floorDiv_f86c9_2 (hy) ?_
  refine aw_lstore (lv' := [(4, _), (0, _), (2, _)]) X dJ9_floorDiv_f86c9_3 (by decide) rfl ?_
  refine aw_lload_n X dJ9_floorDiv_f86c9_5 rfl rfl ?_
  refine aw_lload_n X dJ9_floorDiv_f86c9_6 rfl rfl ?_
  refine aw_lxor X dJ9_floorDiv_f86c9_7 ?_
  refine aw_lconst X dJ9_floorDiv_f86c9_8 cl_0 ?_
  refine aw_lcmp X dJ9_floorDiv_f86c9_9 ?_
  refine aw_if_ge (tgt := 27) X dJ9_floorDiv_f86c9_10 rfl (fun c10 => ?_) (fun c10 => ?_)
  · rw [lg_cmp_ge] at c10
    refine aw_lload X dJ9_floorDiv_f86c9_27 rfl ?_
    refine RTN (some (.long _)) _ _ _ _ _ dJ9_floorDiv_f86c9_29 (⟨_, rfl⟩) (Nat.le_of_ble_eq_true rfl) (Nat.le_of_ble_eq_true rfl) ?_
    first | (constructor <;> ((try simp only [fdv, c10, if_true, if_false, not_true_eq_false, not_false_eq_true, and_self, true_and, and_true, false_and, and_false, or_true, true_or, or_false, false_or, reduceCtorEq, ne_eq, va_us, pk_us]); (try with_reducible rfl); done)) | (clear RTN X; constructor <;> ((try simp_all only [fdv, if_true, if_false, not_true_eq_false, not_false_eq_true, and_self, true_and, and_true, false_and, and_false, or_true, true_or, or_false, false_or, reduceCtorEq, ne_eq, va_us, pk_us]); (try with_reducible rfl); done)) | (constructor <;> ((try simp only [fdv, c10, if_true, if_false, not_true_eq_false, not_false_eq_true, and_self, true_and, and_true, false_and, and_false, or_true, true_or, or_false, false_or, reduceCtorEq, ne_eq, va_us, pk_us]); (try rfl); done))
  · rw [lg_cmp_ge] at c10
    refine aw_lload X dJ9_floorDiv_f86c9_13 rfl ?_
    refine aw_lload_n X dJ9_floorDiv_f86c9_15 rfl rfl ?_
    refine aw_lmul X dJ9_floorDiv_f86c9_16 ?_
    refine aw_lload_n X dJ9_floorDiv_f86c9_17 rfl rfl ?_
    refine aw_lcmp X dJ9_floorDiv_f86c9_18 ?_
    refine aw_if_eq (tgt := 27) X dJ9_floorDiv_f86c9_19 rfl (fun c19 => ?_) (fun c19 => ?_)
    · rw [lg_cmp_eq] at c19
      refine aw_lload X dJ9_floorDiv_f86c9_27 rfl ?_
      refine RTN (some (.long _)) _ _ _ _ _ dJ9_floorDiv_f86c9_29 (⟨_, rfl⟩) (Nat.le_of_ble_eq_true rfl) (Nat.le_of_ble_eq_true rfl) ?_
      first | (constructor <;> ((try simp only [fdv, c10, (eq_true c19), if_true, if_false, not_true_eq_false, not_false_eq_true, and_self, true_and, and_true, false_and, and_false, or_true, true_or, or_false, false_or, reduceCtorEq, ne_eq, va_us, pk_us]); (try with_reducible rfl); done)) | (clear RTN X; constructor <;> ((try simp_all only [fdv, if_true, if_false, not_true_eq_false, not_false_eq_true, and_self, true_and, and_true, false_and, and_false, or_true, true_or, or_false, false_or, reduceCtorEq, ne_eq, va_us, pk_us]); (try with_reducible rfl); done)) | (constructor <;> ((try simp only [fdv, c10, (eq_true c19), if_true, if_false, not_true_eq_false, not_false_eq_true, and_self, true_and, and_true, false_and, and_false, or_true, true_or, or_false, false_or, reduceCtorEq, ne_eq, va_us, pk_us]); (try rfl); done))
    · rw [lg_cmp_eq] at c19
      refine aw_lload X dJ9_floorDiv_f86c9_22 rfl ?_
      refine aw_lconst X dJ9_floorDiv_f86c9_24 cl_1 ?_
      refine aw_lsub X dJ9_floorDiv_f86c9_25 ?_
      refine RTN (some (.long _)) _ _ _ _ _ dJ9_floorDiv_f86c9_26 (⟨_, rfl⟩) (Nat.le_of_ble_eq_true rfl) (Nat.le_of_ble_eq_true rfl) ?_
      first | (constructor <;> ((try simp only [fdv, c10, c19, if_true, if_false, not_true_eq_false, not_false_eq_true, and_self, true_and, and_true, false_and, and_false, or_true, true_or, or_false, false_or, reduceCtorEq, ne_eq, va_us, pk_us]); (try with_reducible rfl); done)) | (clear RTN X; constructor <;> ((try simp_all only [fdv, if_true, if_false, not_true_eq_false, not_false_eq_true, and_self, true_and, and_true, false_and, and_false, or_true, true_or, or_false, false_or, reduceCtorEq, ne_eq, va_us, pk_us]); (try with_reducible rfl); done)) | (constructor <;> ((try simp only [fdv, c10, c19, if_true, if_false, not_true_eq_false, not_false_eq_true, and_self, true_and, and_true, false_and, and_false, or_true, true_or, or_false, false_or, reduceCtorEq, ne_eq, va_us, pk_us]); (try rfl); done))
set_option maxRecDepth 100000 in
set_option maxHeartbeats 4000000 in
theorem kJ9_floorMod_f86c9 (G : GG) (l : Launch) (w : WM) (x y : Int64) (hy : ¬ y = 0) : MC G l yJ9_floorMod_f86c9 cJ9_floorMod_f86c9 6 ((Option.some .long)) ({ frames := 0, cells := 0, slots := 0, locals := 0 } : Room) [.long x, .long y] w (fun v w' => v = some (.long (fmd x y)) ∧ w' = w) := by
  refine mf9_long (by decide +kernel) (Nat.le_of_ble_eq_true rfl) rfl rfl ?_
  intro p e s m args below meth c A H0 Q X hnm RTN
  have X : Cx G p s m args meth c A H0 cJ9_floorMod_f86c9 6 RJ9 := X
  refine aw_lload_n X dJ9_floorMod_f86c9_0 rfl rfl ?_
  refine aw_lload_n X dJ9_floorMod_f86c9_1 rfl rfl ?_
  refine aw_lrem X dJ9_floorMod_f86c9_2 (hy) ?_
  refine aw_lstore (lv' := [(4, _), (0, _), (2, _)]) X dJ9_floorMod_f86c9_3 (by decide) rfl ?_
  refine aw_lload_n X dJ9_floorMod_f86c9_5 rfl rfl ?_
  refine aw_lload_n X dJ9_floorMod_f86c9_6 rfl rfl ?_
  refine aw_lxor X dJ9_floorMod_f86c9_7 ?_
  refine aw_lconst X dJ9_floorMod_f86c9_8 cl_0 ?_
  refine aw_lcmp X dJ9_floorMod_f86c9_9 ?_
  refine aw_if_ge (tgt := 25) X dJ9_floorMod_f86c9_10 rfl (fun c10 => ?_) (fun c10 => ?_)
  · rw [lg_cmp_ge] at c10
    refine aw_lload X dJ9_floorMod_f86c9_25 rfl ?_
    refine RTN (some (.long _)) _ _ _ _ _ dJ9_floorMod_f86c9_27 (⟨_, rfl⟩) (Nat.le_of_ble_eq_true rfl) (Nat.le_of_ble_eq_true rfl) ?_
    first | (constructor <;> ((try simp only [fmd, c10, if_true, if_false, not_true_eq_false, not_false_eq_true, and_self, true_and, and_true, false_and, and_false, or_true, true_or, or_false, false_or, reduceCtorEq, ne_eq, va_us, pk_us]); (try with_reducible rfl); done)) | (clear RTN X; constructor <;> ((try simp_all only [fmd, if_true, if_false, not_true_eq_false, not_false_eq_true, and_self, true_and, and_true, false_and, and_false, or_true, true_or, or_false, false_or, reduceCtorEq, ne_eq, va_us, pk_us]); (try with_reducible rfl); done)) | (constructor <;> ((try simp only [fmd, c10, if_true, if_false, not_true_eq_false, not_false_eq_true, and_self, true_and, and_true, false_and, and_false, or_true, true_or, or_false, false_or, reduceCtorEq, ne_eq, va_us, pk_us]); (try rfl); done))
  · rw [lg_cmp_ge] at c10
    refine aw_lload X dJ9_floorMod_f86c9_13 rfl ?_
    refine aw_lconst X dJ9_floorMod_f86c9_15 cl_0 ?_
    refine aw_lcmp X dJ9_floorMod_f86c9_16 ?_
    refine aw_if_eq (tgt := 25) X dJ9_floorMod_f86c9_17 rfl (fun c17 => ?_) (fun c17 => ?_)
    · rw [lg_cmp_eq] at c17
      refine aw_lload X dJ9_floorMod_f86c9_25 rfl ?_
      refine RTN (some (.long _)) _ _ _ _ _ dJ9_floorMod_f86c9_27 (⟨_, rfl⟩) (Nat.le_of_ble_eq_true rfl) (Nat.le_of_ble_eq_true rfl) ?_
      first | (constructor <;> ((try simp only [fmd, c10, (eq_true c17), if_true, if_false, not_true_eq_false, not_false_eq_true, and_self, true_and, and_true, false_and, and_false, or_true, true_or, or_false, false_or, reduceCtorEq, ne_eq, va_us, pk_us]); (try with_reducible rfl); done)) | (clear RTN X; constructor <;> ((try simp_all only [fmd, if_true, if_false, not_true_eq_false, not_false_eq_true, and_self, true_and, and_true, false_and, and_false, or_true, true_or, or_false, false_or, reduceCtorEq, ne_eq, va_us, pk_us]); (try with_reducible rfl); done)) | (constructor <;> ((try simp only [fmd, c10, (eq_true c17), if_true, if_false, not_true_eq_false, not_false_eq_true, and_self, true_and, and_true, false_and, and_false, or_true, true_or, or_false, false_or, reduceCtorEq, ne_eq, va_us, pk_us]); (try rfl); done))
    · rw [lg_cmp_eq] at c17
      refine aw_lload X dJ9_floorMod_f86c9_20 rfl ?_
      refine aw_lload_n X dJ9_floorMod_f86c9_22 rfl rfl ?_
      refine aw_ladd X dJ9_floorMod_f86c9_23 ?_
      refine RTN (some (.long _)) _ _ _ _ _ dJ9_floorMod_f86c9_24 (⟨_, rfl⟩) (Nat.le_of_ble_eq_true rfl) (Nat.le_of_ble_eq_true rfl) ?_
      first | (constructor <;> ((try simp only [fmd, c10, c17, if_true, if_false, not_true_eq_false, not_false_eq_true, and_self, true_and, and_true, false_and, and_false, or_true, true_or, or_false, false_or, reduceCtorEq, ne_eq, va_us, pk_us]); (try with_reducible rfl); done)) | (clear RTN X; constructor <;> ((try simp_all only [fmd, if_true, if_false, not_true_eq_false, not_false_eq_true, and_self, true_and, and_true, false_and, and_false, or_true, true_or, or_false, false_or, reduceCtorEq, ne_eq, va_us, pk_us]); (try with_reducible rfl); done)) | (constructor <;> ((try simp only [fmd, c10, c17, if_true, if_false, not_true_eq_false, not_false_eq_true, and_self, true_and, and_true, false_and, and_false, or_true, true_or, or_false, false_or, reduceCtorEq, ne_eq, va_us, pk_us]); (try rfl); done))
set_option maxRecDepth 100000 in
set_option maxHeartbeats 4000000 in
theorem kJ9_max_7cf53 (G : GG) (l : Launch) (w : WM) (x y : Int32) : MC G l yJ9_max_7cf53 cJ9_max_7cf53 2 ((Option.some .int)) ({ frames := 0, cells := 0, slots := 0, locals := 0 } : Room) [.int x, .int y] w (fun v w' => v = some (.int (if x < y then y else x)) ∧ w' = w) := by
  refine mf9_int (by decide +kernel) (Nat.le_of_ble_eq_true rfl) rfl rfl ?_
  intro p e s m args below meth c A H0 Q X hnm RTN
  have X : Cx G p s m args meth c A H0 cJ9_max_7cf53 2 RJ9 := X
  refine aw_iload_n X dJ9_max_7cf53_0 rfl rfl ?_
  refine aw_iload_n X dJ9_max_7cf53_1 rfl rfl ?_
  refine aw_icmp_lt (tgt := 9) X dJ9_max_7cf53_2 rfl (fun c2 => ?_) (fun c2 => ?_)
  · refine aw_iload_n X dJ9_max_7cf53_9 rfl rfl ?_
    refine RTN (some (.int _)) _ _ _ _ _ dJ9_max_7cf53_10 (⟨_, rfl⟩) (Nat.le_of_ble_eq_true rfl) (Nat.le_of_ble_eq_true rfl) ?_
    first | (constructor <;> ((try simp only [c2, if_true, if_false, not_true_eq_false, not_false_eq_true, and_self, true_and, and_true, false_and, and_false, or_true, true_or, or_false, false_or, reduceCtorEq, ne_eq, va_us, pk_us]); (try with_reducible rfl); done)) | (clear RTN X; constructor <;> ((try simp_all only [if_true, if_false, not_true_eq_false, not_false_eq_true, and_self, true_and, and_true, false_and, and_false, or_true, true_or, or_false, false_or, reduceCtorEq, ne_eq, va_us, pk_us]); (try with_reducible rfl); done)) | (constructor <;> ((try simp only [c2, if_true, if_false, not_true_eq_false, not_false_eq_true, and_self, true_and, and_true, false_and, and_false, or_true, true_or, or_false, false_or, reduceCtorEq, ne_eq, va_us, pk_us]); (try rfl); done))
  · refine aw_iload_n X dJ9_max_7cf53_5 rfl rfl ?_
    refine aw_goto (tgt := 10) X dJ9_max_7cf53_6 rfl ?_
    refine RTN (some (.int _)) _ _ _ _ _ dJ9_max_7cf53_10 (⟨_, rfl⟩) (Nat.le_of_ble_eq_true rfl) (Nat.le_of_ble_eq_true rfl) ?_
    first | (constructor <;> ((try simp only [c2, if_true, if_false, not_true_eq_false, not_false_eq_true, and_self, true_and, and_true, false_and, and_false, or_true, true_or, or_false, false_or, reduceCtorEq, ne_eq, va_us, pk_us]); (try with_reducible rfl); done)) | (clear RTN X; constructor <;> ((try simp_all only [if_true, if_false, not_true_eq_false, not_false_eq_true, and_self, true_and, and_true, false_and, and_false, or_true, true_or, or_false, false_or, reduceCtorEq, ne_eq, va_us, pk_us]); (try with_reducible rfl); done)) | (constructor <;> ((try simp only [c2, if_true, if_false, not_true_eq_false, not_false_eq_true, and_self, true_and, and_true, false_and, and_false, or_true, true_or, or_false, false_or, reduceCtorEq, ne_eq, va_us, pk_us]); (try rfl); done))
set_option maxRecDepth 100000 in
set_option maxHeartbeats 4000000 in
theorem kJ9_min_7cf53 (G : GG) (l : Launch) (w : WM) (x y : Int32) : MC G l yJ9_min_7cf53 cJ9_min_7cf53 2 ((Option.some .int)) ({ frames := 0, cells := 0, slots := 0, locals := 0 } : Room) [.int x, .int y] w (fun v w' => v = some (.int (if y < x then y else x)) ∧ w' = w) := by
  refine mf9_int (by decide +kernel) (Nat.le_of_ble_eq_true rfl) rfl rfl ?_
  intro p e s m args below meth c A H0 Q X hnm RTN
  have X : Cx G p s m args meth c A H0 cJ9_min_7cf53 2 RJ9 := X
  refine aw_iload_n X dJ9_min_7cf53_0 rfl rfl ?_
  refine aw_iload_n X dJ9_min_7cf53_1 rfl rfl ?_
  refine aw_icmp_gt (tgt := 9) X dJ9_min_7cf53_2 rfl (fun c2 => ?_) (fun c2 => ?_)
  · refine aw_iload_n X dJ9_min_7cf53_9 rfl rfl ?_
    refine RTN (some (.int _)) _ _ _ _ _ dJ9_min_7cf53_10 (⟨_, rfl⟩) (Nat.le_of_ble_eq_true rfl) (Nat.le_of_ble_eq_true rfl) ?_
    first | (constructor <;> ((try simp only [c2, if_true, if_false, not_true_eq_false, not_false_eq_true, and_self, true_and, and_true, false_and, and_false, or_true, true_or, or_false, false_or, reduceCtorEq, ne_eq, va_us, pk_us]); (try with_reducible rfl); done)) | (clear RTN X; constructor <;> ((try simp_all only [if_true, if_false, not_true_eq_false, not_false_eq_true, and_self, true_and, and_true, false_and, and_false, or_true, true_or, or_false, false_or, reduceCtorEq, ne_eq, va_us, pk_us]); (try with_reducible rfl); done)) | (constructor <;> ((try simp only [c2, if_true, if_false, not_true_eq_false, not_false_eq_true, and_self, true_and, and_true, false_and, and_false, or_true, true_or, or_false, false_or, reduceCtorEq, ne_eq, va_us, pk_us]); (try rfl); done))
  · refine aw_iload_n X dJ9_min_7cf53_5 rfl rfl ?_
    refine aw_goto (tgt := 10) X dJ9_min_7cf53_6 rfl ?_
    refine RTN (some (.int _)) _ _ _ _ _ dJ9_min_7cf53_10 (⟨_, rfl⟩) (Nat.le_of_ble_eq_true rfl) (Nat.le_of_ble_eq_true rfl) ?_
    first | (constructor <;> ((try simp only [c2, if_true, if_false, not_true_eq_false, not_false_eq_true, and_self, true_and, and_true, false_and, and_false, or_true, true_or, or_false, false_or, reduceCtorEq, ne_eq, va_us, pk_us]); (try with_reducible rfl); done)) | (clear RTN X; constructor <;> ((try simp_all only [if_true, if_false, not_true_eq_false, not_false_eq_true, and_self, true_and, and_true, false_and, and_false, or_true, true_or, or_false, false_or, reduceCtorEq, ne_eq, va_us, pk_us]); (try with_reducible rfl); done)) | (constructor <;> ((try simp only [c2, if_true, if_false, not_true_eq_false, not_false_eq_true, and_self, true_and, and_true, false_and, and_false, or_true, true_or, or_false, false_or, reduceCtorEq, ne_eq, va_us, pk_us]); (try rfl); done))
set_option maxRecDepth 100000 in
set_option maxHeartbeats 4000000 in
theorem kJ9_max_f86c9 (G : GG) (l : Launch) (w : WM) (x y : Int64) : MC G l yJ9_max_f86c9 cJ9_max_f86c9 4 ((Option.some .long)) ({ frames := 0, cells := 0, slots := 0, locals := 0 } : Room) [.long x, .long y] w (fun v w' => v = some (.long (if x < y then y else x)) ∧ w' = w) := by
  refine mf9_long (by decide +kernel) (Nat.le_of_ble_eq_true rfl) rfl rfl ?_
  intro p e s m args below meth c A H0 Q X hnm RTN
  have X : Cx G p s m args meth c A H0 cJ9_max_f86c9 4 RJ9 := X
  refine aw_lload_n X dJ9_max_f86c9_0 rfl rfl ?_
  refine aw_lload_n X dJ9_max_f86c9_1 rfl rfl ?_
  refine aw_lcmp X dJ9_max_f86c9_2 ?_
  refine aw_if_lt (tgt := 10) X dJ9_max_f86c9_3 rfl (fun c3 => ?_) (fun c3 => ?_)
  · rw [lg_cmp_lt] at c3
    refine aw_lload_n X dJ9_max_f86c9_10 rfl rfl ?_
    refine RTN (some (.long _)) _ _ _ _ _ dJ9_max_f86c9_11 (⟨_, rfl⟩) (Nat.le_of_ble_eq_true rfl) (Nat.le_of_ble_eq_true rfl) ?_
    first | (constructor <;> ((try simp only [c3, if_true, if_false, not_true_eq_false, not_false_eq_true, and_self, true_and, and_true, false_and, and_false, or_true, true_or, or_false, false_or, reduceCtorEq, ne_eq, va_us, pk_us]); (try with_reducible rfl); done)) | (clear RTN X; constructor <;> ((try simp_all only [if_true, if_false, not_true_eq_false, not_false_eq_true, and_self, true_and, and_true, false_and, and_false, or_true, true_or, or_false, false_or, reduceCtorEq, ne_eq, va_us, pk_us]); (try with_reducible rfl); done)) | (constructor <;> ((try simp only [c3, if_true, if_false, not_true_eq_false, not_false_eq_true, and_self, true_and, and_true, false_and, and_false, or_true, true_or, or_false, false_or, reduceCtorEq, ne_eq, va_us, pk_us]); (try rfl); done))
  · rw [lg_cmp_lt] at c3
    refine aw_lload_n X dJ9_max_f86c9_6 rfl rfl ?_
    refine aw_goto (tgt := 11) X dJ9_max_f86c9_7 rfl ?_
    refine RTN (some (.long _)) _ _ _ _ _ dJ9_max_f86c9_11 (⟨_, rfl⟩) (Nat.le_of_ble_eq_true rfl) (Nat.le_of_ble_eq_true rfl) ?_
    first | (constructor <;> ((try simp only [c3, if_true, if_false, not_true_eq_false, not_false_eq_true, and_self, true_and, and_true, false_and, and_false, or_true, true_or, or_false, false_or, reduceCtorEq, ne_eq, va_us, pk_us]); (try with_reducible rfl); done)) | (clear RTN X; constructor <;> ((try simp_all only [if_true, if_false, not_true_eq_false, not_false_eq_true, and_self, true_and, and_true, false_and, and_false, or_true, true_or, or_false, false_or, reduceCtorEq, ne_eq, va_us, pk_us]); (try with_reducible rfl); done)) | (constructor <;> ((try simp only [c3, if_true, if_false, not_true_eq_false, not_false_eq_true, and_self, true_and, and_true, false_and, and_false, or_true, true_or, or_false, false_or, reduceCtorEq, ne_eq, va_us, pk_us]); (try rfl); done))
set_option maxRecDepth 100000 in
set_option maxHeartbeats 4000000 in
theorem kJ9_min_f86c9 (G : GG) (l : Launch) (w : WM) (x y : Int64) : MC G l yJ9_min_f86c9 cJ9_min_f86c9 4 ((Option.some .long)) ({ frames := 0, cells := 0, slots := 0, locals := 0 } : Room) [.long x, .long y] w (fun v w' => v = some (.long (if y < x then y else x)) ∧ w' = w) := by
  refine mf9_long (by decide +kernel) (Nat.le_of_ble_eq_true rfl) rfl rfl ?_
  intro p e s m args below meth c A H0 Q X hnm RTN
  have X : Cx G p s m args meth c A H0 cJ9_min_f86c9 4 RJ9 := X
  refine aw_lload_n X dJ9_min_f86c9_0 rfl rfl ?_
  refine aw_lload_n X dJ9_min_f86c9_1 rfl rfl ?_
  refine aw_lcmp X dJ9_min_f86c9_2 ?_
  refine aw_if_gt (tgt := 10) X dJ9_min_f86c9_3 rfl (fun c3 => ?_) (fun c3 => ?_)
  · rw [lg_cmp_gt] at c3
    refine aw_lload_n X dJ9_min_f86c9_10 rfl rfl ?_
    refine RTN (some (.long _)) _ _ _ _ _ dJ9_min_f86c9_11 (⟨_, rfl⟩) (Nat.le_of_ble_eq_true rfl) (Nat.le_of_ble_eq_true rfl) ?_
    first | (constructor <;> ((try simp only [c3, if_true, if_false, not_true_eq_false, not_false_eq_true, and_self, true_and, and_true, false_and, and_false, or_true, true_or, or_false, false_or, reduceCtorEq, ne_eq, va_us, pk_us]); (try with_reducible rfl); done)) | (clear RTN X; constructor <;> ((try simp_all only [if_true, if_false, not_true_eq_false, not_false_eq_true, and_self, true_and, and_true, false_and, and_false, or_true, true_or, or_false, false_or, reduceCtorEq, ne_eq, va_us, pk_us]); (try with_reducible rfl); done)) | (constructor <;> ((try simp only [c3, if_true, if_false, not_true_eq_false, not_false_eq_true, and_self, true_and, and_true, false_and, and_false, or_true, true_or, or_false, false_or, reduceCtorEq, ne_eq, va_us, pk_us]); (try rfl); done))
  · rw [lg_cmp_gt] at c3
    refine aw_lload_n X dJ9_min_f86c9_6 rfl rfl ?_
    refine aw_goto (tgt := 11) X dJ9_min_f86c9_7 rfl ?_
    refine RTN (some (.long _)) _ _ _ _ _ dJ9_min_f86c9_11 (⟨_, rfl⟩) (Nat.le_of_ble_eq_true rfl) (Nat.le_of_ble_eq_true rfl) ?_
    first | (constructor <;> ((try simp only [c3, if_true, if_false, not_true_eq_false, not_false_eq_true, and_self, true_and, and_true, false_and, and_false, or_true, true_or, or_false, false_or, reduceCtorEq, ne_eq, va_us, pk_us]); (try with_reducible rfl); done)) | (clear RTN X; constructor <;> ((try simp_all only [if_true, if_false, not_true_eq_false, not_false_eq_true, and_self, true_and, and_true, false_and, and_false, or_true, true_or, or_false, false_or, reduceCtorEq, ne_eq, va_us, pk_us]); (try with_reducible rfl); done)) | (constructor <;> ((try simp only [c3, if_true, if_false, not_true_eq_false, not_false_eq_true, and_self, true_and, and_true, false_and, and_false, or_true, true_or, or_false, false_or, reduceCtorEq, ne_eq, va_us, pk_us]); (try rfl); done))
