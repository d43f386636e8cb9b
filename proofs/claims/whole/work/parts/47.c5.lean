/-! Items -/
def it_of (so k : Int32) : Bool := decide (so = k) || (decide (so = 4) && decide (k = 3))
def it_has (n : Nat) (k : Int32) : Bool := !decide (k < 0) && !decide (nI n ≤ k)
def it_span (n : Nat) (a m : Int32) : Bool := !decide (a < 0) && (!decide (m < 0) && (!decide (nI n < a) && !decide (nI n - a < m)))
def it_sign (so : Int32) (x : Int32) : Int32 := if so = 1 then x &&& 255 else cl_sgn x
set_option maxRecDepth 100000 in
set_option maxHeartbeats 4000000 in
theorem kX2_isOf (G : GG) (l : Launch) (w : WM) (o va n : Nat) (so : Int32) (f : Nat → Int32) (hO : w o = some (.inr (4, [.int so, .ref va]))) (hV : w va = some (.inl (gA G 0, n, .inl f))) (k : Int32) : MC G l yX2_isOf cX2_isOf 2 ((Option.some .boolean)) ({ frames := 0, cells := 0, slots := 0, locals := 0 } : Room) [.ref o, .int k] w (fun v w' => v = some (.int (bI (it_of so k = true))) ∧ w' = w) := by
  refine mc_bool (by decide) (Nat.le_of_ble_eq_true rfl) rfl rfl ?_
  intro p e s m args below meth c A H0 Q X hnm RTN
  have X : Cx G p s m args meth c A H0 cX2_isOf 2 RX2 := X
  refine aw_aload_n X dX2_isOf_0 rfl rfl ?_
  refine aw_get X okX2 (k := 0) hO (Nat.le_of_ble_eq_true rfl) fl_X2_9 (Or.inl rfl) rfl dX2_isOf_1 ?_
  refine aw_iload_n X dX2_isOf_4 rfl rfl ?_
  refine aw_icmp_eq (tgt := 21) X dX2_isOf_5 rfl (fun c5 => ?_) (fun c5 => ?_)
  · refine aw_iconst X dX2_isOf_21 ci_1 ?_
    refine aw_goto (tgt := 26) X dX2_isOf_22 rfl ?_
    refine RTN (some (.int _)) _ _ _ _ _ dX2_isOf_26 (by first | exact Or.inl rfl | exact Or.inr rfl) (Nat.le_of_ble_eq_true rfl) (Nat.le_of_ble_eq_true rfl) ?_
    exact ⟨by rw [bI_b]; simp [it_of, b2, (eq_true c5)], rfl⟩
  · refine aw_aload_n X dX2_isOf_8 rfl rfl ?_
    refine aw_get X okX2 (k := 0) hO (Nat.le_of_ble_eq_true rfl) fl_X2_9 (Or.inl rfl) rfl dX2_isOf_9 ?_
    refine aw_iconst X dX2_isOf_12 ci_4 ?_
    refine aw_icmp_ne (tgt := 25) X dX2_isOf_13 rfl (fun c13 => ?_) (fun c13 => ?_)
    · refine aw_iconst X dX2_isOf_25 ci_0 ?_
      refine RTN (some (.int _)) _ _ _ _ _ dX2_isOf_26 (by first | exact Or.inl rfl | exact Or.inr rfl) (Nat.le_of_ble_eq_true rfl) (Nat.le_of_ble_eq_true rfl) ?_
      exact ⟨by rw [bI_b]; simp [it_of, b2, c5, c13], rfl⟩
    · refine aw_iload_n X dX2_isOf_16 rfl rfl ?_
      refine aw_iconst X dX2_isOf_17 ci_3 ?_
      refine aw_icmp_ne (tgt := 25) X dX2_isOf_18 rfl (fun c18 => ?_) (fun c18 => ?_)
      · refine aw_iconst X dX2_isOf_25 ci_0 ?_
        refine RTN (some (.int _)) _ _ _ _ _ dX2_isOf_26 (by first | exact Or.inl rfl | exact Or.inr rfl) (Nat.le_of_ble_eq_true rfl) (Nat.le_of_ble_eq_true rfl) ?_
        exact ⟨by rw [bI_b]; simp [it_of, b2, c5, (eq_true c13), c18], rfl⟩
      · refine aw_iconst X dX2_isOf_21 ci_1 ?_
        refine aw_goto (tgt := 26) X dX2_isOf_22 rfl ?_
        refine RTN (some (.int _)) _ _ _ _ _ dX2_isOf_26 (by first | exact Or.inl rfl | exact Or.inr rfl) (Nat.le_of_ble_eq_true rfl) (Nat.le_of_ble_eq_true rfl) ?_
        exact ⟨by rw [bI_b]; simp [it_of, b2, c5, (eq_true c13), (eq_true c18)], rfl⟩
set_option maxRecDepth 100000 in
set_option maxHeartbeats 4000000 in
theorem kX2_hasItem (G : GG) (l : Launch) (w : WM) (o va n : Nat) (so : Int32) (f : Nat → Int32) (hO : w o = some (.inr (4, [.int so, .ref va]))) (hV : w va = some (.inl (gA G 0, n, .inl f))) (k : Int32) : MC G l yX2_hasItem cX2_hasItem 2 ((Option.some .boolean)) ({ frames := 0, cells := 0, slots := 0, locals := 0 } : Room) [.ref o, .int k] w (fun v w' => v = some (.int (bI (it_has n k = true))) ∧ w' = w) := by
  refine mc_bool (by decide) (Nat.le_of_ble_eq_true rfl) rfl rfl ?_
  intro p e s m args below meth c A H0 Q X hnm RTN
  have X : Cx G p s m args meth c A H0 cX2_hasItem 2 RX2 := X
  refine aw_iload_n X dX2_hasItem_0 rfl rfl ?_
  refine aw_if_lt (tgt := 17) X dX2_hasItem_1 rfl (fun c1 => ?_) (fun c1 => ?_)
  · refine aw_iconst X dX2_hasItem_17 ci_0 ?_
    refine RTN (some (.int _)) _ _ _ _ _ dX2_hasItem_18 (by first | exact Or.inl rfl | exact Or.inr rfl) (Nat.le_of_ble_eq_true rfl) (Nat.le_of_ble_eq_true rfl) ?_
    exact ⟨by rw [bI_b]; simp [it_has, b2, c1], rfl⟩
  · refine aw_iload_n X dX2_hasItem_4 rfl rfl ?_
    refine aw_aload_n X dX2_hasItem_5 rfl rfl ?_
    refine aw_get X okX2 (k := 1) hO (Nat.le_of_ble_eq_true rfl) fl_X2_15 (Or.inl rfl) rfl dX2_hasItem_6 ?_
    refine aw_alen X 0 hV rfl (v := (nI n)) rfl dX2_hasItem_9 ?_
    refine aw_icmp_ge (tgt := 17) X dX2_hasItem_10 rfl (fun c10 => ?_) (fun c10 => ?_)
    · refine aw_iconst X dX2_hasItem_17 ci_0 ?_
      refine RTN (some (.int _)) _ _ _ _ _ dX2_hasItem_18 (by first | exact Or.inl rfl | exact Or.inr rfl) (Nat.le_of_ble_eq_true rfl) (Nat.le_of_ble_eq_true rfl) ?_
      exact ⟨by rw [bI_b]; simp [it_has, b2, c1, c10], rfl⟩
    · refine aw_iconst X dX2_hasItem_13 ci_1 ?_
      refine aw_goto (tgt := 18) X dX2_hasItem_14 rfl ?_
      refine RTN (some (.int _)) _ _ _ _ _ dX2_hasItem_18 (by first | exact Or.inl rfl | exact Or.inr rfl) (Nat.le_of_ble_eq_true rfl) (Nat.le_of_ble_eq_true rfl) ?_
      exact ⟨by rw [bI_b]; simp [it_has, b2, c1, c10], rfl⟩
set_option maxRecDepth 100000 in
set_option maxHeartbeats 4000000 in
theorem kX2_hasSpan (G : GG) (l : Launch) (w : WM) (o va n : Nat) (so : Int32) (f : Nat → Int32) (hO : w o = some (.inr (4, [.int so, .ref va]))) (hV : w va = some (.inl (gA G 0, n, .inl f))) (a m : Int32) : MC G l yX2_hasSpan cX2_hasSpan 3 ((Option.some .boolean)) ({ frames := 0, cells := 0, slots := 0, locals := 0 } : Room) [.ref o, .int a, .int m] w (fun v w' => v = some (.int (bI (it_span n a m = true))) ∧ w' = w) := by
  refine mc_bool (by decide) (Nat.le_of_ble_eq_true rfl) rfl rfl ?_
  intro p e s m args below meth c A H0 Q X hnm RTN
  have X : Cx G p s m args meth c A H0 cX2_hasSpan 3 RX2 := X
  refine aw_iload_n X dX2_hasSpan_0 rfl rfl ?_
  refine aw_if_lt (tgt := 32) X dX2_hasSpan_1 rfl (fun c1 => ?_) (fun c1 => ?_)
  · refine aw_iconst X dX2_hasSpan_32 ci_0 ?_
    refine RTN (some (.int _)) _ _ _ _ _ dX2_hasSpan_33 (by first | exact Or.inl rfl | exact Or.inr rfl) (Nat.le_of_ble_eq_true rfl) (Nat.le_of_ble_eq_true rfl) ?_
    exact ⟨by rw [bI_b]; simp [it_span, b2, c1], rfl⟩
  · refine aw_iload_n X dX2_hasSpan_4 rfl rfl ?_
    refine aw_if_lt (tgt := 32) X dX2_hasSpan_5 rfl (fun c5 => ?_) (fun c5 => ?_)
    · refine aw_iconst X dX2_hasSpan_32 ci_0 ?_
      refine RTN (some (.int _)) _ _ _ _ _ dX2_hasSpan_33 (by first | exact Or.inl rfl | exact Or.inr rfl) (Nat.le_of_ble_eq_true rfl) (Nat.le_of_ble_eq_true rfl) ?_
      exact ⟨by rw [bI_b]; simp [it_span, b2, c1, c5], rfl⟩
    · refine aw_iload_n X dX2_hasSpan_8 rfl rfl ?_
      refine aw_aload_n X dX2_hasSpan_9 rfl rfl ?_
      refine aw_get X okX2 (k := 1) hO (Nat.le_of_ble_eq_true rfl) fl_X2_15 (Or.inl rfl) rfl dX2_hasSpan_10 ?_
      refine aw_alen X 0 hV rfl (v := (nI n)) rfl dX2_hasSpan_13 ?_
      refine aw_icmp_gt (tgt := 32) X dX2_hasSpan_14 rfl (fun c14 => ?_) (fun c14 => ?_)
      · refine aw_iconst X dX2_hasSpan_32 ci_0 ?_
        refine RTN (some (.int _)) _ _ _ _ _ dX2_hasSpan_33 (by first | exact Or.inl rfl | exact Or.inr rfl) (Nat.le_of_ble_eq_true rfl) (Nat.le_of_ble_eq_true rfl) ?_
        exact ⟨by rw [bI_b]; simp [it_span, b2, c1, c5, c14], rfl⟩
      · refine aw_iload_n X dX2_hasSpan_17 rfl rfl ?_
        refine aw_aload_n X dX2_hasSpan_18 rfl rfl ?_
        refine aw_get X okX2 (k := 1) hO (Nat.le_of_ble_eq_true rfl) fl_X2_15 (Or.inl rfl) rfl dX2_hasSpan_19 ?_
        refine aw_alen X 0 hV rfl (v := (nI n)) rfl dX2_hasSpan_22 ?_
        refine aw_iload_n X dX2_hasSpan_23 rfl rfl ?_
        refine aw_isub X dX2_hasSpan_24 ?_
        refine aw_icmp_gt (tgt := 32) X dX2_hasSpan_25 rfl (fun c25 => ?_) (fun c25 => ?_)
        · refine aw_iconst X dX2_hasSpan_32 ci_0 ?_
          refine RTN (some (.int _)) _ _ _ _ _ dX2_hasSpan_33 (by first | exact Or.inl rfl | exact Or.inr rfl) (Nat.le_of_ble_eq_true rfl) (Nat.le_of_ble_eq_true rfl) ?_
          exact ⟨by rw [bI_b]; simp [it_span, b2, c1, c5, c14, c25], rfl⟩
        · refine aw_iconst X dX2_hasSpan_28 ci_1 ?_
          refine aw_goto (tgt := 33) X dX2_hasSpan_29 rfl ?_
          refine RTN (some (.int _)) _ _ _ _ _ dX2_hasSpan_33 (by first | exact Or.inl rfl | exact Or.inr rfl) (Nat.le_of_ble_eq_true rfl) (Nat.le_of_ble_eq_true rfl) ?_
          exact ⟨by rw [bI_b]; simp [it_span, b2, c1, c5, c14, c25], rfl⟩
set_option maxRecDepth 100000 in
set_option maxHeartbeats 4000000 in
theorem kX2_signAt (G : GG) (l : Launch) (w : WM) (o va n : Nat) (so : Int32) (f : Nat → Int32) (hO : w o = some (.inr (4, [.int so, .ref va]))) (hV : w va = some (.inl (gA G 0, n, .inl f))) (k : Int32) (hk : vp_in k n) : MC G l yX2_signAt cX2_signAt 2 ((Option.some .int)) ({ frames := 3, cells := 0, slots := 0, locals := 63 } : Room) [.ref o, .int k] w (fun v w' => v = some (.int (it_sign so (f k.toNatClampNeg))) ∧ w' = w) := by
  refine mc_int (by decide) (Nat.le_of_ble_eq_true rfl) rfl rfl ?_
  intro p e s m args below meth c A H0 Q X hnm RTN
  have X : Cx G p s m args meth c A H0 cX2_signAt 2 RX2 := X
  refine aw_aload_n X dX2_signAt_0 rfl rfl ?_
  refine aw_get X okX2 (k := 0) hO (Nat.le_of_ble_eq_true rfl) fl_X2_9 (Or.inl rfl) rfl dX2_signAt_1 ?_
  refine aw_iconst X dX2_signAt_4 ci_1 ?_
  refine aw_icmp_ne (tgt := 21) X dX2_signAt_5 rfl (fun c5 => ?_) (fun c5 => ?_)
  · refine aw_aload_n X dX2_signAt_21 rfl rfl ?_
    refine aw_get X okX2 (k := 1) hO (Nat.le_of_ble_eq_true rfl) fl_X2_15 (Or.inl rfl) rfl dX2_signAt_22 ?_
    refine aw_iload_n X dX2_signAt_25 rfl rfl ?_
    refine aw_iald X hV (hk) dX2_signAt_26 ?_
    refine aw_callSN X (kX10_signOf _ _ _ _) okm_X10_signOf mn_X2_23 st_X10_signOf rfl rfl (Nat.le_of_ble_eq_true rfl) ⟨Nat.le_of_ble_eq_true rfl, Nat.le_of_ble_eq_true rfl, Nat.le_of_ble_eq_true rfl, Nat.le_of_ble_eq_true rfl⟩ dX2_signAt_27 (fun v w2 hp => ?_)
    obtain ⟨rfl, rfl⟩ := hp
    refine RTN (some (.int _)) _ _ _ _ _ dX2_signAt_30 (⟨_, rfl⟩) (Nat.le_of_ble_eq_true rfl) (Nat.le_of_ble_eq_true rfl) ?_
    first | (constructor <;> ((try simp only [it_sign, c5, if_true, if_false, not_true_eq_false, not_false_eq_true, and_self, true_and, and_true, false_and, and_false, or_true, true_or, or_false, false_or, reduceCtorEq, ne_eq, va_us, pk_us]); (try with_reducible rfl); done)) | (clear RTN X; constructor <;> ((try simp_all only [it_sign, if_true, if_false, not_true_eq_false, not_false_eq_true, and_self, true_and, and_true, false_and, and_false, or_true, true_or, or_false, false_or, reduceCtorEq, ne_eq, va_us, pk_us]); (try with_reducible rfl); done)) | (constructor <;> ((try simp only [it_sign, c5, if_true, if_false, not_true_eq_false, not_false_eq_true, and_self, true_and, and_true, false_and, and_false, or_true, true_or, or_false, false_or, reduceCtorEq, ne_eq, va_us, pk_us]); (try rfl); done))
  · refine aw_aload_n X dX2_signAt_8 rfl rfl ?_
    refine aw_get X okX2 (k := 1) hO (Nat.le_of_ble_eq_true rfl) fl_X2_15 (Or.inl rfl) rfl dX2_signAt_9 ?_
    refine aw_iload_n X dX2_signAt_12 rfl rfl ?_
    refine aw_iald X hV (hk) dX2_signAt_13 ?_
    refine aw_sipush X dX2_signAt_14 cs_255 ?_
    refine aw_iand X dX2_signAt_17 ?_
    refine aw_goto (tgt := 30) X dX2_signAt_18 rfl ?_
    refine RTN (some (.int _)) _ _ _ _ _ dX2_signAt_30 (⟨_, rfl⟩) (Nat.le_of_ble_eq_true rfl) (Nat.le_of_ble_eq_true rfl) ?_
    first | (constructor <;> ((try simp only [it_sign, (eq_true c5), if_true, if_false, not_true_eq_false, not_false_eq_true, and_self, true_and, and_true, false_and, and_false, or_true, true_or, or_false, false_or, reduceCtorEq, ne_eq, va_us, pk_us]); (try with_reducible rfl); done)) | (clear RTN X; constructor <;> ((try simp_all only [it_sign, if_true, if_false, not_true_eq_false, not_false_eq_true, and_self, true_and, and_true, false_and, and_false, or_true, true_or, or_false, false_or, reduceCtorEq, ne_eq, va_us, pk_us]); (try with_reducible rfl); done)) | (constructor <;> ((try simp only [it_sign, (eq_true c5), if_true, if_false, not_true_eq_false, not_false_eq_true, and_self, true_and, and_true, false_and, and_false, or_true, true_or, or_false, false_or, reduceCtorEq, ne_eq, va_us, pk_us]); (try rfl); done))
set_option maxRecDepth 100000 in
set_option maxHeartbeats 4000000 in
theorem kX2_isLike (G : GG) (l : Launch) (w : WM) (o va n : Nat) (so : Int32) (f : Nat → Int32) (hO : w o = some (.inr (4, [.int so, .ref va]))) (hV : w va = some (.inl (gA G 0, n, .inl f))) (o2 va2 n2 : Nat) (so2 : Int32) (f2 : Nat → Int32) (hO2 : w o2 = some (.inr (4, [.int so2, .ref va2]))) (hV2 : w va2 = some (.inl (gA G 0, n2, .inl f2))) : MC G l yX2_isLike cX2_isLike 2 ((Option.some .boolean)) ({ frames := 1, cells := 0, slots := 0, locals := 21 } : Room) [.ref o, .ref o2] w (fun v w' => v = some (.int (bI ((it_of so so2 || it_of so2 so) = true))) ∧ w' = w) := by
  refine mc_bool (by decide) (Nat.le_of_ble_eq_true rfl) rfl rfl ?_
  intro p e s m args below meth c A H0 Q X hnm RTN
  have X : Cx G p s m args meth c A H0 cX2_isLike 2 RX2 := X
  refine aw_aload_n X dX2_isLike_0 rfl rfl ?_
  refine aw_aload_n X dX2_isLike_1 rfl rfl ?_
  refine aw_get X okX2 (k := 0) hO2 (Nat.le_of_ble_eq_true rfl) fl_X2_9 (Or.inl rfl) rfl dX2_isLike_2 ?_
  refine aw_callV X (kX2_isOf _ _ _ o _ _ _ _ hO hV _) okm_X2_isOf okX2 hO ml_X2_19 im_X2_isOf se_X2_X2_isOf rfl rfl (Nat.le_of_ble_eq_true rfl) ⟨Nat.le_of_ble_eq_true rfl, Nat.le_of_ble_eq_true rfl, Nat.le_of_ble_eq_true rfl, Nat.le_of_ble_eq_true rfl⟩ dX2_isLike_5 (fun v w2 hp => ?_)
  obtain ⟨rfl, rfl⟩ := hp
  refine aw_if_ne (tgt := 22) X dX2_isLike_8 rfl (fun c8 => ?_) (fun c8 => ?_)
  · rw [bI_n0] at c8
    refine aw_iconst X dX2_isLike_22 ci_1 ?_
    refine aw_goto (tgt := 27) X dX2_isLike_23 rfl ?_
    refine RTN (some (.int _)) _ _ _ _ _ dX2_isLike_27 (by first | exact Or.inl rfl | exact Or.inr rfl) (Nat.le_of_ble_eq_true rfl) (Nat.le_of_ble_eq_true rfl) ?_
    exact ⟨by rw [bI_b]; simp [b2, c8], rfl⟩
  · rw [bI_0] at c8
    refine aw_aload_n X dX2_isLike_11 rfl rfl ?_
    refine aw_aload_n X dX2_isLike_12 rfl rfl ?_
    refine aw_get X okX2 (k := 0) hO (Nat.le_of_ble_eq_true rfl) fl_X2_9 (Or.inl rfl) rfl dX2_isLike_13 ?_
    refine aw_callV X (kX2_isOf _ _ _ o2 _ _ _ _ hO2 hV2 _) okm_X2_isOf okX2 hO2 ml_X2_19 im_X2_isOf se_X2_X2_isOf rfl rfl (Nat.le_of_ble_eq_true rfl) ⟨Nat.le_of_ble_eq_true rfl, Nat.le_of_ble_eq_true rfl, Nat.le_of_ble_eq_true rfl, Nat.le_of_ble_eq_true rfl⟩ dX2_isLike_16 (fun v w2 hp => ?_)
    obtain ⟨rfl, rfl⟩ := hp
    refine aw_if_eq (tgt := 26) X dX2_isLike_19 rfl (fun c19 => ?_) (fun c19 => ?_)
    · rw [bI_0] at c19
      refine aw_iconst X dX2_isLike_26 ci_0 ?_
      refine RTN (some (.int _)) _ _ _ _ _ dX2_isLike_27 (by first | exact Or.inl rfl | exact Or.inr rfl) (Nat.le_of_ble_eq_true rfl) (Nat.le_of_ble_eq_true rfl) ?_
      exact ⟨by rw [bI_b]; simp [b2, c8, c19], rfl⟩
    · rw [bI_n0] at c19
      refine aw_iconst X dX2_isLike_22 ci_1 ?_
      refine aw_goto (tgt := 27) X dX2_isLike_23 rfl ?_
      refine RTN (some (.int _)) _ _ _ _ _ dX2_isLike_27 (by first | exact Or.inl rfl | exact Or.inr rfl) (Nat.le_of_ble_eq_true rfl) (Nat.le_of_ble_eq_true rfl) ?_
      exact ⟨by rw [bI_b]; simp [b2, c8, c19], rfl⟩
def it_fault (so : Int32) (n : Nat) (sort k : Int32) : Int32 := if it_of so sort then (if it_has n k then 0 else 3) else 2
set_option maxRecDepth 100000 in
set_option maxHeartbeats 4000000 in
theorem kX10_faultAt0 (G : GG) (l : Launch) (w : WM) (sort k : Int32) : MC G l yX10_faultAt cX10_faultAt 3 ((Option.some .int)) ({ frames := 1, cells := 0, slots := 0, locals := 21 } : Room) [.null, .int sort, .int k] w (fun v w' => v = some (.int 1) ∧ w' = w) := by
  refine mc_int (by decide) (Nat.le_of_ble_eq_true rfl) rfl rfl ?_
  intro p e s m args below meth c A H0 Q X hnm RTN
  have X : Cx G p s m args meth c A H0 cX10_faultAt 3 RX10 := X
  refine aw_aload_nN X dX10_faultAt_0 rfl rfl ?_
  refine aw_ifnonnullN X dX10_faultAt_1 ?_
  refine aw_iconst X dX10_faultAt_4 ci_1 ?_
  refine RTN (some (.int _)) _ _ _ _ _ dX10_faultAt_5 (⟨_, rfl⟩) (Nat.le_of_ble_eq_true rfl) (Nat.le_of_ble_eq_true rfl) ?_
  exact ⟨rfl, rfl⟩
set_option maxRecDepth 100000 in
set_option maxHeartbeats 4000000 in
theorem kX10_faultAt (G : GG) (l : Launch) (w : WM) (o va n : Nat) (so : Int32) (f : Nat → Int32) (hO : w o = some (.inr (4, [.int so, .ref va]))) (hV : w va = some (.inl (gA G 0, n, .inl f))) (sort k : Int32) : MC G l yX10_faultAt cX10_faultAt 3 ((Option.some .int)) ({ frames := 1, cells := 0, slots := 0, locals := 21 } : Room) [.ref o, .int sort, .int k] w (fun v w' => v = some (.int (it_fault so n sort k)) ∧ w' = w) := by
  refine mc_int (by decide) (Nat.le_of_ble_eq_true rfl) rfl rfl ?_
  intro p e s m args below meth c A H0 Q X hnm RTN
  have X : Cx G p s m args meth c A H0 cX10_faultAt 3 RX10 := X
  refine aw_aload_n X dX10_faultAt_0 rfl rfl ?_
  refine aw_ifnonnull (tgt := 6) X dX10_faultAt_1 rfl ?_
  refine aw_aload_n X dX10_faultAt_6 rfl rfl ?_
  refine aw_iload_n X dX10_faultAt_7 rfl rfl ?_
  refine aw_callV X (kX2_isOf _ _ _ o _ _ _ _ hO hV _) okm_X2_isOf okX2 hO ml_X10_100 im_X2_isOf se_X2_X2_isOf rfl rfl (Nat.le_of_ble_eq_true rfl) ⟨Nat.le_of_ble_eq_true rfl, Nat.le_of_ble_eq_true rfl, Nat.le_of_ble_eq_true rfl, Nat.le_of_ble_eq_true rfl⟩ dX10_faultAt_8 (fun v w2 hp => ?_)
  obtain ⟨rfl, rfl⟩ := hp
  refine aw_if_ne (tgt := 16) X dX10_faultAt_11 rfl (fun c11 => ?_) (fun c11 => ?_)
  · rw [bI_n0] at c11
    refine aw_aload_n X dX10_faultAt_16 rfl rfl ?_
    refine aw_iload_n X dX10_faultAt_17 rfl rfl ?_
    refine aw_callV X (kX2_hasItem _ _ _ o _ _ _ _ hO hV _) okm_X2_hasItem okX2 hO ml_X10_103 im_X2_hasItem se_X2_X2_hasItem rfl rfl (Nat.le_of_ble_eq_true rfl) ⟨Nat.le_of_ble_eq_true rfl, Nat.le_of_ble_eq_true rfl, Nat.le_of_ble_eq_true rfl, Nat.le_of_ble_eq_true rfl⟩ dX10_faultAt_18 (fun v w2 hp => ?_)
    obtain ⟨rfl, rfl⟩ := hp
    refine aw_if_eq (tgt := 28) X dX10_faultAt_21 rfl (fun c21 => ?_) (fun c21 => ?_)
    · rw [bI_0] at c21
      refine aw_iconst X dX10_faultAt_28 ci_3 ?_
      refine RTN (some (.int _)) _ _ _ _ _ dX10_faultAt_29 (⟨_, rfl⟩) (Nat.le_of_ble_eq_true rfl) (Nat.le_of_ble_eq_true rfl) ?_
      first | (constructor <;> ((try simp only [it_fault, c11, c21, if_true, if_false, not_true_eq_false, not_false_eq_true, and_self, true_and, and_true, false_and, and_false, or_true, true_or, or_false, false_or, reduceCtorEq, ne_eq, va_us, pk_us]); (try with_reducible rfl); done)) | (clear RTN X; constructor <;> ((try simp_all only [it_fault, if_true, if_false, not_true_eq_false, not_false_eq_true, and_self, true_and, and_true, false_and, and_false, or_true, true_or, or_false, false_or, reduceCtorEq, ne_eq, va_us, pk_us]); (try with_reducible rfl); done)) | (constructor <;> ((try simp only [it_fault, c11, c21, if_true, if_false, not_true_eq_false, not_false_eq_true, and_self, true_and, and_true, false_and, and_false, or_true, true_or, or_false, false_or, reduceCtorEq, ne_eq, va_us, pk_us]); (try rfl); done))
    · rw [bI_n0] at c21
      refine aw_iconst X dX10_faultAt_24 ci_0 ?_
      refine aw_goto (tgt := 29) X dX10_faultAt_25 rfl ?_
      refine RTN (some (.int _)) _ _ _ _ _ dX10_faultAt_29 (⟨_, rfl⟩) (Nat.le_of_ble_eq_true rfl) (Nat.le_of_ble_eq_true rfl) ?_
      first | (constructor <;> ((try simp only [it_fault, c11, c21, if_true, if_false, not_true_eq_false, not_false_eq_true, and_self, true_and, and_true, false_and, and_false, or_true, true_or, or_false, false_or, reduceCtorEq, ne_eq, va_us, pk_us]); (try with_reducible rfl); done)) | (clear RTN X; constructor <;> ((try simp_all only [it_fault, if_true, if_false, not_true_eq_false, not_false_eq_true, and_self, true_and, and_true, false_and, and_false, or_true, true_or, or_false, false_or, reduceCtorEq, ne_eq, va_us, pk_us]); (try with_reducible rfl); done)) | (constructor <;> ((try simp only [it_fault, c11, c21, if_true, if_false, not_true_eq_false, not_false_eq_true, and_self, true_and, and_true, false_and, and_false, or_true, true_or, or_false, false_or, reduceCtorEq, ne_eq, va_us, pk_us]); (try rfl); done))
  · rw [bI_0] at c11
    refine aw_iconst X dX10_faultAt_14 ci_2 ?_
    refine RTN (some (.int _)) _ _ _ _ _ dX10_faultAt_15 (⟨_, rfl⟩) (Nat.le_of_ble_eq_true rfl) (Nat.le_of_ble_eq_true rfl) ?_
    first | (constructor <;> ((try simp only [it_fault, c11, if_true, if_false, not_true_eq_false, not_false_eq_true, and_self, true_and, and_true, false_and, and_false, or_true, true_or, or_false, false_or, reduceCtorEq, ne_eq, va_us, pk_us]); (try with_reducible rfl); done)) | (clear RTN X; constructor <;> ((try simp_all only [it_fault, if_true, if_false, not_true_eq_false, not_false_eq_true, and_self, true_and, and_true, false_and, and_false, or_true, true_or, or_false, false_or, reduceCtorEq, ne_eq, va_us, pk_us]); (try with_reducible rfl); done)) | (constructor <;> ((try simp only [it_fault, c11, if_true, if_false, not_true_eq_false, not_false_eq_true, and_self, true_and, and_true, false_and, and_false, or_true, true_or, or_false, false_or, reduceCtorEq, ne_eq, va_us, pk_us]); (try rfl); done))
