def ch_tell (M : MS) (e : Int32) : MS := if M.1 4 < 8 then sI (sF M 6 (M.1 4).toNatClampNeg e) 4 (M.1 4 + 1) else sI M 5 (M.1 5 + 1)
theorem lt8_vp {x : Int32} (h : bt x 0 8) (h8 : x < 8) : vp_in x 8 := by
  have h1 := bt_iff.mp h
  rw [i32_lt] at h8
  have e8 : (8 : Int32).toInt = 8 := rfl
  exact vp_in_iff.mpr ⟨by omega, by omega⟩
theorem tell_bt {M : MS} {e : Int32} (h : bt (M.1 4) 0 8) : bt ((ch_tell M e).1 4) 0 8 := by
  unfold ch_tell
  split
  · rename_i h0
    have h1 := bt_iff.mp h
    rw [i32_lt] at h0
    have e8 : (8 : Int32).toInt = 8 := rfl
    have h3 := ti_add (a := M.1 4) (b := 1) (y := 1) rfl rfl (by omega)
    show bt (M.1 4 + 1) 0 8 = true
    exact bt_iff.mpr ⟨by omega, by omega⟩
  · exact h
def ch_tm (M : MS) : MS :=
  if M.1 1 ≤ 0 then sI M 0 (M.1 0 + 1)
  else if 0 < M.1 2 - 1 then sI (sI M 0 (M.1 0 + 1)) 2 (M.1 2 - 1)
  else ch_tell (sI (sI (sI M 0 (M.1 0 + 1)) 2 (M.1 2 - 1)) 2 (M.1 1)) 1
def ch_lf (M : MS) (c : Int32) : MS :=
  if M.2.2 3 c.toNatClampNeg ≤ 0 then M
  else if (sF M 3 c.toNatClampNeg (M.2.2 3 c.toNatClampNeg - 1)).2.2 3 c.toNatClampNeg = 0 then ch_tell (sF M 3 c.toNatClampNeg (M.2.2 3 c.toNatClampNeg - 1)) (2 + c)
  else sF M 3 c.toNatClampNeg (M.2.2 3 c.toNatClampNeg - 1)
def ch_pass (M : MS) : MS := ch_lf (ch_lf (ch_tm M) 0) 1
theorem ctm_bt {M : MS} (h : bt (M.1 4) 0 8) : bt ((ch_tm M).1 4) 0 8 := by
  unfold ch_tm
  split
  · exact h
  · split
    · exact h
    · exact tell_bt h
theorem clf_bt {M : MS} {c : Int32} (h : bt (M.1 4) 0 8) : bt ((ch_lf M c).1 4) 0 8 := by
  unfold ch_lf
  split
  · exact h
  · split
    · exact tell_bt h
    · exact h
def ch_sh (M : MS) : Nat → MS
  | 0 => M
  | j + 1 => sF (ch_sh M j) 6 (nI j).toNatClampNeg ((ch_sh M j).2.2 6 (nI j + 1).toNatClampNeg)
theorem csh_1 (M : MS) : ∀ j, (ch_sh M j).1 = M.1
  | 0 => rfl
  | j + 1 => csh_1 M j
def ch_take (M : MS) : Int32 × MS := if M.1 4 = 0 then (0, M) else (M.2.2 6 (0 : Int32).toNatClampNeg, ch_sh (sI M 4 (M.1 4 - 1)) (M.1 4 - 1).toNatClampNeg)
set_option maxRecDepth 100000 in
set_option maxHeartbeats 4000000 in
theorem kX0_tell (G : GG) (l : Launch) (q : Nat → Nat) (M : MS) (hq : ahInj q) (e1 : Int32) (he : bt (M.1 4) 0 8) : MC G l yX0_tell cX0_tell 2 (none) ({ frames := 0, cells := 0, slots := 0, locals := 0 } : Room) [.ref (q 99), .int e1] (chw G q M) (fun v w' => v = none ∧ w' = chw G q (ch_tell M e1)) := by
  refine mc_void (by decide) (Nat.le_of_ble_eq_true rfl) rfl rfl ?_
  intro p e s m args below meth c A H0 Q X hnm RTN
  have X : Cx G p s m args meth c A H0 cX0_tell 2 RX0 := X
  refine aw_aload_n X dX0_tell_0 rfl rfl ?_
  refine ah_get X 4 (v := .int (M.1 4)) (Nat.le_of_ble_eq_true rfl) fl_X0_32 rfl rfl dX0_tell_1 ?_
  refine aw_bipush X dX0_tell_4 cb_8 ?_
  refine aw_icmp_lt (tgt := 20) X dX0_tell_6 rfl (fun c6 => ?_) (fun c6 => ?_)
  · refine aw_aload_n X dX0_tell_20 rfl rfl ?_
    refine ah_get X 6 (Nat.le_of_ble_eq_true rfl) fl_X0_15 rfl rfl dX0_tell_21 ?_
    refine aw_aload_n X dX0_tell_24 rfl rfl ?_
    refine ah_get X 4 (v := .int (M.1 4)) (Nat.le_of_ble_eq_true rfl) fl_X0_32 rfl rfl dX0_tell_25 ?_
    refine aw_iload_n X dX0_tell_28 rfl rfl ?_
    refine ah_ast X 6 _ hq (by decide) rfl rfl (lt8_vp he c6) dX0_tell_29 ?_
    refine aw_aload_n X dX0_tell_30 rfl rfl ?_
    refine aw_dup X dX0_tell_31 rfl ?_
    refine ah_get X 4 (v := .int (M.1 4)) (Nat.le_of_ble_eq_true rfl) fl_X0_32 rfl rfl dX0_tell_32 ?_
    refine aw_iconst X dX0_tell_35 ci_1 ?_
    refine aw_iadd X dX0_tell_36 ?_
    refine ah_put X 4 (M' := sI _ 4 _) (Nat.le_of_ble_eq_true rfl) fl_X0_32 rfl rfl (rfl) (rfl) (chf_4 _ _ _) rfl dX0_tell_37 ?_
    refine RTN (none) _ _ _ _ _ dX0_tell_40 (rfl) (Nat.le_of_ble_eq_true rfl) (Nat.le_of_ble_eq_true rfl) ?_
    first | (constructor <;> ((try simp only [ch_tell, c6, if_true, if_false, not_true_eq_false, not_false_eq_true, and_self, true_and, and_true, false_and, and_false, or_true, true_or, or_false, false_or, reduceCtorEq, ne_eq, va_us, pk_us]); (try with_reducible rfl); done)) | (clear RTN X; constructor <;> ((try simp_all only [ch_tell, if_true, if_false, not_true_eq_false, not_false_eq_true, and_self, true_and, and_true, false_and, and_false, or_true, true_or, or_false, false_or, reduceCtorEq, ne_eq, va_us, pk_us]); (try with_reducible rfl); done)) | (constructor <;> ((try simp only [ch_tell, c6, if_true, if_false, not_true_eq_false, not_false_eq_true, and_self, true_and, and_true, false_and, and_false, or_true, true_or, or_false, false_or, reduceCtorEq, ne_eq, va_us, pk_us]); (try rfl); done))
  · refine aw_aload_n X dX0_tell_9 rfl rfl ?_
    refine aw_dup X dX0_tell_10 rfl ?_
    refine ah_get X 5 (v := .int (M.1 5)) (Nat.le_of_ble_eq_true rfl) fl_X0_35 rfl rfl dX0_tell_11 ?_
    refine aw_iconst X dX0_tell_14 ci_1 ?_
    refine aw_iadd X dX0_tell_15 ?_
    refine ah_put X 5 (M' := sI _ 5 _) (Nat.le_of_ble_eq_true rfl) fl_X0_35 rfl rfl (rfl) (rfl) (chf_5 _ _ _) rfl dX0_tell_16 ?_
    refine RTN (none) _ _ _ _ _ dX0_tell_19 (rfl) (Nat.le_of_ble_eq_true rfl) (Nat.le_of_ble_eq_true rfl) ?_
    first | (constructor <;> ((try simp only [ch_tell, c6, if_true, if_false, not_true_eq_false, not_false_eq_true, and_self, true_and, and_true, false_and, and_false, or_true, true_or, or_false, false_or, reduceCtorEq, ne_eq, va_us, pk_us]); (try with_reducible rfl); done)) | (clear RTN X; constructor <;> ((try simp_all only [ch_tell, if_true, if_false, not_true_eq_false, not_false_eq_true, and_self, true_and, and_true, false_and, and_false, or_true, true_or, or_false, false_or, reduceCtorEq, ne_eq, va_us, pk_us]); (try with_reducible rfl); done)) | (constructor <;> ((try simp only [ch_tell, c6, if_true, if_false, not_true_eq_false, not_false_eq_true, and_self, true_and, and_true, false_and, and_false, or_true, true_or, or_false, false_or, reduceCtorEq, ne_eq, va_us, pk_us]); (try rfl); done))
set_option maxRecDepth 100000 in
set_option maxHeartbeats 4000000 in
theorem kX0_passTick (G : GG) (l : Launch) (q : Nat → Nat) (M : MS) (hq : ahInj q) (he : bt (M.1 4) 0 8) : MC G l yX0_passTick cX0_passTick 2 (none) ({ frames := 1, cells := 0, slots := 0, locals := 21 } : Room) [.ref (q 99)] (chw G q M) (fun v w' => v = none ∧ w' = chw G q (ch_pass M)) := by
  refine mc_void (by decide) (Nat.le_of_ble_eq_true rfl) rfl rfl ?_
  intro p e s m args below meth c A H0 Q X hnm RTN
  have X : Cx G p s m args meth c A H0 cX0_passTick 2 RX0 := X
  have J2 : ∀ (N2 : MS), N2 = ch_lf (ch_lf (ch_tm M) 0) 1 → AW G p l e ({ frames := 1, cells := 0, slots := 0, locals := 21 } : Room) s m args below meth c 2 A H0 Q (chw G q N2) 0 0 95 [(1, .int 2), (0, .ref (q 99))] [] := by
    intro N2 hN2
    have hb2 : bt (N2.1 4) 0 8 := by rw [hN2]; exact clf_bt (clf_bt (ctm_bt he))
    refine RTN (none) _ _ _ _ _ dX0_passTick_95 (rfl) (Nat.le_of_ble_eq_true rfl) (Nat.le_of_ble_eq_true rfl) ?_
    rw [hN2]; exact ⟨rfl, rfl⟩
  have J1 : ∀ (N2 : MS), N2 = ch_lf (ch_tm M) 0 → AW G p l e ({ frames := 1, cells := 0, slots := 0, locals := 21 } : Room) s m args below meth c 2 A H0 Q (chw G q N2) 0 0 49 [(1, .int 1), (0, .ref (q 99))] [] := by
    intro N2 hN2
    have hb2 : bt (N2.1 4) 0 8 := by rw [hN2]; exact clf_bt (ctm_bt he)
    refine aw_iload_n X dX0_passTick_49 rfl rfl ?_
    refine aw_iconst X dX0_passTick_50 ci_2 ?_
    refine aw_icmp_ge (tgt := 95) X dX0_passTick_51 rfl (fun c51 => ?_) (fun c51 => ?_)
    · exact absurd c51 (by decide)
    · refine aw_aload_n X dX0_passTick_54 rfl rfl ?_
      refine ah_get X 3 (Nat.le_of_ble_eq_true rfl) fl_X0_9 rfl rfl dX0_passTick_55 ?_
      refine aw_iload_n X dX0_passTick_58 rfl rfl ?_
      refine ah_ald X 3 _ (N2.2.2 3) hq (by decide) rfl rfl rfl (vp_in_nI (n := 1) (N := 2) (by decide) (by decide)) dX0_passTick_59 ?_
      refine aw_if_le (tgt := 89) X dX0_passTick_60 rfl (fun c60 => ?_) (fun c60 => ?_)
      · refine aw_iinc (v := 2) (lv' := [(1, _), (0, _)]) X dX0_passTick_89 rfl (by decide) (by decide) rfl ?_
        refine aw_goto (tgt := 49) X dX0_passTick_92 rfl ?_
        refine aw_iload_n X dX0_passTick_49 rfl rfl ?_
        refine aw_iconst X dX0_passTick_50 ci_2 ?_
        refine aw_icmp_ge (tgt := 95) X dX0_passTick_51 rfl (fun c51 => ?_) (fun c51 => ?_)
        · refine aw_lv [0, 1] rfl ?_
          refine J2 _ ?_
          rw [← hN2]; unfold ch_lf; rw [if_pos c60]
        · exact absurd c51 (by decide)
      · refine aw_aload_n X dX0_passTick_63 rfl rfl ?_
        refine ah_get X 3 (Nat.le_of_ble_eq_true rfl) fl_X0_9 rfl rfl dX0_passTick_64 ?_
        refine aw_iload_n X dX0_passTick_67 rfl rfl ?_
        refine aw_dup2_11 X dX0_passTick_68 rfl rfl ?_
        refine ah_ald X 3 _ (N2.2.2 3) hq (by decide) rfl rfl rfl (vp_in_nI (n := 1) (N := 2) (by decide) (by decide)) dX0_passTick_69 ?_
        refine aw_iconst X dX0_passTick_70 ci_1 ?_
        refine aw_isub X dX0_passTick_71 ?_
        refine ah_ast X 3 _ hq (by decide) rfl rfl (vp_in_nI (n := 1) (N := 2) (by decide) (by decide)) dX0_passTick_72 ?_
        refine aw_aload_n X dX0_passTick_73 rfl rfl ?_
        refine ah_get X 3 (Nat.le_of_ble_eq_true rfl) fl_X0_9 rfl rfl dX0_passTick_74 ?_
        refine aw_iload_n X dX0_passTick_77 rfl rfl ?_
        refine ah_ald X 3 _ ((sF N2 3 (1 : Int32).toNatClampNeg ((N2.2.2 3 (1 : Int32).toNatClampNeg) - 1)).2.2 3) hq (by decide) rfl rfl rfl (vp_in_nI (n := 1) (N := 2) (by decide) (by decide)) dX0_passTick_78 ?_
        refine aw_if_ne (tgt := 89) X dX0_passTick_79 rfl (fun c79 => ?_) (fun c79 => ?_)
        · refine aw_iinc (v := 2) (lv' := [(1, _), (0, _)]) X dX0_passTick_89 rfl (by decide) (by decide) rfl ?_
          refine aw_goto (tgt := 49) X dX0_passTick_92 rfl ?_
          refine aw_iload_n X dX0_passTick_49 rfl rfl ?_
          refine aw_iconst X dX0_passTick_50 ci_2 ?_
          refine aw_icmp_ge (tgt := 95) X dX0_passTick_51 rfl (fun c51 => ?_) (fun c51 => ?_)
          · refine aw_lv [0, 1] rfl ?_
            refine J2 _ ?_
            rw [← hN2]; unfold ch_lf; rw [if_neg c60, if_neg c79]
          · exact absurd c51 (by decide)
        · refine aw_aload_n X dX0_passTick_82 rfl rfl ?_
          refine aw_iconst X dX0_passTick_83 ci_2 ?_
          refine aw_iload_n X dX0_passTick_84 rfl rfl ?_
          refine aw_iadd X dX0_passTick_85 ?_
          refine aw_callV X (kX0_tell _ _ _ _ hq _ hb2) okm_X0_tell okX0 chw_0 ml_X0_28 im_X0_tell se_X0_X0_tell rfl rfl (Nat.le_of_ble_eq_true rfl) ⟨Nat.le_of_ble_eq_true rfl, Nat.le_of_ble_eq_true rfl, Nat.le_of_ble_eq_true rfl, Nat.le_of_ble_eq_true rfl⟩ dX0_passTick_86 (fun v w2 hp => ?_)
          obtain ⟨rfl, rfl⟩ := hp
          refine aw_iinc (v := 2) (lv' := [(1, _), (0, _)]) X dX0_passTick_89 rfl (by decide) (by decide) rfl ?_
          refine aw_goto (tgt := 49) X dX0_passTick_92 rfl ?_
          refine aw_iload_n X dX0_passTick_49 rfl rfl ?_
          refine aw_iconst X dX0_passTick_50 ci_2 ?_
          refine aw_icmp_ge (tgt := 95) X dX0_passTick_51 rfl (fun c51 => ?_) (fun c51 => ?_)
          · refine aw_lv [0, 1] rfl ?_
            refine J2 _ ?_
            rw [← hN2]; unfold ch_lf; rw [if_neg c60, if_pos c79]
          · exact absurd c51 (by decide)
  have J0 : ∀ (N2 : MS), N2 = ch_tm M → AW G p l e ({ frames := 1, cells := 0, slots := 0, locals := 21 } : Room) s m args below meth c 2 A H0 Q (chw G q N2) 0 0 49 [(1, .int 0), (0, .ref (q 99))] [] := by
    intro N2 hN2
    have hb2 : bt (N2.1 4) 0 8 := by rw [hN2]; exact ctm_bt he
    refine aw_iload_n X dX0_passTick_49 rfl rfl ?_
    refine aw_iconst X dX0_passTick_50 ci_2 ?_
    refine aw_icmp_ge (tgt := 95) X dX0_passTick_51 rfl (fun c51 => ?_) (fun c51 => ?_)
    · exact absurd c51 (by decide)
    · refine aw_aload_n X dX0_passTick_54 rfl rfl ?_
      refine ah_get X 3 (Nat.le_of_ble_eq_true rfl) fl_X0_9 rfl rfl dX0_passTick_55 ?_
      refine aw_iload_n X dX0_passTick_58 rfl rfl ?_
      refine ah_ald X 3 _ (N2.2.2 3) hq (by decide) rfl rfl rfl (vp_in_nI (n := 0) (N := 2) (by decide) (by decide)) dX0_passTick_59 ?_
      refine aw_if_le (tgt := 89) X dX0_passTick_60 rfl (fun c60 => ?_) (fun c60 => ?_)
      · refine aw_iinc (v := 1) (lv' := [(1, _), (0, _)]) X dX0_passTick_89 rfl (by decide) (by decide) rfl ?_
        refine aw_goto (tgt := 49) X dX0_passTick_92 rfl ?_
        refine aw_lv [0, 1] rfl ?_
        refine J1 _ ?_
        rw [← hN2]; unfold ch_lf; rw [if_pos c60]
      · refine aw_aload_n X dX0_passTick_63 rfl rfl ?_
        refine ah_get X 3 (Nat.le_of_ble_eq_true rfl) fl_X0_9 rfl rfl dX0_passTick_64 ?_
        refine aw_iload_n X dX0_passTick_67 rfl rfl ?_
        refine aw_dup2_11 X dX0_passTick_68 rfl rfl ?_
        refine ah_ald X 3 _ (N2.2.2 3) hq (by decide) rfl rfl rfl (vp_in_nI (n := 0) (N := 2) (by decide) (by decide)) dX0_passTick_69 ?_
        refine aw_iconst X dX0_passTick_70 ci_1 ?_
        refine aw_isub X dX0_passTick_71 ?_
        refine ah_ast X 3 _ hq (by decide) rfl rfl (vp_in_nI (n := 0) (N := 2) (by decide) (by decide)) dX0_passTick_72 ?_
        refine aw_aload_n X dX0_passTick_73 rfl rfl ?_
        refine ah_get X 3 (Nat.le_of_ble_eq_true rfl) fl_X0_9 rfl rfl dX0_passTick_74 ?_
        refine aw_iload_n X dX0_passTick_77 rfl rfl ?_
        refine ah_ald X 3 _ ((sF N2 3 (0 : Int32).toNatClampNeg ((N2.2.2 3 (0 : Int32).toNatClampNeg) - 1)).2.2 3) hq (by decide) rfl rfl rfl (vp_in_nI (n := 0) (N := 2) (by decide) (by decide)) dX0_passTick_78 ?_
        refine aw_if_ne (tgt := 89) X dX0_passTick_79 rfl (fun c79 => ?_) (fun c79 => ?_)
        · refine aw_iinc (v := 1) (lv' := [(1, _), (0, _)]) X dX0_passTick_89 rfl (by decide) (by decide) rfl ?_
          refine aw_goto (tgt := 49) X dX0_passTick_92 rfl ?_
          refine aw_lv [0, 1] rfl ?_
          refine J1 _ ?_
          rw [← hN2]; unfold ch_lf; rw [if_neg c60, if_neg c79]
        · refine aw_aload_n X dX0_passTick_82 rfl rfl ?_
          refine aw_iconst X dX0_passTick_83 ci_2 ?_
          refine aw_iload_n X dX0_passTick_84 rfl rfl ?_
          refine aw_iadd X dX0_passTick_85 ?_
          refine aw_callV X (kX0_tell _ _ _ _ hq _ hb2) okm_X0_tell okX0 chw_0 ml_X0_28 im_X0_tell se_X0_X0_tell rfl rfl (Nat.le_of_ble_eq_true rfl) ⟨Nat.le_of_ble_eq_true rfl, Nat.le_of_ble_eq_true rfl, Nat.le_of_ble_eq_true rfl, Nat.le_of_ble_eq_true rfl⟩ dX0_passTick_86 (fun v w2 hp => ?_)
          obtain ⟨rfl, rfl⟩ := hp
          refine aw_iinc (v := 1) (lv' := [(1, _), (0, _)]) X dX0_passTick_89 rfl (by decide) (by decide) rfl ?_
          refine aw_goto (tgt := 49) X dX0_passTick_92 rfl ?_
          refine aw_lv [0, 1] rfl ?_
          refine J1 _ ?_
          rw [← hN2]; unfold ch_lf; rw [if_neg c60, if_pos c79]
  refine aw_aload_n X dX0_passTick_0 rfl rfl ?_
  refine aw_dup X dX0_passTick_1 rfl ?_
  refine ah_get X 0 (v := .int (M.1 0)) (Nat.le_of_ble_eq_true rfl) fl_X0_18 rfl rfl dX0_passTick_2 ?_
  refine aw_iconst X dX0_passTick_5 ci_1 ?_
  refine aw_iadd X dX0_passTick_6 ?_
  refine ah_put X 0 (M' := sI _ 0 _) (Nat.le_of_ble_eq_true rfl) fl_X0_18 rfl rfl (rfl) (rfl) (chf_0 _ _ _) rfl dX0_passTick_7 ?_
  refine aw_aload_n X dX0_passTick_10 rfl rfl ?_
  refine ah_get X 1 (v := .int (M.1 1)) (Nat.le_of_ble_eq_true rfl) fl_X0_22 rfl rfl dX0_passTick_11 ?_
  refine aw_if_le (tgt := 47) X dX0_passTick_14 rfl (fun c14 => ?_) (fun c14 => ?_)
  · refine aw_iconst X dX0_passTick_47 ci_0 ?_
    refine aw_istore_n (lv' := [(1, _), (0, _)]) X dX0_passTick_48 rfl (by decide) rfl ?_
    refine aw_lv [0, 1] rfl ?_
    refine J0 _ ?_
    unfold ch_tm; rw [if_pos c14]
  · refine aw_aload_n X dX0_passTick_17 rfl rfl ?_
    refine aw_dup X dX0_passTick_18 rfl ?_
    refine ah_get X 2 (v := .int (M.1 2)) (Nat.le_of_ble_eq_true rfl) fl_X0_25 rfl rfl dX0_passTick_19 ?_
    refine aw_iconst X dX0_passTick_22 ci_1 ?_
    refine aw_isub X dX0_passTick_23 ?_
    refine ah_put X 2 (M' := sI _ 2 _) (Nat.le_of_ble_eq_true rfl) fl_X0_25 rfl rfl (rfl) (rfl) (chf_2 _ _ _) rfl dX0_passTick_24 ?_
    refine aw_aload_n X dX0_passTick_27 rfl rfl ?_
    refine ah_get X 2 (v := .int ((M.1 2) - 1)) (Nat.le_of_ble_eq_true rfl) fl_X0_25 rfl rfl dX0_passTick_28 ?_
    refine aw_if_gt (tgt := 47) X dX0_passTick_31 rfl (fun c31 => ?_) (fun c31 => ?_)
    · refine aw_iconst X dX0_passTick_47 ci_0 ?_
      refine aw_istore_n (lv' := [(1, _), (0, _)]) X dX0_passTick_48 rfl (by decide) rfl ?_
      refine aw_lv [0, 1] rfl ?_
      refine J0 _ ?_
      unfold ch_tm; rw [if_neg c14, if_pos c31]
    · refine aw_aload_n X dX0_passTick_34 rfl rfl ?_
      refine aw_aload_n X dX0_passTick_35 rfl rfl ?_
      refine ah_get X 1 (v := .int (M.1 1)) (Nat.le_of_ble_eq_true rfl) fl_X0_22 rfl rfl dX0_passTick_36 ?_
      refine ah_put X 2 (M' := sI _ 2 _) (Nat.le_of_ble_eq_true rfl) fl_X0_25 rfl rfl (rfl) (rfl) (chf_2 _ _ _) rfl dX0_passTick_39 ?_
      refine aw_aload_n X dX0_passTick_42 rfl rfl ?_
      refine aw_iconst X dX0_passTick_43 ci_1 ?_
      refine aw_callV X (kX0_tell _ _ _ _ hq _ he) okm_X0_tell okX0 chw_0 ml_X0_28 im_X0_tell se_X0_X0_tell rfl rfl (Nat.le_of_ble_eq_true rfl) ⟨Nat.le_of_ble_eq_true rfl, Nat.le_of_ble_eq_true rfl, Nat.le_of_ble_eq_true rfl, Nat.le_of_ble_eq_true rfl⟩ dX0_passTick_44 (fun v w2 hp => ?_)
      obtain ⟨rfl, rfl⟩ := hp
      refine aw_iconst X dX0_passTick_47 ci_0 ?_
      refine aw_istore_n (lv' := [(1, _), (0, _)]) X dX0_passTick_48 rfl (by decide) rfl ?_
      refine aw_lv [0, 1] rfl ?_
      refine J0 _ ?_
      unfold ch_tm; rw [if_neg c14, if_neg c31]
set_option maxRecDepth 100000 in
set_option maxHeartbeats 4000000 in
theorem kX0_takeEldest (G : GG) (l : Launch) (q : Nat → Nat) (M : MS) (hq : ahInj q) (he : bt (M.1 4) 0 8) : MC G l yX0_takeEldest cX0_takeEldest 3 ((Option.some .int)) ({ frames := 0, cells := 0, slots := 0, locals := 0 } : Room) [.ref (q 99)] (chw G q M) (fun v w' => v = some (.int (ch_take M).1) ∧ w' = chw G q (ch_take M).2) := by
  refine mc_int (by decide) (Nat.le_of_ble_eq_true rfl) rfl rfl ?_
  intro p e s m args below meth c A H0 Q X hnm RTN
  have X : Cx G p s m args meth c A H0 cX0_takeEldest 3 RX0 := X
  refine aw_aload_n X dX0_takeEldest_0 rfl rfl ?_
  refine ah_get X 4 (v := .int (M.1 4)) (Nat.le_of_ble_eq_true rfl) fl_X0_32 rfl rfl dX0_takeEldest_1 ?_
  refine aw_if_ne (tgt := 9) X dX0_takeEldest_4 rfl (fun c4 => ?_) (fun c4 => ?_)
  · refine aw_aload_n X dX0_takeEldest_9 rfl rfl ?_
    refine ah_get X 6 (Nat.le_of_ble_eq_true rfl) fl_X0_15 rfl rfl dX0_takeEldest_10 ?_
    refine aw_iconst X dX0_takeEldest_13 ci_0 ?_
    refine ah_ald X 6 _ (M.2.2 6) hq (by decide) rfl rfl rfl (vp_in_nI (n := 0) (N := 8) (by decide) (by decide)) dX0_takeEldest_14 ?_
    refine aw_istore_n (lv' := [(1, _), (0, _)]) X dX0_takeEldest_15 rfl (by decide) rfl ?_
    refine aw_aload_n X dX0_takeEldest_16 rfl rfl ?_
    refine aw_dup X dX0_takeEldest_17 rfl ?_
    refine ah_get X 4 (v := .int (M.1 4)) (Nat.le_of_ble_eq_true rfl) fl_X0_32 rfl rfl dX0_takeEldest_18 ?_
    refine aw_iconst X dX0_takeEldest_21 ci_1 ?_
    refine aw_isub X dX0_takeEldest_22 ?_
    refine ah_put X 4 (M' := sI _ 4 _) (Nat.le_of_ble_eq_true rfl) fl_X0_32 rfl rfl (rfl) (rfl) (chf_4 _ _ _) rfl dX0_takeEldest_23 ?_
    refine aw_iconst X dX0_takeEldest_26 ci_0 ?_
    refine aw_istore_n (lv' := [(2, _), (1, _), (0, _)]) X dX0_takeEldest_27 rfl (by decide) rfl ?_
    obtain ⟨N, hN, hNe, _⟩ := bt_nat (hi := 8) he
    have hN0 : N ≠ 0 := fun z => c4 (by rw [hNe, z]; rfl)
    have hN1 : M.1 4 - 1 = nI (N - 1) := by rw [hNe, show N = (N - 1) + 1 by omega]; exact nI_pred _
    have L : ∀ (nn : Nat) (i : Nat) (x : Int32), (x = nI i) → (i ≤ N - 1) → (N ≤ i + nn) → AW G p l e ({ frames := 0, cells := 0, slots := 0, locals := 0 } : Room) s m args below meth c 3 A H0 Q (chw G q (ch_sh (sI M 4 (M.1 4 - 1)) i)) 0 0 28 [(2, .int x), (1, .int (M.2.2 6 (0 : Int32).toNatClampNeg)), (0, .ref (q 99))] [] := by
      intro nn
      induction nn with
      | zero => intro i x hx h1 h2; exact absurd h2 (by omega)
      | succ nn ih =>
        intro i x hx h1 h2
        subst hx
        refine aw_iload_n X dX0_takeEldest_28 rfl rfl ?_
        refine aw_aload_n X dX0_takeEldest_29 rfl rfl ?_
        refine ah_get X 4 (v := .int ((ch_sh (sI M 4 (M.1 4 - 1)) i).1 4)) (Nat.le_of_ble_eq_true rfl) fl_X0_32 rfl rfl dX0_takeEldest_30 ?_
        refine aw_icmp_ge (tgt := 56) X dX0_takeEldest_33 rfl (fun c33 => ?_) (fun c33 => ?_)
        · have c33 : nI (N - 1) ≤ nI i := by rw [← hN1]; rw [csh_1] at c33; exact c33
          have h9 : i = N - 1 := by have := (nI_leI (a := N - 1) (b := i) (by omega) (by omega)).mp c33; omega
          refine aw_iload_n X dX0_takeEldest_56 rfl rfl ?_
          refine RTN (some (.int _)) _ _ _ _ _ dX0_takeEldest_57 (⟨_, rfl⟩) (Nat.le_of_ble_eq_true rfl) (Nat.le_of_ble_eq_true rfl) ?_
          have hk : (M.1 4 - 1).toNatClampNeg = i := by rw [hN1, nI_clamp (by omega), h9]
          constructor <;> simp only [ch_take, c4, if_false, hk]
        · have c33 : ¬ nI (N - 1) ≤ nI i := by rw [← hN1]; rw [csh_1] at c33; exact c33
          have h9 : i < N - 1 := Nat.lt_of_not_le (fun h => c33 ((nI_leI (a := N - 1) (b := i) (by omega) (by omega)).mpr h))
          refine aw_aload_n X dX0_takeEldest_36 rfl rfl ?_
          refine ah_get X 6 (Nat.le_of_ble_eq_true rfl) fl_X0_15 rfl rfl dX0_takeEldest_37 ?_
          refine aw_iload_n X dX0_takeEldest_40 rfl rfl ?_
          refine aw_aload_n X dX0_takeEldest_41 rfl rfl ?_
          refine ah_get X 6 (Nat.le_of_ble_eq_true rfl) fl_X0_15 rfl rfl dX0_takeEldest_42 ?_
          refine aw_iload_n X dX0_takeEldest_45 rfl rfl ?_
          refine aw_iconst X dX0_takeEldest_46 ci_1 ?_
          refine aw_iadd X dX0_takeEldest_47 ?_
          refine ah_ald X 6 _ ((ch_sh (sI M 4 (M.1 4 - 1)) i).2.2 6) hq (by decide) rfl rfl rfl (by rw [nI_1]; exact vp_in_nI (N := 8) (by omega) (by decide)) dX0_takeEldest_48 ?_
          refine ah_ast X 6 _ hq (by decide) rfl rfl (vp_in_nI (N := 8) (by omega) (by decide)) dX0_takeEldest_49 ?_
          refine aw_iinc (lv' := [(2, _), (1, _), (0, _)]) X dX0_takeEldest_50 rfl (iinc_1 _) (by decide) rfl ?_
          refine aw_goto (tgt := 28) X dX0_takeEldest_53 rfl ?_
          refine aw_lv [0, 1, 2] rfl ?_
          exact ih (i + 1) _ (nI_1 i) (by omega) (by omega)
    refine aw_lv [0, 1, 2] rfl ?_
    exact L N 0 _ rfl (by omega) (by omega)
  · refine aw_iconst X dX0_takeEldest_7 ci_0 ?_
    refine RTN (some (.int _)) _ _ _ _ _ dX0_takeEldest_8 (⟨_, rfl⟩) (Nat.le_of_ble_eq_true rfl) (Nat.le_of_ble_eq_true rfl) ?_
    first | (constructor <;> ((try simp only [ch_take, (eq_true c4), if_true, if_false, not_true_eq_false, not_false_eq_true, and_self, true_and, and_true, false_and, and_false, or_true, true_or, or_false, false_or, reduceCtorEq, ne_eq, va_us, pk_us]); (try with_reducible rfl); done)) | (clear RTN X; constructor <;> ((try simp_all only [ch_take, if_true, if_false, not_true_eq_false, not_false_eq_true, and_self, true_and, and_true, false_and, and_false, or_true, true_or, or_false, false_or, reduceCtorEq, ne_eq, va_us, pk_us]); (try with_reducible rfl); done)) | (constructor <;> ((try simp only [ch_take, (eq_true c4), if_true, if_false, not_true_eq_false, not_false_eq_true, and_self, true_and, and_true, false_and, and_false, or_true, true_or, or_false, false_or, reduceCtorEq, ne_eq, va_us, pk_us]); (try rfl); done))
