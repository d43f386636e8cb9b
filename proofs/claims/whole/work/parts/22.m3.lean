def mo_set (M : MS) (r sort k v : Int32) : Int32 × MS :=
  if bt r 0 7 then
    if bt sort 1 2 then
      if mo_ag (sI M 0 0) (M.2.2 1 r.toNatClampNeg) sort k ≤ 0 then (1, sF (sI M 0 0) 4 ((40 : Int32) * (M.2.2 1 r.toNatClampNeg) + k - 40).toNatClampNeg (if sort = 1 then v.toInt8.toInt32 else v))
      else ((-10) - mo_ag (sI M 0 0) (M.2.2 1 r.toNatClampNeg) sort k, sI (sI M 0 0) 5 (mo_ag (sI M 0 0) (M.2.2 1 r.toNatClampNeg) sort k))
    else (-3, (sI M 0 0))
  else (-2, (sI M 0 0))
def mo_item (M : MS) (r sort k : Int32) : Int64 × MS :=
  if bt r 0 7 then
    if bt sort 1 2 then
      if mo_ag (sI M 0 0) (M.2.2 1 r.toNatClampNeg) sort k ≤ 0 then ((M.2.2 4 ((40 : Int32) * (M.2.2 1 r.toNatClampNeg) + k - 40).toNatClampNeg).toInt64, (sI M 0 0))
      else ((-9223372036854775798) + (mo_ag (sI M 0 0) (M.2.2 1 r.toNatClampNeg) sort k).toInt64, sI (sI M 0 0) 5 (mo_ag (sI M 0 0) (M.2.2 1 r.toNatClampNeg) sort k))
    else (-9223372036854775805, (sI M 0 0))
  else (-9223372036854775806, (sI M 0 0))
def mo_g (M : MS) (r k ref : Int32) : Int32 := if mo_ag (sI M 0 0) (M.2.2 1 r.toNatClampNeg) 3 k = 0 ∧ M.2.2 2 (M.2.2 1 r.toNatClampNeg).toNatClampNeg = 4 ∧ 0 ≤ ref ∧ M.2.2 33 ref.toNatClampNeg = 0 then 5 else mo_ag (sI M 0 0) (M.2.2 1 r.toNatClampNeg) 3 k
def mo_hold (M : MS) (r k ref : Int32) : Int32 × MS :=
  if bt r 0 7 then
    if ref = -1 ∨ bt ref 0 (M.1 29 - 1).toInt then
      if mo_g M r k ref ≤ 0 then (1, sF (sI M 0 0) 4 ((40 : Int32) * (M.2.2 1 r.toNatClampNeg) + k - 40).toNatClampNeg (ref + 1))
      else ((-10) - mo_g M r k ref, sI (sI M 0 0) 5 (mo_g M r k ref))
    else (-2, (sI M 0 0))
  else (-2, (sI M 0 0))
def mo_h (M : MS) (r k : Int32) : Int32 := if mo_ag (sI M 0 0) (M.2.2 1 r.toNatClampNeg) 3 k = 0 ∧ M.2.2 4 ((40 : Int32) * (M.2.2 1 r.toNatClampNeg) + k - 40).toNatClampNeg = 0 then 1 else mo_ag (sI M 0 0) (M.2.2 1 r.toNatClampNeg) 3 k
def mo_held (M : MS) (r k : Int32) : Int32 × MS :=
  if bt r 0 7 then
    if mo_h M r k ≤ 0 then (M.2.2 4 ((40 : Int32) * (M.2.2 1 r.toNatClampNeg) + k - 40).toNatClampNeg - 1, (sI M 0 0))
    else ((-10) - mo_h M r k, sI (sI M 0 0) 5 (mo_h M r k))
  else (-2, (sI M 0 0))
def mi_refs (M : MS) : Prop := bt (M.1 29) 0 20 = true
theorem refs_bt {M : MS} {r : Int32} (h : mi_refs M) (hr : bt r 0 (M.1 29 - 1).toInt) : bt r 0 19 := by
  have h1 := bt_iff.mp h
  have h2 := bt_iff.mp hr
  have h3 := ti_sub (a := M.1 29) (b := 1) (y := 1) rfl rfl (by omega)
  exact bt_iff.mpr ⟨by omega, by omega⟩
set_option maxRecDepth 100000 in
set_option maxHeartbeats 4000000 in
theorem kX11_set (G : GG) (l : Launch) (q : Nat → Nat) (M : MS) (hq : mInj q) (hR : mi_row M) (hS : mi_size M) (r sort k x : Int32) : MC G l yX11_set cX11_set 7 ((Option.some .int)) ({ frames := 2, cells := 0, slots := 0, locals := 49 } : Room) [.ref (q 0), .int r, .int sort, .int k, .int x] (mw G q M) (fun v w' => v = some (.int (mo_set M r sort k x).1) ∧ w' = mw G q (mo_set M r sort k x).2) := by
  refine mc_int (by decide) (Nat.le_of_ble_eq_true rfl) rfl rfl ?_
  intro p e s m args below meth c A H0 Q X hnm RTN
  have X : Cx G p s m args meth c A H0 cX11_set 7 RX11 := X
  refine aw_aload_n X dX11_set_0 rfl rfl ?_
  refine aw_iconst X dX11_set_1 ci_0 ?_
  refine am_put X 0 (M' := sI _ 0 _) (Nat.le_of_ble_eq_true rfl) fl_X11_1 rfl rfl (rfl) (rfl) (mf_0 _ _ _) rfl dX11_set_2 ?_
  refine aw_iload_n X dX11_set_5 rfl rfl ?_
  refine aw_callS X (kX11_isRow _ _ _ _) okm_X11_isRow ml_X11_29 st_X11_isRow rfl rfl (Nat.le_of_ble_eq_true rfl) ⟨Nat.le_of_ble_eq_true rfl, Nat.le_of_ble_eq_true rfl, Nat.le_of_ble_eq_true rfl, Nat.le_of_ble_eq_true rfl⟩ dX11_set_6 (fun v w2 hp => ?_)
  obtain ⟨rfl, rfl⟩ := hp
  refine aw_if_ne (tgt := 15) X dX11_set_9 rfl (fun c9 => ?_) (fun c9 => ?_)
  · rw [bI_n0] at c9
    refine aw_iload_n X dX11_set_15 rfl rfl ?_
    refine aw_i2l X dX11_set_16 ?_
    refine aw_lconst X dX11_set_17 cl_1 ?_
    refine aw_ldc2 X kl_X11_52 dX11_set_18 ?_
    refine aw_callS X (kX11_inI _ _ _ _ _ _ 1 2 rfl rfl) okm_X11_in ml_X11_12 st_X11_in rfl rfl (Nat.le_of_ble_eq_true rfl) ⟨Nat.le_of_ble_eq_true rfl, Nat.le_of_ble_eq_true rfl, Nat.le_of_ble_eq_true rfl, Nat.le_of_ble_eq_true rfl⟩ dX11_set_21 (fun v w2 hp => ?_)
    obtain ⟨rfl, rfl⟩ := hp
    refine aw_if_ne (tgt := 30) X dX11_set_24 rfl (fun c24 => ?_) (fun c24 => ?_)
    · rw [bI_n0] at c24
      refine aw_aload_n X dX11_set_30 rfl rfl ?_
      refine am_get X 1 (Nat.le_of_ble_eq_true rfl) fl_X11_16 rfl rfl dX11_set_31 ?_
      refine aw_iload_n X dX11_set_34 rfl rfl ?_
      refine am_ald X 1 _ (M.2.2 1) hq (by decide) rfl rfl rfl (bt_vp (c9) (by decide) (by decide)) dX11_set_35 ?_
      refine aw_istore (lv' := [(5, _), (0, _), (1, _), (2, _), (3, _), (4, _)]) X dX11_set_36 (by decide) rfl ?_
      refine aw_aload_n X dX11_set_38 rfl rfl ?_
      refine aw_iload X dX11_set_39 rfl ?_
      refine aw_iload_n X dX11_set_41 rfl rfl ?_
      refine aw_iload_n X dX11_set_42 rfl rfl ?_
      refine aw_callV X (kX11_against _ _ _ _ hq (M.2.2 1 r.toNatClampNeg) _ _ (hR _ (cl_lt c9 (by decide) (by decide)))) okm_X11_against okX11 mw_0 ml_X11_54 im_X11_against se_X11_X11_against rfl rfl (Nat.le_of_ble_eq_true rfl) ⟨Nat.le_of_ble_eq_true rfl, Nat.le_of_ble_eq_true rfl, Nat.le_of_ble_eq_true rfl, Nat.le_of_ble_eq_true rfl⟩ dX11_set_43 (fun v w2 hp => ?_)
      obtain ⟨rfl, rfl⟩ := hp
      refine aw_istore (lv' := [(6, _), (5, _), (0, _), (1, _), (2, _), (3, _), (4, _)]) X dX11_set_46 (by decide) rfl ?_
      refine aw_iload X dX11_set_48 rfl ?_
      refine aw_if_le (tgt := 60) X dX11_set_50 rfl (fun c50 => ?_) (fun c50 => ?_)
      · refine aw_aload_n X dX11_set_60 rfl rfl ?_
        refine am_get X 4 (Nat.le_of_ble_eq_true rfl) fl_X11_49 rfl rfl dX11_set_61 ?_
        refine aw_bipush X dX11_set_64 cb_40 ?_
        refine aw_iload X dX11_set_66 rfl ?_
        refine aw_imul X dX11_set_68 ?_
        refine aw_iload_n X dX11_set_69 rfl rfl ?_
        refine aw_iadd X dX11_set_70 ?_
        refine aw_bipush X dX11_set_71 cb_40 ?_
        refine aw_isub X dX11_set_73 ?_
        refine aw_iload_n X dX11_set_74 rfl rfl ?_
        refine aw_iconst X dX11_set_75 ci_1 ?_
        refine aw_icmp_ne (tgt := 85) X dX11_set_76 rfl (fun c76 => ?_) (fun c76 => ?_)
        · refine aw_iload X dX11_set_85 rfl ?_
          refine am_ast X 4 _ hq (by decide) rfl rfl (ix_v (ag_ok hS (hR _ (cl_lt c9 (by decide) (by decide))) c50).1 (ag_ok hS (hR _ (cl_lt c9 (by decide) (by decide))) c50).2) dX11_set_87 ?_
          refine aw_iconst X dX11_set_88 ci_1 ?_
          refine RTN (some (.int _)) _ _ _ _ _ dX11_set_89 (⟨_, rfl⟩) (Nat.le_of_ble_eq_true rfl) (Nat.le_of_ble_eq_true rfl) ?_
          first | (constructor <;> ((try simp only [mo_set, c9, c24, c50, c76, if_true, if_false, not_true_eq_false, not_false_eq_true, and_self, true_and, and_true, false_and, and_false, or_true, true_or, or_false, false_or, reduceCtorEq, ne_eq]); (try rfl); done)) | (clear RTN X; constructor <;> ((try simp_all only [mo_set, if_true, if_false, not_true_eq_false, not_false_eq_true, and_self, true_and, and_true, false_and, and_false, or_true, true_or, or_false, false_or, reduceCtorEq, ne_eq]); (try rfl); done))
        · refine aw_iload X dX11_set_79 rfl ?_
          refine aw_i2b X dX11_set_81 ?_
          refine aw_goto (tgt := 87) X dX11_set_82 rfl ?_
          refine am_ast X 4 _ hq (by decide) rfl rfl (ix_v (ag_ok hS (hR _ (cl_lt c9 (by decide) (by decide))) c50).1 (ag_ok hS (hR _ (cl_lt c9 (by decide) (by decide))) c50).2) dX11_set_87 ?_
          refine aw_iconst X dX11_set_88 ci_1 ?_
          refine RTN (some (.int _)) _ _ _ _ _ dX11_set_89 (⟨_, rfl⟩) (Nat.le_of_ble_eq_true rfl) (Nat.le_of_ble_eq_true rfl) ?_
          first | (constructor <;> ((try simp only [mo_set, c9, c24, c50, c76, if_true, if_false, not_true_eq_false, not_false_eq_true, and_self, true_and, and_true, false_and, and_false, or_true, true_or, or_false, false_or, reduceCtorEq, ne_eq]); (try rfl); done)) | (clear RTN X; constructor <;> ((try simp_all only [mo_set, if_true, if_false, not_true_eq_false, not_false_eq_true, and_self, true_and, and_true, false_and, and_false, or_true, true_or, or_false, false_or, reduceCtorEq, ne_eq]); (try rfl); done))
      · refine aw_aload_n X dX11_set_53 rfl rfl ?_
        refine aw_iload X dX11_set_54 rfl ?_
        refine aw_callV X (kX11_fails _ _ _ _ hq _) okm_X11_fails okX11 mw_0 ml_X11_35 im_X11_fails se_X11_X11_fails rfl rfl (Nat.le_of_ble_eq_true rfl) ⟨Nat.le_of_ble_eq_true rfl, Nat.le_of_ble_eq_true rfl, Nat.le_of_ble_eq_true rfl, Nat.le_of_ble_eq_true rfl⟩ dX11_set_56 (fun v w2 hp => ?_)
        obtain ⟨rfl, rfl⟩ := hp
        refine RTN (some (.int _)) _ _ _ _ _ dX11_set_59 (⟨_, rfl⟩) (Nat.le_of_ble_eq_true rfl) (Nat.le_of_ble_eq_true rfl) ?_
        first | (constructor <;> ((try simp only [mo_set, c9, c24, c50, if_true, if_false, not_true_eq_false, not_false_eq_true, and_self, true_and, and_true, false_and, and_false, or_true, true_or, or_false, false_or, reduceCtorEq, ne_eq]); (try rfl); done)) | (clear RTN X; constructor <;> ((try simp_all only [mo_set, if_true, if_false, not_true_eq_false, not_false_eq_true, and_self, true_and, and_true, false_and, and_false, or_true, true_or, or_false, false_or, reduceCtorEq, ne_eq]); (try rfl); done))
    · rw [bI_0] at c24
      refine aw_bipush X dX11_set_27 cb_m3 ?_
      refine RTN (some (.int _)) _ _ _ _ _ dX11_set_29 (⟨_, rfl⟩) (Nat.le_of_ble_eq_true rfl) (Nat.le_of_ble_eq_true rfl) ?_
      first | (constructor <;> ((try simp only [mo_set, c9, c24, if_true, if_false, not_true_eq_false, not_false_eq_true, and_self, true_and, and_true, false_and, and_false, or_true, true_or, or_false, false_or, reduceCtorEq, ne_eq]); (try rfl); done)) | (clear RTN X; constructor <;> ((try simp_all only [mo_set, if_true, if_false, not_true_eq_false, not_false_eq_true, and_self, true_and, and_true, false_and, and_false, or_true, true_or, or_false, false_or, reduceCtorEq, ne_eq]); (try rfl); done))
  · rw [bI_0] at c9
    refine aw_bipush X dX11_set_12 cb_m2 ?_
    refine RTN (some (.int _)) _ _ _ _ _ dX11_set_14 (⟨_, rfl⟩) (Nat.le_of_ble_eq_true rfl) (Nat.le_of_ble_eq_true rfl) ?_
    first | (constructor <;> ((try simp only [mo_set, c9, if_true, if_false, not_true_eq_false, not_false_eq_true, and_self, true_and, and_true, false_and, and_false, or_true, true_or, or_false, false_or, reduceCtorEq, ne_eq]); (try rfl); done)) | (clear RTN X; constructor <;> ((try simp_all only [mo_set, if_true, if_false, not_true_eq_false, not_false_eq_true, and_self, true_and, and_true, false_and, and_false, or_true, true_or, or_false, false_or, reduceCtorEq, ne_eq]); (try rfl); done))
set_option maxRecDepth 100000 in
set_option maxHeartbeats 4000000 in
theorem kX11_item (G : GG) (l : Launch) (q : Nat → Nat) (M : MS) (hq : mInj q) (hR : mi_row M) (hS : mi_size M) (r sort k : Int32) : MC G l yX11_item cX11_item 6 ((Option.some .long)) ({ frames := 2, cells := 0, slots := 0, locals := 49 } : Room) [.ref (q 0), .int r, .int sort, .int k] (mw G q M) (fun v w' => v = some (.long (mo_item M r sort k).1) ∧ w' = mw G q (mo_item M r sort k).2) := by
  refine mc_long (by decide) (Nat.le_of_ble_eq_true rfl) rfl rfl ?_
  intro p e s m args below meth c A H0 Q X hnm RTN
  have X : Cx G p s m args meth c A H0 cX11_item 6 RX11 := X
  refine aw_aload_n X dX11_item_0 rfl rfl ?_
  refine aw_iconst X dX11_item_1 ci_0 ?_
  refine am_put X 0 (M' := sI _ 0 _) (Nat.le_of_ble_eq_true rfl) fl_X11_1 rfl rfl (rfl) (rfl) (mf_0 _ _ _) rfl dX11_item_2 ?_
  refine aw_iload_n X dX11_item_5 rfl rfl ?_
  refine aw_callS X (kX11_isRow _ _ _ _) okm_X11_isRow ml_X11_29 st_X11_isRow rfl rfl (Nat.le_of_ble_eq_true rfl) ⟨Nat.le_of_ble_eq_true rfl, Nat.le_of_ble_eq_true rfl, Nat.le_of_ble_eq_true rfl, Nat.le_of_ble_eq_true rfl⟩ dX11_item_6 (fun v w2 hp => ?_)
  obtain ⟨rfl, rfl⟩ := hp
  refine aw_if_ne (tgt := 16) X dX11_item_9 rfl (fun c9 => ?_) (fun c9 => ?_)
  · rw [bI_n0] at c9
    refine aw_iload_n X dX11_item_16 rfl rfl ?_
    refine aw_i2l X dX11_item_17 ?_
    refine aw_lconst X dX11_item_18 cl_1 ?_
    refine aw_ldc2 X kl_X11_52 dX11_item_19 ?_
    refine aw_callS X (kX11_inI _ _ _ _ _ _ 1 2 rfl rfl) okm_X11_in ml_X11_12 st_X11_in rfl rfl (Nat.le_of_ble_eq_true rfl) ⟨Nat.le_of_ble_eq_true rfl, Nat.le_of_ble_eq_true rfl, Nat.le_of_ble_eq_true rfl, Nat.le_of_ble_eq_true rfl⟩ dX11_item_22 (fun v w2 hp => ?_)
    obtain ⟨rfl, rfl⟩ := hp
    refine aw_if_ne (tgt := 32) X dX11_item_25 rfl (fun c25 => ?_) (fun c25 => ?_)
    · rw [bI_n0] at c25
      refine aw_aload_n X dX11_item_32 rfl rfl ?_
      refine am_get X 1 (Nat.le_of_ble_eq_true rfl) fl_X11_16 rfl rfl dX11_item_33 ?_
      refine aw_iload_n X dX11_item_36 rfl rfl ?_
      refine am_ald X 1 _ (M.2.2 1) hq (by decide) rfl rfl rfl (bt_vp (c9) (by decide) (by decide)) dX11_item_37 ?_
      refine aw_istore (lv' := [(4, _), (0, _), (1, _), (2, _), (3, _)]) X dX11_item_38 (by decide) rfl ?_
      refine aw_aload_n X dX11_item_40 rfl rfl ?_
      refine aw_iload X dX11_item_41 rfl ?_
      refine aw_iload_n X dX11_item_43 rfl rfl ?_
      refine aw_iload_n X dX11_item_44 rfl rfl ?_
      refine aw_callV X (kX11_against _ _ _ _ hq (M.2.2 1 r.toNatClampNeg) _ _ (hR _ (cl_lt c9 (by decide) (by decide)))) okm_X11_against okX11 mw_0 ml_X11_54 im_X11_against se_X11_X11_against rfl rfl (Nat.le_of_ble_eq_true rfl) ⟨Nat.le_of_ble_eq_true rfl, Nat.le_of_ble_eq_true rfl, Nat.le_of_ble_eq_true rfl, Nat.le_of_ble_eq_true rfl⟩ dX11_item_45 (fun v w2 hp => ?_)
      obtain ⟨rfl, rfl⟩ := hp
      refine aw_istore (lv' := [(5, _), (4, _), (0, _), (1, _), (2, _), (3, _)]) X dX11_item_48 (by decide) rfl ?_
      refine aw_iload X dX11_item_50 rfl ?_
      refine aw_if_le (tgt := 69) X dX11_item_52 rfl (fun c52 => ?_) (fun c52 => ?_)
      · refine aw_aload_n X dX11_item_69 rfl rfl ?_
        refine am_get X 4 (Nat.le_of_ble_eq_true rfl) fl_X11_49 rfl rfl dX11_item_70 ?_
        refine aw_bipush X dX11_item_73 cb_40 ?_
        refine aw_iload X dX11_item_75 rfl ?_
        refine aw_imul X dX11_item_77 ?_
        refine aw_iload_n X dX11_item_78 rfl rfl ?_
        refine aw_iadd X dX11_item_79 ?_
        refine aw_bipush X dX11_item_80 cb_40 ?_
        refine aw_isub X dX11_item_82 ?_
        refine am_ald X 4 _ (M.2.2 4) hq (by decide) rfl rfl rfl (ix_v (ag_ok hS (hR _ (cl_lt c9 (by decide) (by decide))) c52).1 (ag_ok hS (hR _ (cl_lt c9 (by decide) (by decide))) c52).2) dX11_item_83 ?_
        refine aw_i2l X dX11_item_84 ?_
        refine RTN (some (.long _)) _ _ _ _ _ dX11_item_85 (⟨_, rfl⟩) (Nat.le_of_ble_eq_true rfl) (Nat.le_of_ble_eq_true rfl) ?_
        first | (constructor <;> ((try simp only [mo_item, c9, c25, c52, if_true, if_false, not_true_eq_false, not_false_eq_true, and_self, true_and, and_true, false_and, and_false, or_true, true_or, or_false, false_or, reduceCtorEq, ne_eq]); (try rfl); done)) | (clear RTN X; constructor <;> ((try simp_all only [mo_item, if_true, if_false, not_true_eq_false, not_false_eq_true, and_self, true_and, and_true, false_and, and_false, or_true, true_or, or_false, false_or, reduceCtorEq, ne_eq]); (try rfl); done))
      · refine aw_aload_n X dX11_item_55 rfl rfl ?_
        refine aw_iload X dX11_item_56 rfl ?_
        refine am_put X 5 (M' := sI _ 5 _) (Nat.le_of_ble_eq_true rfl) fl_X11_7 rfl rfl (rfl) (rfl) (mf_5 _ _ _) rfl dX11_item_58 ?_
        refine aw_ldc2 X kl_X11_62 dX11_item_61 ?_
        refine aw_iload X dX11_item_64 rfl ?_
        refine aw_i2l X dX11_item_66 ?_
        refine aw_ladd X dX11_item_67 ?_
        refine RTN (some (.long _)) _ _ _ _ _ dX11_item_68 (⟨_, rfl⟩) (Nat.le_of_ble_eq_true rfl) (Nat.le_of_ble_eq_true rfl) ?_
        first | (constructor <;> ((try simp only [mo_item, c9, c25, c52, if_true, if_false, not_true_eq_false, not_false_eq_true, and_self, true_and, and_true, false_and, and_false, or_true, true_or, or_false, false_or, reduceCtorEq, ne_eq]); (try rfl); done)) | (clear RTN X; constructor <;> ((try simp_all only [mo_item, if_true, if_false, not_true_eq_false, not_false_eq_true, and_self, true_and, and_true, false_and, and_false, or_true, true_or, or_false, false_or, reduceCtorEq, ne_eq]); (try rfl); done))
    · rw [bI_0] at c25
      refine aw_ldc2 X kl_X11_60 dX11_item_28 ?_
      refine RTN (some (.long _)) _ _ _ _ _ dX11_item_31 (⟨_, rfl⟩) (Nat.le_of_ble_eq_true rfl) (Nat.le_of_ble_eq_true rfl) ?_
      first | (constructor <;> ((try simp only [mo_item, c9, c25, if_true, if_false, not_true_eq_false, not_false_eq_true, and_self, true_and, and_true, false_and, and_false, or_true, true_or, or_false, false_or, reduceCtorEq, ne_eq]); (try rfl); done)) | (clear RTN X; constructor <;> ((try simp_all only [mo_item, if_true, if_false, not_true_eq_false, not_false_eq_true, and_self, true_and, and_true, false_and, and_false, or_true, true_or, or_false, false_or, reduceCtorEq, ne_eq]); (try rfl); done))
  · rw [bI_0] at c9
    refine aw_ldc2 X kl_X11_58 dX11_item_12 ?_
    refine RTN (some (.long _)) _ _ _ _ _ dX11_item_15 (⟨_, rfl⟩) (Nat.le_of_ble_eq_true rfl) (Nat.le_of_ble_eq_true rfl) ?_
    first | (constructor <;> ((try simp only [mo_item, c9, if_true, if_false, not_true_eq_false, not_false_eq_true, and_self, true_and, and_true, false_and, and_false, or_true, true_or, or_false, false_or, reduceCtorEq, ne_eq]); (try rfl); done)) | (clear RTN X; constructor <;> ((try simp_all only [mo_item, if_true, if_false, not_true_eq_false, not_false_eq_true, and_self, true_and, and_true, false_and, and_false, or_true, true_or, or_false, false_or, reduceCtorEq, ne_eq]); (try rfl); done))
set_option maxRecDepth 100000 in
set_option maxHeartbeats 4000000 in
theorem kX11_hold (G : GG) (l : Launch) (q : Nat → Nat) (M : MS) (hq : mInj q) (hR : mi_row M) (hS : mi_size M) (hF : mi_refs M) (r k ref : Int32) : MC G l yX11_hold cX11_hold 6 ((Option.some .int)) ({ frames := 2, cells := 0, slots := 0, locals := 49 } : Room) [.ref (q 0), .int r, .int k, .int ref] (mw G q M) (fun v w' => v = some (.int (mo_hold M r k ref).1) ∧ w' = mw G q (mo_hold M r k ref).2) := by
  refine mc_int (by decide) (Nat.le_of_ble_eq_true rfl) rfl rfl ?_
  intro p e s m args below meth c A H0 Q X hnm RTN
  have X : Cx G p s m args meth c A H0 cX11_hold 6 RX11 := X
  refine aw_aload_n X dX11_hold_0 rfl rfl ?_
  refine aw_iconst X dX11_hold_1 ci_0 ?_
  refine am_put X 0 (M' := sI _ 0 _) (Nat.le_of_ble_eq_true rfl) fl_X11_1 rfl rfl (rfl) (rfl) (mf_0 _ _ _) rfl dX11_hold_2 ?_
  refine aw_iload_n X dX11_hold_5 rfl rfl ?_
  refine aw_callS X (kX11_isRow _ _ _ _) okm_X11_isRow ml_X11_29 st_X11_isRow rfl rfl (Nat.le_of_ble_eq_true rfl) ⟨Nat.le_of_ble_eq_true rfl, Nat.le_of_ble_eq_true rfl, Nat.le_of_ble_eq_true rfl, Nat.le_of_ble_eq_true rfl⟩ dX11_hold_6 (fun v w2 hp => ?_)
  obtain ⟨rfl, rfl⟩ := hp
  refine aw_if_eq (tgt := 25) X dX11_hold_9 rfl (fun c9 => ?_) (fun c9 => ?_)
  · rw [bI_0] at c9
    refine aw_bipush X dX11_hold_25 cb_m2 ?_
    refine RTN (some (.int _)) _ _ _ _ _ dX11_hold_27 (⟨_, rfl⟩) (Nat.le_of_ble_eq_true rfl) (Nat.le_of_ble_eq_true rfl) ?_
    first | (constructor <;> ((try simp only [mo_hold, mo_g, c9, if_true, if_false, not_true_eq_false, not_false_eq_true, and_self, true_and, and_true, false_and, and_false, or_true, true_or, or_false, false_or, reduceCtorEq, ne_eq]); (try rfl); done)) | (clear RTN X; constructor <;> ((try simp_all only [mo_hold, mo_g, if_true, if_false, not_true_eq_false, not_false_eq_true, and_self, true_and, and_true, false_and, and_false, or_true, true_or, or_false, false_or, reduceCtorEq, ne_eq]); (try rfl); done))
  · rw [bI_n0] at c9
    refine aw_iload_n X dX11_hold_12 rfl rfl ?_
    refine aw_iconst X dX11_hold_13 ci_m1 ?_
    refine aw_icmp_eq (tgt := 28) X dX11_hold_14 rfl (fun c14 => ?_) (fun c14 => ?_)
    · refine aw_aload_n X dX11_hold_28 rfl rfl ?_
      refine am_get X 1 (Nat.le_of_ble_eq_true rfl) fl_X11_16 rfl rfl dX11_hold_29 ?_
      refine aw_iload_n X dX11_hold_32 rfl rfl ?_
      refine am_ald X 1 _ (M.2.2 1) hq (by decide) rfl rfl rfl (bt_vp (c9) (by decide) (by decide)) dX11_hold_33 ?_
      refine aw_istore (lv' := [(4, _), (0, _), (1, _), (2, _), (3, _)]) X dX11_hold_34 (by decide) rfl ?_
      refine aw_aload_n X dX11_hold_36 rfl rfl ?_
      refine aw_iload X dX11_hold_37 rfl ?_
      refine aw_iconst X dX11_hold_39 ci_3 ?_
      refine aw_iload_n X dX11_hold_40 rfl rfl ?_
      refine aw_callV X (kX11_against _ _ _ _ hq (M.2.2 1 r.toNatClampNeg) _ _ (hR _ (cl_lt c9 (by decide) (by decide)))) okm_X11_against okX11 mw_0 ml_X11_54 im_X11_against se_X11_X11_against rfl rfl (Nat.le_of_ble_eq_true rfl) ⟨Nat.le_of_ble_eq_true rfl, Nat.le_of_ble_eq_true rfl, Nat.le_of_ble_eq_true rfl, Nat.le_of_ble_eq_true rfl⟩ dX11_hold_41 (fun v w2 hp => ?_)
      obtain ⟨rfl, rfl⟩ := hp
      refine aw_istore (lv' := [(5, _), (4, _), (0, _), (1, _), (2, _), (3, _)]) X dX11_hold_44 (by decide) rfl ?_
      refine aw_iload X dX11_hold_46 rfl ?_
      refine aw_if_ne (tgt := 79) X dX11_hold_48 rfl (fun c48 => ?_) (fun c48 => ?_)
      · refine aw_iload X dX11_hold_79 rfl ?_
        refine aw_istore (lv' := [(5, _), (4, _), (0, _), (1, _), (2, _), (3, _)]) X dX11_hold_81 (by decide) rfl ?_
        refine aw_iload X dX11_hold_83 rfl ?_
        refine aw_if_le (tgt := 95) X dX11_hold_85 rfl (fun c85 => ?_) (fun c85 => ?_)
        · refine aw_aload_n X dX11_hold_95 rfl rfl ?_
          refine am_get X 4 (Nat.le_of_ble_eq_true rfl) fl_X11_49 rfl rfl dX11_hold_96 ?_
          refine aw_bipush X dX11_hold_99 cb_40 ?_
          refine aw_iload X dX11_hold_101 rfl ?_
          refine aw_imul X dX11_hold_103 ?_
          refine aw_iload_n X dX11_hold_104 rfl rfl ?_
          refine aw_iadd X dX11_hold_105 ?_
          refine aw_bipush X dX11_hold_106 cb_40 ?_
          refine aw_isub X dX11_hold_108 ?_
          refine aw_iload_n X dX11_hold_109 rfl rfl ?_
          refine aw_iconst X dX11_hold_110 ci_1 ?_
          refine aw_iadd X dX11_hold_111 ?_
          refine am_ast X 4 _ hq (by decide) rfl rfl (ix_v (ag_ok hS (hR _ (cl_lt c9 (by decide) (by decide))) c85).1 (ag_ok hS (hR _ (cl_lt c9 (by decide) (by decide))) c85).2) dX11_hold_112 ?_
          refine aw_iconst X dX11_hold_113 ci_1 ?_
          refine RTN (some (.int _)) _ _ _ _ _ dX11_hold_114 (⟨_, rfl⟩) (Nat.le_of_ble_eq_true rfl) (Nat.le_of_ble_eq_true rfl) ?_
          first | (constructor <;> ((try simp only [mo_hold, mo_g, c9, c14, c48, c85, if_true, if_false, not_true_eq_false, not_false_eq_true, and_self, true_and, and_true, false_and, and_false, or_true, true_or, or_false, false_or, reduceCtorEq, ne_eq]); (try rfl); done)) | (clear RTN X; constructor <;> ((try simp_all only [mo_hold, mo_g, if_true, if_false, not_true_eq_false, not_false_eq_true, and_self, true_and, and_true, false_and, and_false, or_true, true_or, or_false, false_or, reduceCtorEq, ne_eq]); (try rfl); done))
        · refine aw_aload_n X dX11_hold_88 rfl rfl ?_
          refine aw_iload X dX11_hold_89 rfl ?_
          refine aw_callV X (kX11_fails _ _ _ _ hq _) okm_X11_fails okX11 mw_0 ml_X11_35 im_X11_fails se_X11_X11_fails rfl rfl (Nat.le_of_ble_eq_true rfl) ⟨Nat.le_of_ble_eq_true rfl, Nat.le_of_ble_eq_true rfl, Nat.le_of_ble_eq_true rfl, Nat.le_of_ble_eq_true rfl⟩ dX11_hold_91 (fun v w2 hp => ?_)
          obtain ⟨rfl, rfl⟩ := hp
          refine RTN (some (.int _)) _ _ _ _ _ dX11_hold_94 (⟨_, rfl⟩) (Nat.le_of_ble_eq_true rfl) (Nat.le_of_ble_eq_true rfl) ?_
          first | (constructor <;> ((try simp only [mo_hold, mo_g, c9, c14, c48, c85, if_true, if_false, not_true_eq_false, not_false_eq_true, and_self, true_and, and_true, false_and, and_false, or_true, true_or, or_false, false_or, reduceCtorEq, ne_eq]); (try rfl); done)) | (clear RTN X; constructor <;> ((try simp_all only [mo_hold, mo_g, if_true, if_false, not_true_eq_false, not_false_eq_true, and_self, true_and, and_true, false_and, and_false, or_true, true_or, or_false, false_or, reduceCtorEq, ne_eq]); (try rfl); done))
      · refine aw_aload_n X dX11_hold_51 rfl rfl ?_
        refine am_get X 2 (Nat.le_of_ble_eq_true rfl) fl_X11_43 rfl rfl dX11_hold_52 ?_
        refine aw_iload X dX11_hold_55 rfl ?_
        refine am_ald X 2 _ (M.2.2 2) hq (by decide) rfl rfl rfl (bt_vp (hR _ (cl_lt c9 (by decide) (by decide))) (by decide) (by decide)) dX11_hold_57 ?_
        refine aw_iconst X dX11_hold_58 ci_4 ?_
        refine aw_icmp_ne (tgt := 79) X dX11_hold_59 rfl (fun c59 => ?_) (fun c59 => ?_)
        · refine aw_iload X dX11_hold_79 rfl ?_
          refine aw_istore (lv' := [(5, _), (4, _), (0, _), (1, _), (2, _), (3, _)]) X dX11_hold_81 (by decide) rfl ?_
          refine aw_iload X dX11_hold_83 rfl ?_
          refine aw_if_le (tgt := 95) X dX11_hold_85 rfl (fun c85 => ?_) (fun c85 => ?_)
          · refine aw_aload_n X dX11_hold_95 rfl rfl ?_
            refine am_get X 4 (Nat.le_of_ble_eq_true rfl) fl_X11_49 rfl rfl dX11_hold_96 ?_
            refine aw_bipush X dX11_hold_99 cb_40 ?_
            refine aw_iload X dX11_hold_101 rfl ?_
            refine aw_imul X dX11_hold_103 ?_
            refine aw_iload_n X dX11_hold_104 rfl rfl ?_
            refine aw_iadd X dX11_hold_105 ?_
            refine aw_bipush X dX11_hold_106 cb_40 ?_
            refine aw_isub X dX11_hold_108 ?_
            refine aw_iload_n X dX11_hold_109 rfl rfl ?_
            refine aw_iconst X dX11_hold_110 ci_1 ?_
            refine aw_iadd X dX11_hold_111 ?_
            refine am_ast X 4 _ hq (by decide) rfl rfl (ix_v (ag_ok hS (hR _ (cl_lt c9 (by decide) (by decide))) c85).1 (ag_ok hS (hR _ (cl_lt c9 (by decide) (by decide))) c85).2) dX11_hold_112 ?_
            refine aw_iconst X dX11_hold_113 ci_1 ?_
            refine RTN (some (.int _)) _ _ _ _ _ dX11_hold_114 (⟨_, rfl⟩) (Nat.le_of_ble_eq_true rfl) (Nat.le_of_ble_eq_true rfl) ?_
            first | (constructor <;> ((try simp only [mo_hold, mo_g, c9, c14, c48, c59, c85, if_true, if_false, not_true_eq_false, not_false_eq_true, and_self, true_and, and_true, false_and, and_false, or_true, true_or, or_false, false_or, reduceCtorEq, ne_eq]); (try rfl); done)) | (clear RTN X; constructor <;> ((try simp_all only [mo_hold, mo_g, if_true, if_false, not_true_eq_false, not_false_eq_true, and_self, true_and, and_true, false_and, and_false, or_true, true_or, or_false, false_or, reduceCtorEq, ne_eq]); (try rfl); done))
          · refine aw_aload_n X dX11_hold_88 rfl rfl ?_
            refine aw_iload X dX11_hold_89 rfl ?_
            refine aw_callV X (kX11_fails _ _ _ _ hq _) okm_X11_fails okX11 mw_0 ml_X11_35 im_X11_fails se_X11_X11_fails rfl rfl (Nat.le_of_ble_eq_true rfl) ⟨Nat.le_of_ble_eq_true rfl, Nat.le_of_ble_eq_true rfl, Nat.le_of_ble_eq_true rfl, Nat.le_of_ble_eq_true rfl⟩ dX11_hold_91 (fun v w2 hp => ?_)
            obtain ⟨rfl, rfl⟩ := hp
            refine RTN (some (.int _)) _ _ _ _ _ dX11_hold_94 (⟨_, rfl⟩) (Nat.le_of_ble_eq_true rfl) (Nat.le_of_ble_eq_true rfl) ?_
            first | (constructor <;> ((try simp only [mo_hold, mo_g, c9, c14, c48, c59, c85, if_true, if_false, not_true_eq_false, not_false_eq_true, and_self, true_and, and_true, false_and, and_false, or_true, true_or, or_false, false_or, reduceCtorEq, ne_eq]); (try rfl); done)) | (clear RTN X; constructor <;> ((try simp_all only [mo_hold, mo_g, if_true, if_false, not_true_eq_false, not_false_eq_true, and_self, true_and, and_true, false_and, and_false, or_true, true_or, or_false, false_or, reduceCtorEq, ne_eq]); (try rfl); done))
        · refine aw_iload_n X dX11_hold_62 rfl rfl ?_
          refine aw_if_lt (tgt := 79) X dX11_hold_63 rfl (fun c63 => ?_) (fun c63 => ?_)
          · rw [← Int32.not_le] at c63
            refine aw_iload X dX11_hold_79 rfl ?_
            refine aw_istore (lv' := [(5, _), (4, _), (0, _), (1, _), (2, _), (3, _)]) X dX11_hold_81 (by decide) rfl ?_
            refine aw_iload X dX11_hold_83 rfl ?_
            refine aw_if_le (tgt := 95) X dX11_hold_85 rfl (fun c85 => ?_) (fun c85 => ?_)
            · refine aw_aload_n X dX11_hold_95 rfl rfl ?_
              refine am_get X 4 (Nat.le_of_ble_eq_true rfl) fl_X11_49 rfl rfl dX11_hold_96 ?_
              refine aw_bipush X dX11_hold_99 cb_40 ?_
              refine aw_iload X dX11_hold_101 rfl ?_
              refine aw_imul X dX11_hold_103 ?_
              refine aw_iload_n X dX11_hold_104 rfl rfl ?_
              refine aw_iadd X dX11_hold_105 ?_
              refine aw_bipush X dX11_hold_106 cb_40 ?_
              refine aw_isub X dX11_hold_108 ?_
              refine aw_iload_n X dX11_hold_109 rfl rfl ?_
              refine aw_iconst X dX11_hold_110 ci_1 ?_
              refine aw_iadd X dX11_hold_111 ?_
              refine am_ast X 4 _ hq (by decide) rfl rfl (ix_v (ag_ok hS (hR _ (cl_lt c9 (by decide) (by decide))) c85).1 (ag_ok hS (hR _ (cl_lt c9 (by decide) (by decide))) c85).2) dX11_hold_112 ?_
              refine aw_iconst X dX11_hold_113 ci_1 ?_
              refine RTN (some (.int _)) _ _ _ _ _ dX11_hold_114 (⟨_, rfl⟩) (Nat.le_of_ble_eq_true rfl) (Nat.le_of_ble_eq_true rfl) ?_
              first | (constructor <;> ((try simp only [mo_hold, mo_g, c9, c14, c48, c59, c63, c85, if_true, if_false, not_true_eq_false, not_false_eq_true, and_self, true_and, and_true, false_and, and_false, or_true, true_or, or_false, false_or, reduceCtorEq, ne_eq]); (try rfl); done)) | (clear RTN X; constructor <;> ((try simp_all only [mo_hold, mo_g, if_true, if_false, not_true_eq_false, not_false_eq_true, and_self, true_and, and_true, false_and, and_false, or_true, true_or, or_false, false_or, reduceCtorEq, ne_eq]); (try rfl); done))
            · refine aw_aload_n X dX11_hold_88 rfl rfl ?_
              refine aw_iload X dX11_hold_89 rfl ?_
              refine aw_callV X (kX11_fails _ _ _ _ hq _) okm_X11_fails okX11 mw_0 ml_X11_35 im_X11_fails se_X11_X11_fails rfl rfl (Nat.le_of_ble_eq_true rfl) ⟨Nat.le_of_ble_eq_true rfl, Nat.le_of_ble_eq_true rfl, Nat.le_of_ble_eq_true rfl, Nat.le_of_ble_eq_true rfl⟩ dX11_hold_91 (fun v w2 hp => ?_)
              obtain ⟨rfl, rfl⟩ := hp
              refine RTN (some (.int _)) _ _ _ _ _ dX11_hold_94 (⟨_, rfl⟩) (Nat.le_of_ble_eq_true rfl) (Nat.le_of_ble_eq_true rfl) ?_
              first | (constructor <;> ((try simp only [mo_hold, mo_g, c9, c14, c48, c59, c63, c85, if_true, if_false, not_true_eq_false, not_false_eq_true, and_self, true_and, and_true, false_and, and_false, or_true, true_or, or_false, false_or, reduceCtorEq, ne_eq]); (try rfl); done)) | (clear RTN X; constructor <;> ((try simp_all only [mo_hold, mo_g, if_true, if_false, not_true_eq_false, not_false_eq_true, and_self, true_and, and_true, false_and, and_false, or_true, true_or, or_false, false_or, reduceCtorEq, ne_eq]); (try rfl); done))
          · exact absurd (by rw [c14]; decide) c63
    · refine aw_aload_n X dX11_hold_17 rfl rfl ?_
      refine aw_iload_n X dX11_hold_18 rfl rfl ?_
      refine aw_callV X (kX11_isReference _ _ _ _ hq _ (M.1 29) rfl) okm_X11_isReference okX11 mw_0 ml_X11_64 im_X11_isReference se_X11_X11_isReference rfl rfl (Nat.le_of_ble_eq_true rfl) ⟨Nat.le_of_ble_eq_true rfl, Nat.le_of_ble_eq_true rfl, Nat.le_of_ble_eq_true rfl, Nat.le_of_ble_eq_true rfl⟩ dX11_hold_19 (fun v w2 hp => ?_)
      obtain ⟨rfl, rfl⟩ := hp
      refine aw_if_ne (tgt := 28) X dX11_hold_22 rfl (fun c22 => ?_) (fun c22 => ?_)
      · rw [bI_n0] at c22
        refine aw_aload_n X dX11_hold_28 rfl rfl ?_
        refine am_get X 1 (Nat.le_of_ble_eq_true rfl) fl_X11_16 rfl rfl dX11_hold_29 ?_
        refine aw_iload_n X dX11_hold_32 rfl rfl ?_
        refine am_ald X 1 _ (M.2.2 1) hq (by decide) rfl rfl rfl (bt_vp (c9) (by decide) (by decide)) dX11_hold_33 ?_
        refine aw_istore (lv' := [(4, _), (0, _), (1, _), (2, _), (3, _)]) X dX11_hold_34 (by decide) rfl ?_
        refine aw_aload_n X dX11_hold_36 rfl rfl ?_
        refine aw_iload X dX11_hold_37 rfl ?_
        refine aw_iconst X dX11_hold_39 ci_3 ?_
        refine aw_iload_n X dX11_hold_40 rfl rfl ?_
        refine aw_callV X (kX11_against _ _ _ _ hq (M.2.2 1 r.toNatClampNeg) _ _ (hR _ (cl_lt c9 (by decide) (by decide)))) okm_X11_against okX11 mw_0 ml_X11_54 im_X11_against se_X11_X11_against rfl rfl (Nat.le_of_ble_eq_true rfl) ⟨Nat.le_of_ble_eq_true rfl, Nat.le_of_ble_eq_true rfl, Nat.le_of_ble_eq_true rfl, Nat.le_of_ble_eq_true rfl⟩ dX11_hold_41 (fun v w2 hp => ?_)
        obtain ⟨rfl, rfl⟩ := hp
        refine aw_istore (lv' := [(5, _), (4, _), (0, _), (1, _), (2, _), (3, _)]) X dX11_hold_44 (by decide) rfl ?_
        refine aw_iload X dX11_hold_46 rfl ?_
        refine aw_if_ne (tgt := 79) X dX11_hold_48 rfl (fun c48 => ?_) (fun c48 => ?_)
        · refine aw_iload X dX11_hold_79 rfl ?_
          refine aw_istore (lv' := [(5, _), (4, _), (0, _), (1, _), (2, _), (3, _)]) X dX11_hold_81 (by decide) rfl ?_
          refine aw_iload X dX11_hold_83 rfl ?_
          refine aw_if_le (tgt := 95) X dX11_hold_85 rfl (fun c85 => ?_) (fun c85 => ?_)
          · refine aw_aload_n X dX11_hold_95 rfl rfl ?_
            refine am_get X 4 (Nat.le_of_ble_eq_true rfl) fl_X11_49 rfl rfl dX11_hold_96 ?_
            refine aw_bipush X dX11_hold_99 cb_40 ?_
            refine aw_iload X dX11_hold_101 rfl ?_
            refine aw_imul X dX11_hold_103 ?_
            refine aw_iload_n X dX11_hold_104 rfl rfl ?_
            refine aw_iadd X dX11_hold_105 ?_
            refine aw_bipush X dX11_hold_106 cb_40 ?_
            refine aw_isub X dX11_hold_108 ?_
            refine aw_iload_n X dX11_hold_109 rfl rfl ?_
            refine aw_iconst X dX11_hold_110 ci_1 ?_
            refine aw_iadd X dX11_hold_111 ?_
            refine am_ast X 4 _ hq (by decide) rfl rfl (ix_v (ag_ok hS (hR _ (cl_lt c9 (by decide) (by decide))) c85).1 (ag_ok hS (hR _ (cl_lt c9 (by decide) (by decide))) c85).2) dX11_hold_112 ?_
            refine aw_iconst X dX11_hold_113 ci_1 ?_
            refine RTN (some (.int _)) _ _ _ _ _ dX11_hold_114 (⟨_, rfl⟩) (Nat.le_of_ble_eq_true rfl) (Nat.le_of_ble_eq_true rfl) ?_
            first | (constructor <;> ((try simp only [mo_hold, mo_g, c9, c14, c22, c48, c85, if_true, if_false, not_true_eq_false, not_false_eq_true, and_self, true_and, and_true, false_and, and_false, or_true, true_or, or_false, false_or, reduceCtorEq, ne_eq]); (try rfl); done)) | (clear RTN X; constructor <;> ((try simp_all only [mo_hold, mo_g, if_true, if_false, not_true_eq_false, not_false_eq_true, and_self, true_and, and_true, false_and, and_false, or_true, true_or, or_false, false_or, reduceCtorEq, ne_eq]); (try rfl); done))
          · refine aw_aload_n X dX11_hold_88 rfl rfl ?_
            refine aw_iload X dX11_hold_89 rfl ?_
            refine aw_callV X (kX11_fails _ _ _ _ hq _) okm_X11_fails okX11 mw_0 ml_X11_35 im_X11_fails se_X11_X11_fails rfl rfl (Nat.le_of_ble_eq_true rfl) ⟨Nat.le_of_ble_eq_true rfl, Nat.le_of_ble_eq_true rfl, Nat.le_of_ble_eq_true rfl, Nat.le_of_ble_eq_true rfl⟩ dX11_hold_91 (fun v w2 hp => ?_)
            obtain ⟨rfl, rfl⟩ := hp
            refine RTN (some (.int _)) _ _ _ _ _ dX11_hold_94 (⟨_, rfl⟩) (Nat.le_of_ble_eq_true rfl) (Nat.le_of_ble_eq_true rfl) ?_
            first | (constructor <;> ((try simp only [mo_hold, mo_g, c9, c14, c22, c48, c85, if_true, if_false, not_true_eq_false, not_false_eq_true, and_self, true_and, and_true, false_and, and_false, or_true, true_or, or_false, false_or, reduceCtorEq, ne_eq]); (try rfl); done)) | (clear RTN X; constructor <;> ((try simp_all only [mo_hold, mo_g, if_true, if_false, not_true_eq_false, not_false_eq_true, and_self, true_and, and_true, false_and, and_false, or_true, true_or, or_false, false_or, reduceCtorEq, ne_eq]); (try rfl); done))
        · refine aw_aload_n X dX11_hold_51 rfl rfl ?_
          refine am_get X 2 (Nat.le_of_ble_eq_true rfl) fl_X11_43 rfl rfl dX11_hold_52 ?_
          refine aw_iload X dX11_hold_55 rfl ?_
          refine am_ald X 2 _ (M.2.2 2) hq (by decide) rfl rfl rfl (bt_vp (hR _ (cl_lt c9 (by decide) (by decide))) (by decide) (by decide)) dX11_hold_57 ?_
          refine aw_iconst X dX11_hold_58 ci_4 ?_
          refine aw_icmp_ne (tgt := 79) X dX11_hold_59 rfl (fun c59 => ?_) (fun c59 => ?_)
          · refine aw_iload X dX11_hold_79 rfl ?_
            refine aw_istore (lv' := [(5, _), (4, _), (0, _), (1, _), (2, _), (3, _)]) X dX11_hold_81 (by decide) rfl ?_
            refine aw_iload X dX11_hold_83 rfl ?_
            refine aw_if_le (tgt := 95) X dX11_hold_85 rfl (fun c85 => ?_) (fun c85 => ?_)
            · refine aw_aload_n X dX11_hold_95 rfl rfl ?_
              refine am_get X 4 (Nat.le_of_ble_eq_true rfl) fl_X11_49 rfl rfl dX11_hold_96 ?_
              refine aw_bipush X dX11_hold_99 cb_40 ?_
              refine aw_iload X dX11_hold_101 rfl ?_
              refine aw_imul X dX11_hold_103 ?_
              refine aw_iload_n X dX11_hold_104 rfl rfl ?_
              refine aw_iadd X dX11_hold_105 ?_
              refine aw_bipush X dX11_hold_106 cb_40 ?_
              refine aw_isub X dX11_hold_108 ?_
              refine aw_iload_n X dX11_hold_109 rfl rfl ?_
              refine aw_iconst X dX11_hold_110 ci_1 ?_
              refine aw_iadd X dX11_hold_111 ?_
              refine am_ast X 4 _ hq (by decide) rfl rfl (ix_v (ag_ok hS (hR _ (cl_lt c9 (by decide) (by decide))) c85).1 (ag_ok hS (hR _ (cl_lt c9 (by decide) (by decide))) c85).2) dX11_hold_112 ?_
              refine aw_iconst X dX11_hold_113 ci_1 ?_
              refine RTN (some (.int _)) _ _ _ _ _ dX11_hold_114 (⟨_, rfl⟩) (Nat.le_of_ble_eq_true rfl) (Nat.le_of_ble_eq_true rfl) ?_
              first | (constructor <;> ((try simp only [mo_hold, mo_g, c9, c14, c22, c48, c59, c85, if_true, if_false, not_true_eq_false, not_false_eq_true, and_self, true_and, and_true, false_and, and_false, or_true, true_or, or_false, false_or, reduceCtorEq, ne_eq]); (try rfl); done)) | (clear RTN X; constructor <;> ((try simp_all only [mo_hold, mo_g, if_true, if_false, not_true_eq_false, not_false_eq_true, and_self, true_and, and_true, false_and, and_false, or_true, true_or, or_false, false_or, reduceCtorEq, ne_eq]); (try rfl); done))
            · refine aw_aload_n X dX11_hold_88 rfl rfl ?_
              refine aw_iload X dX11_hold_89 rfl ?_
              refine aw_callV X (kX11_fails _ _ _ _ hq _) okm_X11_fails okX11 mw_0 ml_X11_35 im_X11_fails se_X11_X11_fails rfl rfl (Nat.le_of_ble_eq_true rfl) ⟨Nat.le_of_ble_eq_true rfl, Nat.le_of_ble_eq_true rfl, Nat.le_of_ble_eq_true rfl, Nat.le_of_ble_eq_true rfl⟩ dX11_hold_91 (fun v w2 hp => ?_)
              obtain ⟨rfl, rfl⟩ := hp
              refine RTN (some (.int _)) _ _ _ _ _ dX11_hold_94 (⟨_, rfl⟩) (Nat.le_of_ble_eq_true rfl) (Nat.le_of_ble_eq_true rfl) ?_
              first | (constructor <;> ((try simp only [mo_hold, mo_g, c9, c14, c22, c48, c59, c85, if_true, if_false, not_true_eq_false, not_false_eq_true, and_self, true_and, and_true, false_and, and_false, or_true, true_or, or_false, false_or, reduceCtorEq, ne_eq]); (try rfl); done)) | (clear RTN X; constructor <;> ((try simp_all only [mo_hold, mo_g, if_true, if_false, not_true_eq_false, not_false_eq_true, and_self, true_and, and_true, false_and, and_false, or_true, true_or, or_false, false_or, reduceCtorEq, ne_eq]); (try rfl); done))
          · refine aw_iload_n X dX11_hold_62 rfl rfl ?_
            refine aw_if_lt (tgt := 79) X dX11_hold_63 rfl (fun c63 => ?_) (fun c63 => ?_)
            · rw [← Int32.not_le] at c63
              refine aw_iload X dX11_hold_79 rfl ?_
              refine aw_istore (lv' := [(5, _), (4, _), (0, _), (1, _), (2, _), (3, _)]) X dX11_hold_81 (by decide) rfl ?_
              refine aw_iload X dX11_hold_83 rfl ?_
              refine aw_if_le (tgt := 95) X dX11_hold_85 rfl (fun c85 => ?_) (fun c85 => ?_)
              · refine aw_aload_n X dX11_hold_95 rfl rfl ?_
                refine am_get X 4 (Nat.le_of_ble_eq_true rfl) fl_X11_49 rfl rfl dX11_hold_96 ?_
                refine aw_bipush X dX11_hold_99 cb_40 ?_
                refine aw_iload X dX11_hold_101 rfl ?_
                refine aw_imul X dX11_hold_103 ?_
                refine aw_iload_n X dX11_hold_104 rfl rfl ?_
                refine aw_iadd X dX11_hold_105 ?_
                refine aw_bipush X dX11_hold_106 cb_40 ?_
                refine aw_isub X dX11_hold_108 ?_
                refine aw_iload_n X dX11_hold_109 rfl rfl ?_
                refine aw_iconst X dX11_hold_110 ci_1 ?_
                refine aw_iadd X dX11_hold_111 ?_
                refine am_ast X 4 _ hq (by decide) rfl rfl (ix_v (ag_ok hS (hR _ (cl_lt c9 (by decide) (by decide))) c85).1 (ag_ok hS (hR _ (cl_lt c9 (by decide) (by decide))) c85).2) dX11_hold_112 ?_
                refine aw_iconst X dX11_hold_113 ci_1 ?_
                refine RTN (some (.int _)) _ _ _ _ _ dX11_hold_114 (⟨_, rfl⟩) (Nat.le_of_ble_eq_true rfl) (Nat.le_of_ble_eq_true rfl) ?_
                first | (constructor <;> ((try simp only [mo_hold, mo_g, c9, c14, c22, c48, c59, c63, c85, if_true, if_false, not_true_eq_false, not_false_eq_true, and_self, true_and, and_true, false_and, and_false, or_true, true_or, or_false, false_or, reduceCtorEq, ne_eq]); (try rfl); done)) | (clear RTN X; constructor <;> ((try simp_all only [mo_hold, mo_g, if_true, if_false, not_true_eq_false, not_false_eq_true, and_self, true_and, and_true, false_and, and_false, or_true, true_or, or_false, false_or, reduceCtorEq, ne_eq]); (try rfl); done))
              · refine aw_aload_n X dX11_hold_88 rfl rfl ?_
                refine aw_iload X dX11_hold_89 rfl ?_
                refine aw_callV X (kX11_fails _ _ _ _ hq _) okm_X11_fails okX11 mw_0 ml_X11_35 im_X11_fails se_X11_X11_fails rfl rfl (Nat.le_of_ble_eq_true rfl) ⟨Nat.le_of_ble_eq_true rfl, Nat.le_of_ble_eq_true rfl, Nat.le_of_ble_eq_true rfl, Nat.le_of_ble_eq_true rfl⟩ dX11_hold_91 (fun v w2 hp => ?_)
                obtain ⟨rfl, rfl⟩ := hp
                refine RTN (some (.int _)) _ _ _ _ _ dX11_hold_94 (⟨_, rfl⟩) (Nat.le_of_ble_eq_true rfl) (Nat.le_of_ble_eq_true rfl) ?_
                first | (constructor <;> ((try simp only [mo_hold, mo_g, c9, c14, c22, c48, c59, c63, c85, if_true, if_false, not_true_eq_false, not_false_eq_true, and_self, true_and, and_true, false_and, and_false, or_true, true_or, or_false, false_or, reduceCtorEq, ne_eq]); (try rfl); done)) | (clear RTN X; constructor <;> ((try simp_all only [mo_hold, mo_g, if_true, if_false, not_true_eq_false, not_false_eq_true, and_self, true_and, and_true, false_and, and_false, or_true, true_or, or_false, false_or, reduceCtorEq, ne_eq]); (try rfl); done))
            · rw [Int32.not_lt] at c63
              refine aw_aload_n X dX11_hold_66 rfl rfl ?_
              refine am_get X 33 (Nat.le_of_ble_eq_true rfl) fl_X11_67 rfl rfl dX11_hold_67 ?_
              refine aw_iload_n X dX11_hold_70 rfl rfl ?_
              refine am_zld X 33 _ (M.2.2 33) hq (by decide) rfl rfl rfl (bt_vp (refs_bt hF c22) (by decide) (by decide)) dX11_hold_71 ?_
              refine aw_if_ne (tgt := 79) X dX11_hold_72 rfl (fun c72 => ?_) (fun c72 => ?_)
              · refine aw_iload X dX11_hold_79 rfl ?_
                refine aw_istore (lv' := [(5, _), (4, _), (0, _), (1, _), (2, _), (3, _)]) X dX11_hold_81 (by decide) rfl ?_
                refine aw_iload X dX11_hold_83 rfl ?_
                refine aw_if_le (tgt := 95) X dX11_hold_85 rfl (fun c85 => ?_) (fun c85 => ?_)
                · refine aw_aload_n X dX11_hold_95 rfl rfl ?_
                  refine am_get X 4 (Nat.le_of_ble_eq_true rfl) fl_X11_49 rfl rfl dX11_hold_96 ?_
                  refine aw_bipush X dX11_hold_99 cb_40 ?_
                  refine aw_iload X dX11_hold_101 rfl ?_
                  refine aw_imul X dX11_hold_103 ?_
                  refine aw_iload_n X dX11_hold_104 rfl rfl ?_
                  refine aw_iadd X dX11_hold_105 ?_
                  refine aw_bipush X dX11_hold_106 cb_40 ?_
                  refine aw_isub X dX11_hold_108 ?_
                  refine aw_iload_n X dX11_hold_109 rfl rfl ?_
                  refine aw_iconst X dX11_hold_110 ci_1 ?_
                  refine aw_iadd X dX11_hold_111 ?_
                  refine am_ast X 4 _ hq (by decide) rfl rfl (ix_v (ag_ok hS (hR _ (cl_lt c9 (by decide) (by decide))) c85).1 (ag_ok hS (hR _ (cl_lt c9 (by decide) (by decide))) c85).2) dX11_hold_112 ?_
                  refine aw_iconst X dX11_hold_113 ci_1 ?_
                  refine RTN (some (.int _)) _ _ _ _ _ dX11_hold_114 (⟨_, rfl⟩) (Nat.le_of_ble_eq_true rfl) (Nat.le_of_ble_eq_true rfl) ?_
                  first | (constructor <;> ((try simp only [mo_hold, mo_g, c9, c14, c22, c48, c59, c63, c72, c85, if_true, if_false, not_true_eq_false, not_false_eq_true, and_self, true_and, and_true, false_and, and_false, or_true, true_or, or_false, false_or, reduceCtorEq, ne_eq]); (try rfl); done)) | (clear RTN X; constructor <;> ((try simp_all only [mo_hold, mo_g, if_true, if_false, not_true_eq_false, not_false_eq_true, and_self, true_and, and_true, false_and, and_false, or_true, true_or, or_false, false_or, reduceCtorEq, ne_eq]); (try rfl); done))
                · refine aw_aload_n X dX11_hold_88 rfl rfl ?_
                  refine aw_iload X dX11_hold_89 rfl ?_
                  refine aw_callV X (kX11_fails _ _ _ _ hq _) okm_X11_fails okX11 mw_0 ml_X11_35 im_X11_fails se_X11_X11_fails rfl rfl (Nat.le_of_ble_eq_true rfl) ⟨Nat.le_of_ble_eq_true rfl, Nat.le_of_ble_eq_true rfl, Nat.le_of_ble_eq_true rfl, Nat.le_of_ble_eq_true rfl⟩ dX11_hold_91 (fun v w2 hp => ?_)
                  obtain ⟨rfl, rfl⟩ := hp
                  refine RTN (some (.int _)) _ _ _ _ _ dX11_hold_94 (⟨_, rfl⟩) (Nat.le_of_ble_eq_true rfl) (Nat.le_of_ble_eq_true rfl) ?_
                  first | (constructor <;> ((try simp only [mo_hold, mo_g, c9, c14, c22, c48, c59, c63, c72, c85, if_true, if_false, not_true_eq_false, not_false_eq_true, and_self, true_and, and_true, false_and, and_false, or_true, true_or, or_false, false_or, reduceCtorEq, ne_eq]); (try rfl); done)) | (clear RTN X; constructor <;> ((try simp_all only [mo_hold, mo_g, if_true, if_false, not_true_eq_false, not_false_eq_true, and_self, true_and, and_true, false_and, and_false, or_true, true_or, or_false, false_or, reduceCtorEq, ne_eq]); (try rfl); done))
              · refine aw_iconst X dX11_hold_75 ci_5 ?_
                refine aw_goto (tgt := 81) X dX11_hold_76 rfl ?_
                refine aw_istore (lv' := [(5, _), (4, _), (0, _), (1, _), (2, _), (3, _)]) X dX11_hold_81 (by decide) rfl ?_
                refine aw_iload X dX11_hold_83 rfl ?_
                refine aw_if_le (tgt := 95) X dX11_hold_85 rfl (fun c85 => ?_) (fun c85 => ?_)
                · exact absurd c85 (by decide)
                · refine aw_aload_n X dX11_hold_88 rfl rfl ?_
                  refine aw_iload X dX11_hold_89 rfl ?_
                  refine aw_callV X (kX11_fails _ _ _ _ hq _) okm_X11_fails okX11 mw_0 ml_X11_35 im_X11_fails se_X11_X11_fails rfl rfl (Nat.le_of_ble_eq_true rfl) ⟨Nat.le_of_ble_eq_true rfl, Nat.le_of_ble_eq_true rfl, Nat.le_of_ble_eq_true rfl, Nat.le_of_ble_eq_true rfl⟩ dX11_hold_91 (fun v w2 hp => ?_)
                  obtain ⟨rfl, rfl⟩ := hp
                  refine RTN (some (.int _)) _ _ _ _ _ dX11_hold_94 (⟨_, rfl⟩) (Nat.le_of_ble_eq_true rfl) (Nat.le_of_ble_eq_true rfl) ?_
                  first | (constructor <;> ((try simp only [mo_hold, mo_g, c9, c14, c22, c48, c59, c63, c72, if_true, if_false, not_true_eq_false, not_false_eq_true, and_self, true_and, and_true, false_and, and_false, or_true, true_or, or_false, false_or, reduceCtorEq, ne_eq]); (try rfl); done)) | (clear RTN X; constructor <;> ((try simp_all only [mo_hold, mo_g, if_true, if_false, not_true_eq_false, not_false_eq_true, and_self, true_and, and_true, false_and, and_false, or_true, true_or, or_false, false_or, reduceCtorEq, ne_eq]); (try rfl); done))
      · rw [bI_0] at c22
        refine aw_bipush X dX11_hold_25 cb_m2 ?_
        refine RTN (some (.int _)) _ _ _ _ _ dX11_hold_27 (⟨_, rfl⟩) (Nat.le_of_ble_eq_true rfl) (Nat.le_of_ble_eq_true rfl) ?_
        first | (constructor <;> ((try simp only [mo_hold, mo_g, c9, c14, c22, if_true, if_false, not_true_eq_false, not_false_eq_true, and_self, true_and, and_true, false_and, and_false, or_true, true_or, or_false, false_or, reduceCtorEq, ne_eq]); (try rfl); done)) | (clear RTN X; constructor <;> ((try simp_all only [mo_hold, mo_g, if_true, if_false, not_true_eq_false, not_false_eq_true, and_self, true_and, and_true, false_and, and_false, or_true, true_or, or_false, false_or, reduceCtorEq, ne_eq]); (try rfl); done))
set_option maxRecDepth 100000 in
set_option maxHeartbeats 4000000 in
theorem kX11_held (G : GG) (l : Launch) (q : Nat → Nat) (M : MS) (hq : mInj q) (hR : mi_row M) (hS : mi_size M) (r k : Int32) : MC G l yX11_held cX11_held 5 ((Option.some .int)) ({ frames := 2, cells := 0, slots := 0, locals := 49 } : Room) [.ref (q 0), .int r, .int k] (mw G q M) (fun v w' => v = some (.int (mo_held M r k).1) ∧ w' = mw G q (mo_held M r k).2) := by
  refine mc_int (by decide) (Nat.le_of_ble_eq_true rfl) rfl rfl ?_
  intro p e s m args below meth c A H0 Q X hnm RTN
  have X : Cx G p s m args meth c A H0 cX11_held 5 RX11 := X
  refine aw_aload_n X dX11_held_0 rfl rfl ?_
  refine aw_iconst X dX11_held_1 ci_0 ?_
  refine am_put X 0 (M' := sI _ 0 _) (Nat.le_of_ble_eq_true rfl) fl_X11_1 rfl rfl (rfl) (rfl) (mf_0 _ _ _) rfl dX11_held_2 ?_
  refine aw_iload_n X dX11_held_5 rfl rfl ?_
  refine aw_callS X (kX11_isRow _ _ _ _) okm_X11_isRow ml_X11_29 st_X11_isRow rfl rfl (Nat.le_of_ble_eq_true rfl) ⟨Nat.le_of_ble_eq_true rfl, Nat.le_of_ble_eq_true rfl, Nat.le_of_ble_eq_true rfl, Nat.le_of_ble_eq_true rfl⟩ dX11_held_6 (fun v w2 hp => ?_)
  obtain ⟨rfl, rfl⟩ := hp
  refine aw_if_ne (tgt := 15) X dX11_held_9 rfl (fun c9 => ?_) (fun c9 => ?_)
  · rw [bI_n0] at c9
    refine aw_aload_n X dX11_held_15 rfl rfl ?_
    refine am_get X 1 (Nat.le_of_ble_eq_true rfl) fl_X11_16 rfl rfl dX11_held_16 ?_
    refine aw_iload_n X dX11_held_19 rfl rfl ?_
    refine am_ald X 1 _ (M.2.2 1) hq (by decide) rfl rfl rfl (bt_vp (c9) (by decide) (by decide)) dX11_held_20 ?_
    refine aw_istore_n (lv' := [(3, _), (0, _), (1, _), (2, _)]) X dX11_held_21 rfl (by decide) rfl ?_
    refine aw_aload_n X dX11_held_22 rfl rfl ?_
    refine aw_iload_n X dX11_held_23 rfl rfl ?_
    refine aw_iconst X dX11_held_24 ci_3 ?_
    refine aw_iload_n X dX11_held_25 rfl rfl ?_
    refine aw_callV X (kX11_against _ _ _ _ hq (M.2.2 1 r.toNatClampNeg) _ _ (hR _ (cl_lt c9 (by decide) (by decide)))) okm_X11_against okX11 mw_0 ml_X11_54 im_X11_against se_X11_X11_against rfl rfl (Nat.le_of_ble_eq_true rfl) ⟨Nat.le_of_ble_eq_true rfl, Nat.le_of_ble_eq_true rfl, Nat.le_of_ble_eq_true rfl, Nat.le_of_ble_eq_true rfl⟩ dX11_held_26 (fun v w2 hp => ?_)
    obtain ⟨rfl, rfl⟩ := hp
    refine aw_istore (lv' := [(4, _), (3, _), (0, _), (1, _), (2, _)]) X dX11_held_29 (by decide) rfl ?_
    refine aw_iload X dX11_held_31 rfl ?_
    refine aw_if_ne (tgt := 57) X dX11_held_33 rfl (fun c33 => ?_) (fun c33 => ?_)
    · refine aw_iload X dX11_held_57 rfl ?_
      refine aw_istore (lv' := [(4, _), (3, _), (0, _), (1, _), (2, _)]) X dX11_held_59 (by decide) rfl ?_
      refine aw_iload X dX11_held_61 rfl ?_
      refine aw_if_le (tgt := 75) X dX11_held_63 rfl (fun c63 => ?_) (fun c63 => ?_)
      · refine aw_aload_n X dX11_held_75 rfl rfl ?_
        refine am_get X 4 (Nat.le_of_ble_eq_true rfl) fl_X11_49 rfl rfl dX11_held_76 ?_
        refine aw_bipush X dX11_held_79 cb_40 ?_
        refine aw_iload_n X dX11_held_81 rfl rfl ?_
        refine aw_imul X dX11_held_82 ?_
        refine aw_iload_n X dX11_held_83 rfl rfl ?_
        refine aw_iadd X dX11_held_84 ?_
        refine aw_bipush X dX11_held_85 cb_40 ?_
        refine aw_isub X dX11_held_87 ?_
        refine am_ald X 4 _ (M.2.2 4) hq (by decide) rfl rfl rfl (ix_v (ag_ok hS (hR _ (cl_lt c9 (by decide) (by decide))) c63).1 (ag_ok hS (hR _ (cl_lt c9 (by decide) (by decide))) c63).2) dX11_held_88 ?_
        refine aw_iconst X dX11_held_89 ci_1 ?_
        refine aw_isub X dX11_held_90 ?_
        refine RTN (some (.int _)) _ _ _ _ _ dX11_held_91 (⟨_, rfl⟩) (Nat.le_of_ble_eq_true rfl) (Nat.le_of_ble_eq_true rfl) ?_
        first | (constructor <;> ((try simp only [mo_held, mo_h, c9, c33, c63, if_true, if_false, not_true_eq_false, not_false_eq_true, and_self, true_and, and_true, false_and, and_false, or_true, true_or, or_false, false_or, reduceCtorEq, ne_eq]); (try rfl); done)) | (clear RTN X; constructor <;> ((try simp_all only [mo_held, mo_h, if_true, if_false, not_true_eq_false, not_false_eq_true, and_self, true_and, and_true, false_and, and_false, or_true, true_or, or_false, false_or, reduceCtorEq, ne_eq]); (try rfl); done))
      · refine aw_aload_n X dX11_held_66 rfl rfl ?_
        refine aw_iload X dX11_held_67 rfl ?_
        refine aw_callV X (kX11_fails _ _ _ _ hq _) okm_X11_fails okX11 mw_0 ml_X11_35 im_X11_fails se_X11_X11_fails rfl rfl (Nat.le_of_ble_eq_true rfl) ⟨Nat.le_of_ble_eq_true rfl, Nat.le_of_ble_eq_true rfl, Nat.le_of_ble_eq_true rfl, Nat.le_of_ble_eq_true rfl⟩ dX11_held_69 (fun v w2 hp => ?_)
        obtain ⟨rfl, rfl⟩ := hp
        refine aw_goto (tgt := 91) X dX11_held_72 rfl ?_
        refine RTN (some (.int _)) _ _ _ _ _ dX11_held_91 (⟨_, rfl⟩) (Nat.le_of_ble_eq_true rfl) (Nat.le_of_ble_eq_true rfl) ?_
        first | (constructor <;> ((try simp only [mo_held, mo_h, c9, c33, c63, if_true, if_false, not_true_eq_false, not_false_eq_true, and_self, true_and, and_true, false_and, and_false, or_true, true_or, or_false, false_or, reduceCtorEq, ne_eq]); (try rfl); done)) | (clear RTN X; constructor <;> ((try simp_all only [mo_held, mo_h, if_true, if_false, not_true_eq_false, not_false_eq_true, and_self, true_and, and_true, false_and, and_false, or_true, true_or, or_false, false_or, reduceCtorEq, ne_eq]); (try rfl); done))
    · refine aw_aload_n X dX11_held_36 rfl rfl ?_
      refine am_get X 4 (Nat.le_of_ble_eq_true rfl) fl_X11_49 rfl rfl dX11_held_37 ?_
      refine aw_bipush X dX11_held_40 cb_40 ?_
      refine aw_iload_n X dX11_held_42 rfl rfl ?_
      refine aw_imul X dX11_held_43 ?_
      refine aw_iload_n X dX11_held_44 rfl rfl ?_
      refine aw_iadd X dX11_held_45 ?_
      refine aw_bipush X dX11_held_46 cb_40 ?_
      refine aw_isub X dX11_held_48 ?_
      refine am_ald X 4 _ (M.2.2 4) hq (by decide) rfl rfl rfl (ix_v (ag_ok0 hS (hR _ (cl_lt c9 (by decide) (by decide))) c33).1 (ag_ok0 hS (hR _ (cl_lt c9 (by decide) (by decide))) c33).2) dX11_held_49 ?_
      refine aw_if_ne (tgt := 57) X dX11_held_50 rfl (fun c50 => ?_) (fun c50 => ?_)
      · refine aw_iload X dX11_held_57 rfl ?_
        refine aw_istore (lv' := [(4, _), (3, _), (0, _), (1, _), (2, _)]) X dX11_held_59 (by decide) rfl ?_
        refine aw_iload X dX11_held_61 rfl ?_
        refine aw_if_le (tgt := 75) X dX11_held_63 rfl (fun c63 => ?_) (fun c63 => ?_)
        · refine aw_aload_n X dX11_held_75 rfl rfl ?_
          refine am_get X 4 (Nat.le_of_ble_eq_true rfl) fl_X11_49 rfl rfl dX11_held_76 ?_
          refine aw_bipush X dX11_held_79 cb_40 ?_
          refine aw_iload_n X dX11_held_81 rfl rfl ?_
          refine aw_imul X dX11_held_82 ?_
          refine aw_iload_n X dX11_held_83 rfl rfl ?_
          refine aw_iadd X dX11_held_84 ?_
          refine aw_bipush X dX11_held_85 cb_40 ?_
          refine aw_isub X dX11_held_87 ?_
          refine am_ald X 4 _ (M.2.2 4) hq (by decide) rfl rfl rfl (ix_v (ag_ok hS (hR _ (cl_lt c9 (by decide) (by decide))) c63).1 (ag_ok hS (hR _ (cl_lt c9 (by decide) (by decide))) c63).2) dX11_held_88 ?_
          refine aw_iconst X dX11_held_89 ci_1 ?_
          refine aw_isub X dX11_held_90 ?_
          refine RTN (some (.int _)) _ _ _ _ _ dX11_held_91 (⟨_, rfl⟩) (Nat.le_of_ble_eq_true rfl) (Nat.le_of_ble_eq_true rfl) ?_
          first | (constructor <;> ((try simp only [mo_held, mo_h, c9, c33, c50, c63, if_true, if_false, not_true_eq_false, not_false_eq_true, and_self, true_and, and_true, false_and, and_false, or_true, true_or, or_false, false_or, reduceCtorEq, ne_eq]); (try rfl); done)) | (clear RTN X; constructor <;> ((try simp_all only [mo_held, mo_h, if_true, if_false, not_true_eq_false, not_false_eq_true, and_self, true_and, and_true, false_and, and_false, or_true, true_or, or_false, false_or, reduceCtorEq, ne_eq]); (try rfl); done))
        · refine aw_aload_n X dX11_held_66 rfl rfl ?_
          refine aw_iload X dX11_held_67 rfl ?_
          refine aw_callV X (kX11_fails _ _ _ _ hq _) okm_X11_fails okX11 mw_0 ml_X11_35 im_X11_fails se_X11_X11_fails rfl rfl (Nat.le_of_ble_eq_true rfl) ⟨Nat.le_of_ble_eq_true rfl, Nat.le_of_ble_eq_true rfl, Nat.le_of_ble_eq_true rfl, Nat.le_of_ble_eq_true rfl⟩ dX11_held_69 (fun v w2 hp => ?_)
          obtain ⟨rfl, rfl⟩ := hp
          refine aw_goto (tgt := 91) X dX11_held_72 rfl ?_
          refine RTN (some (.int _)) _ _ _ _ _ dX11_held_91 (⟨_, rfl⟩) (Nat.le_of_ble_eq_true rfl) (Nat.le_of_ble_eq_true rfl) ?_
          first | (constructor <;> ((try simp only [mo_held, mo_h, c9, c33, c50, c63, if_true, if_false, not_true_eq_false, not_false_eq_true, and_self, true_and, and_true, false_and, and_false, or_true, true_or, or_false, false_or, reduceCtorEq, ne_eq]); (try rfl); done)) | (clear RTN X; constructor <;> ((try simp_all only [mo_held, mo_h, if_true, if_false, not_true_eq_false, not_false_eq_true, and_self, true_and, and_true, false_and, and_false, or_true, true_or, or_false, false_or, reduceCtorEq, ne_eq]); (try rfl); done))
      · refine aw_iconst X dX11_held_53 ci_1 ?_
        refine aw_goto (tgt := 59) X dX11_held_54 rfl ?_
        refine aw_istore (lv' := [(4, _), (3, _), (0, _), (1, _), (2, _)]) X dX11_held_59 (by decide) rfl ?_
        refine aw_iload X dX11_held_61 rfl ?_
        refine aw_if_le (tgt := 75) X dX11_held_63 rfl (fun c63 => ?_) (fun c63 => ?_)
        · exact absurd c63 (by decide)
        · refine aw_aload_n X dX11_held_66 rfl rfl ?_
          refine aw_iload X dX11_held_67 rfl ?_
          refine aw_callV X (kX11_fails _ _ _ _ hq _) okm_X11_fails okX11 mw_0 ml_X11_35 im_X11_fails se_X11_X11_fails rfl rfl (Nat.le_of_ble_eq_true rfl) ⟨Nat.le_of_ble_eq_true rfl, Nat.le_of_ble_eq_true rfl, Nat.le_of_ble_eq_true rfl, Nat.le_of_ble_eq_true rfl⟩ dX11_held_69 (fun v w2 hp => ?_)
          obtain ⟨rfl, rfl⟩ := hp
          refine aw_goto (tgt := 91) X dX11_held_72 rfl ?_
          refine RTN (some (.int _)) _ _ _ _ _ dX11_held_91 (⟨_, rfl⟩) (Nat.le_of_ble_eq_true rfl) (Nat.le_of_ble_eq_true rfl) ?_
          first | (constructor <;> ((try simp only [mo_held, mo_h, c9, c33, c50, if_true, if_false, not_true_eq_false, not_false_eq_true, and_self, true_and, and_true, false_and, and_false, or_true, true_or, or_false, false_or, reduceCtorEq, ne_eq]); (try rfl); done)) | (clear RTN X; constructor <;> ((try simp_all only [mo_held, mo_h, if_true, if_false, not_true_eq_false, not_false_eq_true, and_self, true_and, and_true, false_and, and_false, or_true, true_or, or_false, false_or, reduceCtorEq, ne_eq]); (try rfl); done))
  · rw [bI_0] at c9
    refine aw_bipush X dX11_held_12 cb_m2 ?_
    refine RTN (some (.int _)) _ _ _ _ _ dX11_held_14 (⟨_, rfl⟩) (Nat.le_of_ble_eq_true rfl) (Nat.le_of_ble_eq_true rfl) ?_
    first | (constructor <;> ((try simp only [mo_held, mo_h, c9, if_true, if_false, not_true_eq_false, not_false_eq_true, and_self, true_and, and_true, false_and, and_false, or_true, true_or, or_false, false_or, reduceCtorEq, ne_eq]); (try rfl); done)) | (clear RTN X; constructor <;> ((try simp_all only [mo_held, mo_h, if_true, if_false, not_true_eq_false, not_false_eq_true, and_self, true_and, and_true, false_and, and_false, or_true, true_or, or_false, false_or, reduceCtorEq, ne_eq]); (try rfl); done))
def mo_pane (M : MS) : Int32 × MS := if 0 ≤ (oI (mo_fp (sI M 0 0))) then (M.1 7 + 1, mo_begin (sI M 0 0) (oI (mo_fp (sI M 0 0))).toNatClampNeg 0 1 1) else (-5, (sI M 0 0))
def mo_memory (M : MS) (r n mode wide : Int32) : Int32 × MS :=
  if bt r 0 7 then
    if bt mode 1 3 ∧ bt n 0 40 then
      if 0 ≤ (oI (mo_fp (sI M 0 0))) then (M.1 7 + 1, sF (sF (mo_begin (sI M 0 0) (oI (mo_fp (sI M 0 0))).toNatClampNeg 1 wide mode) 15 (oI (mo_fp (sI M 0 0))).toNatClampNeg (M.2.2 1 r.toNatClampNeg)) 12 (oI (mo_fp (sI M 0 0))).toNatClampNeg n)
      else (-5, (sI M 0 0))
    else (-3, (sI M 0 0))
  else (-2, (sI M 0 0))
set_option maxRecDepth 100000 in
set_option maxHeartbeats 4000000 in
theorem kX11_pane (G : GG) (l : Launch) (q : Nat → Nat) (M : MS) (hq : mInj q) : MC G l yX11_pane cX11_pane 2 ((Option.some .int)) ({ frames := 1, cells := 0, slots := 0, locals := 24 } : Room) [.ref (q 0)] (mw G q M) (fun v w' => v = some (.int (mo_pane M).1) ∧ w' = mw G q (mo_pane M).2) := by
  refine mc_int (by decide) (Nat.le_of_ble_eq_true rfl) rfl rfl ?_
  intro p e s m args below meth c A H0 Q X hnm RTN
  have X : Cx G p s m args meth c A H0 cX11_pane 2 RX11 := X
  refine aw_aload_n X dX11_pane_0 rfl rfl ?_
  refine aw_iconst X dX11_pane_1 ci_0 ?_
  refine am_put X 0 (M' := sI _ 0 _) (Nat.le_of_ble_eq_true rfl) fl_X11_1 rfl rfl (rfl) (rfl) (mf_0 _ _ _) rfl dX11_pane_2 ?_
  refine aw_aload_n X dX11_pane_5 rfl rfl ?_
  refine aw_callV X (kX11_freePlace _ _ _ _ hq) okm_X11_freePlace okX11 mw_0 ml_X11_101 im_X11_freePlace se_X11_X11_freePlace rfl rfl (Nat.le_of_ble_eq_true rfl) ⟨Nat.le_of_ble_eq_true rfl, Nat.le_of_ble_eq_true rfl, Nat.le_of_ble_eq_true rfl, Nat.le_of_ble_eq_true rfl⟩ dX11_pane_6 (fun v w2 hp => ?_)
  obtain ⟨rfl, rfl⟩ := hp
  refine aw_istore_n (lv' := [(1, _), (0, _)]) X dX11_pane_9 rfl (by decide) rfl ?_
  refine aw_iload_n X dX11_pane_10 rfl rfl ?_
  refine aw_if_ge (tgt := 19) X dX11_pane_11 rfl (fun c11 => ?_) (fun c11 => ?_)
  · refine aw_aload_n X dX11_pane_19 rfl rfl ?_
    refine aw_iload_n X dX11_pane_20 rfl rfl ?_
    refine aw_iconst X dX11_pane_21 ci_0 ?_
    refine aw_iconst X dX11_pane_22 ci_1 ?_
    refine aw_iconst X dX11_pane_23 ci_1 ?_
    refine aw_callV X (kX11_begin _ _ _ _ hq (oI (mo_fp (sI M 0 0))) _ _ _ (fp_bt' c11) (rfl)) okm_X11_begin okX11 mw_0 ml_X11_104 im_X11_begin se_X11_X11_begin rfl rfl (Nat.le_of_ble_eq_true rfl) ⟨Nat.le_of_ble_eq_true rfl, Nat.le_of_ble_eq_true rfl, Nat.le_of_ble_eq_true rfl, Nat.le_of_ble_eq_true rfl⟩ dX11_pane_24 (fun v w2 hp => ?_)
    obtain ⟨rfl, rfl⟩ := hp
    refine RTN (some (.int _)) _ _ _ _ _ dX11_pane_27 (⟨_, rfl⟩) (Nat.le_of_ble_eq_true rfl) (Nat.le_of_ble_eq_true rfl) ?_
    first | (constructor <;> ((try simp only [mo_pane, c11, if_true, if_false, not_true_eq_false, not_false_eq_true, and_self, true_and, and_true, false_and, and_false, or_true, true_or, or_false, false_or, reduceCtorEq, ne_eq]); (try rfl); done)) | (clear RTN X; constructor <;> ((try simp_all only [mo_pane, if_true, if_false, not_true_eq_false, not_false_eq_true, and_self, true_and, and_true, false_and, and_false, or_true, true_or, or_false, false_or, reduceCtorEq, ne_eq]); (try rfl); done))
  · refine aw_bipush X dX11_pane_14 cb_m5 ?_
    refine aw_goto (tgt := 27) X dX11_pane_16 rfl ?_
    refine RTN (some (.int _)) _ _ _ _ _ dX11_pane_27 (⟨_, rfl⟩) (Nat.le_of_ble_eq_true rfl) (Nat.le_of_ble_eq_true rfl) ?_
    first | (constructor <;> ((try simp only [mo_pane, c11, if_true, if_false, not_true_eq_false, not_false_eq_true, and_self, true_and, and_true, false_and, and_false, or_true, true_or, or_false, false_or, reduceCtorEq, ne_eq]); (try rfl); done)) | (clear RTN X; constructor <;> ((try simp_all only [mo_pane, if_true, if_false, not_true_eq_false, not_false_eq_true, and_self, true_and, and_true, false_and, and_false, or_true, true_or, or_false, false_or, reduceCtorEq, ne_eq]); (try rfl); done))
set_option maxRecDepth 100000 in
set_option maxHeartbeats 4000000 in
theorem kX11_memory (G : GG) (l : Launch) (q : Nat → Nat) (M : MS) (hq : mInj q) (hR : mi_row M) (hS : mi_size M) (r n mode wide : Int32) (hw : vp_nar .boolean wide = wide) : MC G l yX11_memory cX11_memory 7 ((Option.some .int)) ({ frames := 2, cells := 0, slots := 0, locals := 45 } : Room) [.ref (q 0), .int r, .int n, .int mode, .int wide] (mw G q M) (fun v w' => v = some (.int (mo_memory M r n mode wide).1) ∧ w' = mw G q (mo_memory M r n mode wide).2) := by
  refine mc_int (by decide) (Nat.le_of_ble_eq_true rfl) rfl rfl ?_
  intro p e s m args below meth c A H0 Q X hnm RTN
  have X : Cx G p s m args meth c A H0 cX11_memory 7 RX11 := X
  refine aw_aload_n X dX11_memory_0 rfl rfl ?_
  refine aw_iconst X dX11_memory_1 ci_0 ?_
  refine am_put X 0 (M' := sI _ 0 _) (Nat.le_of_ble_eq_true rfl) fl_X11_1 rfl rfl (rfl) (rfl) (mf_0 _ _ _) rfl dX11_memory_2 ?_
  refine aw_iload_n X dX11_memory_5 rfl rfl ?_
  refine aw_callS X (kX11_isRow _ _ _ _) okm_X11_isRow ml_X11_29 st_X11_isRow rfl rfl (Nat.le_of_ble_eq_true rfl) ⟨Nat.le_of_ble_eq_true rfl, Nat.le_of_ble_eq_true rfl, Nat.le_of_ble_eq_true rfl, Nat.le_of_ble_eq_true rfl⟩ dX11_memory_6 (fun v w2 hp => ?_)
  obtain ⟨rfl, rfl⟩ := hp
  refine aw_if_ne (tgt := 15) X dX11_memory_9 rfl (fun c9 => ?_) (fun c9 => ?_)
  · rw [bI_n0] at c9
    refine aw_iload_n X dX11_memory_15 rfl rfl ?_
    refine aw_i2l X dX11_memory_16 ?_
    refine aw_lconst X dX11_memory_17 cl_1 ?_
    refine aw_ldc2 X kl_X11_108 dX11_memory_18 ?_
    refine aw_callS X (kX11_inI _ _ _ _ _ _ 1 3 rfl rfl) okm_X11_in ml_X11_12 st_X11_in rfl rfl (Nat.le_of_ble_eq_true rfl) ⟨Nat.le_of_ble_eq_true rfl, Nat.le_of_ble_eq_true rfl, Nat.le_of_ble_eq_true rfl, Nat.le_of_ble_eq_true rfl⟩ dX11_memory_21 (fun v w2 hp => ?_)
    obtain ⟨rfl, rfl⟩ := hp
    refine aw_if_eq (tgt := 39) X dX11_memory_24 rfl (fun c24 => ?_) (fun c24 => ?_)
    · rw [bI_0] at c24
      refine aw_bipush X dX11_memory_39 cb_m3 ?_
      refine RTN (some (.int _)) _ _ _ _ _ dX11_memory_41 (⟨_, rfl⟩) (Nat.le_of_ble_eq_true rfl) (Nat.le_of_ble_eq_true rfl) ?_
      first | (constructor <;> ((try simp only [mo_memory, c9, c24, if_true, if_false, not_true_eq_false, not_false_eq_true, and_self, true_and, and_true, false_and, and_false, or_true, true_or, or_false, false_or, reduceCtorEq, ne_eq]); (try rfl); done)) | (clear RTN X; constructor <;> ((try simp_all only [mo_memory, if_true, if_false, not_true_eq_false, not_false_eq_true, and_self, true_and, and_true, false_and, and_false, or_true, true_or, or_false, false_or, reduceCtorEq, ne_eq]); (try rfl); done))
    · rw [bI_n0] at c24
      refine aw_iload_n X dX11_memory_27 rfl rfl ?_
      refine aw_i2l X dX11_memory_28 ?_
      refine aw_lconst X dX11_memory_29 cl_0 ?_
      refine aw_ldc2 X kl_X11_110 dX11_memory_30 ?_
      refine aw_callS X (kX11_inI _ _ _ _ _ _ 0 40 rfl rfl) okm_X11_in ml_X11_12 st_X11_in rfl rfl (Nat.le_of_ble_eq_true rfl) ⟨Nat.le_of_ble_eq_true rfl, Nat.le_of_ble_eq_true rfl, Nat.le_of_ble_eq_true rfl, Nat.le_of_ble_eq_true rfl⟩ dX11_memory_33 (fun v w2 hp => ?_)
      obtain ⟨rfl, rfl⟩ := hp
      refine aw_if_ne (tgt := 42) X dX11_memory_36 rfl (fun c36 => ?_) (fun c36 => ?_)
      · rw [bI_n0] at c36
        refine aw_aload_n X dX11_memory_42 rfl rfl ?_
        refine aw_callV X (kX11_freePlace _ _ _ _ hq) okm_X11_freePlace okX11 mw_0 ml_X11_101 im_X11_freePlace se_X11_X11_freePlace rfl rfl (Nat.le_of_ble_eq_true rfl) ⟨Nat.le_of_ble_eq_true rfl, Nat.le_of_ble_eq_true rfl, Nat.le_of_ble_eq_true rfl, Nat.le_of_ble_eq_true rfl⟩ dX11_memory_43 (fun v w2 hp => ?_)
        obtain ⟨rfl, rfl⟩ := hp
        refine aw_istore (lv' := [(5, _), (0, _), (1, _), (2, _), (3, _), (4, _)]) X dX11_memory_46 (by decide) rfl ?_
        refine aw_iload X dX11_memory_48 rfl ?_
        refine aw_if_ge (tgt := 56) X dX11_memory_50 rfl (fun c50 => ?_) (fun c50 => ?_)
        · refine aw_aload_n X dX11_memory_56 rfl rfl ?_
          refine aw_iload X dX11_memory_57 rfl ?_
          refine aw_iconst X dX11_memory_59 ci_1 ?_
          refine aw_iload X dX11_memory_60 rfl ?_
          refine aw_iload_n X dX11_memory_62 rfl rfl ?_
          refine aw_callV X (kX11_begin _ _ _ _ hq (oI (mo_fp (sI M 0 0))) _ _ _ (fp_bt' c50) (hw)) okm_X11_begin okX11 mw_0 ml_X11_104 im_X11_begin se_X11_X11_begin rfl rfl (Nat.le_of_ble_eq_true rfl) ⟨Nat.le_of_ble_eq_true rfl, Nat.le_of_ble_eq_true rfl, Nat.le_of_ble_eq_true rfl, Nat.le_of_ble_eq_true rfl⟩ dX11_memory_63 (fun v w2 hp => ?_)
          obtain ⟨rfl, rfl⟩ := hp
          refine aw_istore (lv' := [(6, _), (5, _), (0, _), (1, _), (2, _), (3, _), (4, _)]) X dX11_memory_66 (by decide) rfl ?_
          refine aw_aload_n X dX11_memory_68 rfl rfl ?_
          refine am_get X 15 (Nat.le_of_ble_eq_true rfl) fl_X11_26 rfl rfl dX11_memory_69 ?_
          refine aw_iload X dX11_memory_72 rfl ?_
          refine aw_aload_n X dX11_memory_74 rfl rfl ?_
          refine am_get X 1 (Nat.le_of_ble_eq_true rfl) fl_X11_16 rfl rfl dX11_memory_75 ?_
          refine aw_iload_n X dX11_memory_78 rfl rfl ?_
          refine am_ald X 1 _ ((mo_begin (sI M 0 0) (oI (mo_fp (sI M 0 0))).toNatClampNeg 1 wide mode).2.2 1) hq (by decide) rfl rfl rfl (bt_vp (c9) (by decide) (by decide)) dX11_memory_79 ?_
          refine am_ast X 15 _ hq (by decide) rfl rfl (bt_vp (fp_bt' c50) (by decide) (by decide)) dX11_memory_80 ?_
          refine aw_aload_n X dX11_memory_81 rfl rfl ?_
          refine am_get X 12 (Nat.le_of_ble_eq_true rfl) fl_X11_83 rfl rfl dX11_memory_82 ?_
          refine aw_iload X dX11_memory_85 rfl ?_
          refine aw_iload_n X dX11_memory_87 rfl rfl ?_
          refine am_ast X 12 _ hq (by decide) rfl rfl (bt_vp (fp_bt' c50) (by decide) (by decide)) dX11_memory_88 ?_
          refine aw_iload X dX11_memory_89 rfl ?_
          refine RTN (some (.int _)) _ _ _ _ _ dX11_memory_91 (⟨_, rfl⟩) (Nat.le_of_ble_eq_true rfl) (Nat.le_of_ble_eq_true rfl) ?_
          first | (constructor <;> ((try simp only [mo_memory, c9, c24, c36, c50, if_true, if_false, not_true_eq_false, not_false_eq_true, and_self, true_and, and_true, false_and, and_false, or_true, true_or, or_false, false_or, reduceCtorEq, ne_eq]); (try rfl); done)) | (clear RTN X; constructor <;> ((try simp_all only [mo_memory, if_true, if_false, not_true_eq_false, not_false_eq_true, and_self, true_and, and_true, false_and, and_false, or_true, true_or, or_false, false_or, reduceCtorEq, ne_eq]); (try rfl); done))
        · refine aw_bipush X dX11_memory_53 cb_m5 ?_
          refine RTN (some (.int _)) _ _ _ _ _ dX11_memory_55 (⟨_, rfl⟩) (Nat.le_of_ble_eq_true rfl) (Nat.le_of_ble_eq_true rfl) ?_
          first | (constructor <;> ((try simp only [mo_memory, c9, c24, c36, c50, if_true, if_false, not_true_eq_false, not_false_eq_true, and_self, true_and, and_true, false_and, and_false, or_true, true_or, or_false, false_or, reduceCtorEq, ne_eq]); (try rfl); done)) | (clear RTN X; constructor <;> ((try simp_all only [mo_memory, if_true, if_false, not_true_eq_false, not_false_eq_true, and_self, true_and, and_true, false_and, and_false, or_true, true_or, or_false, false_or, reduceCtorEq, ne_eq]); (try rfl); done))
      · rw [bI_0] at c36
        refine aw_bipush X dX11_memory_39 cb_m3 ?_
        refine RTN (some (.int _)) _ _ _ _ _ dX11_memory_41 (⟨_, rfl⟩) (Nat.le_of_ble_eq_true rfl) (Nat.le_of_ble_eq_true rfl) ?_
        first | (constructor <;> ((try simp only [mo_memory, c9, c24, c36, if_true, if_false, not_true_eq_false, not_false_eq_true, and_self, true_and, and_true, false_and, and_false, or_true, true_or, or_false, false_or, reduceCtorEq, ne_eq]); (try rfl); done)) | (clear RTN X; constructor <;> ((try simp_all only [mo_memory, if_true, if_false, not_true_eq_false, not_false_eq_true, and_self, true_and, and_true, false_and, and_false, or_true, true_or, or_false, false_or, reduceCtorEq, ne_eq]); (try rfl); done))
  · rw [bI_0] at c9
    refine aw_bipush X dX11_memory_12 cb_m2 ?_
    refine RTN (some (.int _)) _ _ _ _ _ dX11_memory_14 (⟨_, rfl⟩) (Nat.le_of_ble_eq_true rfl) (Nat.le_of_ble_eq_true rfl) ?_
    first | (constructor <;> ((try simp only [mo_memory, c9, if_true, if_false, not_true_eq_false, not_false_eq_true, and_self, true_and, and_true, false_and, and_false, or_true, true_or, or_false, false_or, reduceCtorEq, ne_eq]); (try rfl); done)) | (clear RTN X; constructor <;> ((try simp_all only [mo_memory, if_true, if_false, not_true_eq_false, not_false_eq_true, and_self, true_and, and_true, false_and, and_false, or_true, true_or, or_false, false_or, reduceCtorEq, ne_eq]); (try rfl); done))
