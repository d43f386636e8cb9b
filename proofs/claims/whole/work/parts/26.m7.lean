def mi_file (M : MS) : Prop := ∀ k, k < 8 → M.2.2 8 k = 2 → bt (M.2.2 16 k) 0 19 = true
def mo_sto (M : MS) (k : Nat) (at_ from_ : Int32) : Int64 := (if from_ = 0 then 0 else if from_ = 1 then (M.2.2 11 k).toInt64 else (mo_end M k).toInt64) + at_.toInt64
def mo_spl (M : MS) (k : Nat) (at_ from_ : Int32) : Int32 := if 0 ≤ mo_sto M k at_ from_ then (if mo_sto M k at_ from_ ≤ (mo_end M k).toInt64 then (mo_sto M k at_ from_).toInt32 else mo_end M k) else 0
def mo_seek (M : MS) (t at_ from_ : Int32) : Int32 × MS :=
  if 0 ≤ (oI (mo_pl (sI M 0 0) t)) then
    if bt from_ 0 2 then
      if M.2.2 8 (oI (mo_pl (sI M 0 0) t)).toNatClampNeg = 0 then (-4, (sI M 0 0))
      else (mo_spl (sI M 0 0) (oI (mo_pl (sI M 0 0) t)).toNatClampNeg at_ from_, sF (sI M 0 0) 11 (oI (mo_pl (sI M 0 0) t)).toNatClampNeg (mo_spl (sI M 0 0) (oI (mo_pl (sI M 0 0) t)).toNatClampNeg at_ from_))
    else (-3, (sI M 0 0))
  else (-2, (sI M 0 0))
def mo_ce (M : MS) (t : Int32) : Nat → MS
  | 0 => M
  | j + 1 => sF (mo_ce M t j) 17 (nI j).toNatClampNeg (if (mo_ce M t j).2.2 17 (nI j).toNatClampNeg = t then 0 else (mo_ce M t j).2.2 17 (nI j).toNatClampNeg)
def mo_close (M : MS) (t : Int32) : Int32 × MS :=
  if 0 ≤ (oI (mo_pl (sI M 0 0) t)) then ((mo_ce (sI (sF (sI M 0 0) 6 (oI (mo_pl (sI M 0 0) t)).toNatClampNeg 0) 20 (if M.1 20 = t then 0 else M.1 20)) t 8).2.2 13 (oI (mo_pl (sI M 0 0) t)).toNatClampNeg, mo_ce (sI (sF (sI M 0 0) 6 (oI (mo_pl (sI M 0 0) t)).toNatClampNeg 0) 20 (if M.1 20 = t then 0 else M.1 20)) t 8)
  else (-2, (sI M 0 0))
def mo_about (M : MS) (t what : Int32) : Int32 × MS :=
  (if 0 ≤ (oI (mo_pl (sI M 0 0) t)) then swi what [M.2.2 8 (oI (mo_pl (sI M 0 0) t)).toNatClampNeg, M.2.2 11 (oI (mo_pl (sI M 0 0) t)).toNatClampNeg, (if M.2.2 8 (oI (mo_pl (sI M 0 0) t)).toNatClampNeg = 0 then 0 else mo_end (sI M 0 0) (oI (mo_pl (sI M 0 0) t)).toNatClampNeg), M.2.2 13 (oI (mo_pl (sI M 0 0) t)).toNatClampNeg, M.2.2 14 (oI (mo_pl (sI M 0 0) t)).toNatClampNeg, M.2.2 10 (oI (mo_pl (sI M 0 0) t)).toNatClampNeg, (if M.2.2 9 (oI (mo_pl (sI M 0 0) t)).toNatClampNeg = 0 then 0 else 1), M.2.2 17 (oI (mo_pl (sI M 0 0) t)).toNatClampNeg] (-3) else -2, (sI M 0 0))
def mi_signs (M : MS) : Prop := ∀ k, k < 8 → bt (M.2.2 19 k) 0 20 = true
def mo_shown (M : MS) (t i : Int32) : Int32 × MS :=
  (if 0 ≤ (oI (mo_pl (sI M 0 0) t)) then (if M.2.2 8 (oI (mo_pl (sI M 0 0) t)).toNatClampNeg = 0 then (if bt i 0 (M.2.2 19 (oI (mo_pl (sI M 0 0) t)).toNatClampNeg - 1).toInt then M.2.2 18 (40 * (oI (mo_pl (sI M 0 0) t)) + i).toNatClampNeg else -1) else -4) else -2, (sI M 0 0))
theorem ix8 {k i : Int32} (hk : bt k 0 7) (hi : bt i 0 39) : vp_in (40 * k + i) 320 := by
  obtain ⟨a1, a2⟩ := bt_iff.mp hk
  obtain ⟨k1, k2⟩ := bt_iff.mp hi
  have h1 := ti_mul (a := 40) (b := k) (x := 40) rfl rfl (by omega)
  have h2 := ti_add h1 (b := i) rfl (by omega)
  exact vp_in_iff.mpr ⟨by omega, by omega⟩
theorem sg_bt {x i : Int32} (h : bt x 0 20) (hi : bt i 0 (x - 1).toInt) : bt i 0 39 := by
  have h1 := bt_iff.mp h
  have h2 := bt_iff.mp hi
  have h3 := ti_sub (a := x) (b := 1) (y := 1) rfl rfl (by omega)
  exact bt_iff.mpr ⟨by omega, by omega⟩
set_option maxRecDepth 100000 in
set_option maxHeartbeats 4000000 in
theorem kX11_seek (G : GG) (l : Launch) (q : Nat → Nat) (M : MS) (hq : mInj q) (hFl : mi_file M) (t at_ from_ : Int32) : MC G l yX11_seek cX11_seek 7 ((Option.some .int)) ({ frames := 1, cells := 0, slots := 0, locals := 25 } : Room) [.ref (q 0), .int t, .int at_, .int from_] (mw G q M) (fun v w' => v = some (.int (mo_seek M t at_ from_).1) ∧ w' = mw G q (mo_seek M t at_ from_).2) := by
  refine mc_int (by decide) (Nat.le_of_ble_eq_true rfl) rfl rfl ?_
  intro p e s m args below meth c A H0 Q X hnm RTN
  have X : Cx G p s m args meth c A H0 cX11_seek 7 RX11 := X
  refine aw_aload_n X dX11_seek_0 rfl rfl ?_
  refine aw_iconst X dX11_seek_1 ci_0 ?_
  refine am_put X 0 (M' := sI _ 0 _) (Nat.le_of_ble_eq_true rfl) fl_X11_1 rfl rfl (rfl) (rfl) (mf_0 _ _ _) rfl dX11_seek_2 ?_
  refine aw_aload_n X dX11_seek_5 rfl rfl ?_
  refine aw_iload_n X dX11_seek_6 rfl rfl ?_
  refine aw_callV X (kX11_placeOf _ _ _ _ hq _) okm_X11_placeOf okX11 mw_0 ml_X11_183 im_X11_placeOf se_X11_X11_placeOf rfl rfl (Nat.le_of_ble_eq_true rfl) ⟨Nat.le_of_ble_eq_true rfl, Nat.le_of_ble_eq_true rfl, Nat.le_of_ble_eq_true rfl, Nat.le_of_ble_eq_true rfl⟩ dX11_seek_7 (fun v w2 hp => ?_)
  obtain ⟨rfl, rfl⟩ := hp
  refine aw_istore (lv' := [(4, _), (0, _), (1, _), (2, _), (3, _)]) X dX11_seek_10 (by decide) rfl ?_
  refine aw_iload X dX11_seek_12 rfl ?_
  refine aw_if_ge (tgt := 20) X dX11_seek_14 rfl (fun c14 => ?_) (fun c14 => ?_)
  · refine aw_iload_n X dX11_seek_20 rfl rfl ?_
    refine aw_i2l X dX11_seek_21 ?_
    refine aw_lconst X dX11_seek_22 cl_0 ?_
    refine aw_ldc2 X kl_X11_52 dX11_seek_23 ?_
    refine aw_callS X (kX11_inI _ _ _ _ _ _ 0 2 rfl rfl) okm_X11_in ml_X11_12 st_X11_in rfl rfl (Nat.le_of_ble_eq_true rfl) ⟨Nat.le_of_ble_eq_true rfl, Nat.le_of_ble_eq_true rfl, Nat.le_of_ble_eq_true rfl, Nat.le_of_ble_eq_true rfl⟩ dX11_seek_26 (fun v w2 hp => ?_)
    obtain ⟨rfl, rfl⟩ := hp
    refine aw_if_ne (tgt := 35) X dX11_seek_29 rfl (fun c29 => ?_) (fun c29 => ?_)
    · rw [bI_n0] at c29
      refine aw_aload_n X dX11_seek_35 rfl rfl ?_
      refine am_get X 8 (Nat.le_of_ble_eq_true rfl) fl_X11_23 rfl rfl dX11_seek_36 ?_
      refine aw_iload X dX11_seek_39 rfl ?_
      refine am_ald X 8 _ (M.2.2 8) hq (by decide) rfl rfl rfl (bt_vp ((pl_bt' c14)) (by decide) (by decide)) dX11_seek_41 ?_
      refine aw_if_ne (tgt := 48) X dX11_seek_42 rfl (fun c42 => ?_) (fun c42 => ?_)
      · refine aw_iload_n X dX11_seek_48 rfl rfl ?_
        refine aw_if_ne (tgt := 56) X dX11_seek_49 rfl (fun c49 => ?_) (fun c49 => ?_)
        · refine aw_iload_n X dX11_seek_56 rfl rfl ?_
          refine aw_iconst X dX11_seek_57 ci_1 ?_
          refine aw_icmp_ne (tgt := 72) X dX11_seek_58 rfl (fun c58 => ?_) (fun c58 => ?_)
          · refine aw_aload_n X dX11_seek_72 rfl rfl ?_
            refine aw_iload X dX11_seek_73 rfl ?_
            refine aw_callV X (kX11_endOf _ _ _ _ hq (oI (mo_pl (sI M 0 0) t)) (pl_bt' c14) (fun h => hFl _ (cl_lt (pl_bt' c14) (by decide) (by decide)) h)) okm_X11_endOf okX11 mw_0 ml_X11_124 im_X11_endOf se_X11_X11_endOf rfl rfl (Nat.le_of_ble_eq_true rfl) ⟨Nat.le_of_ble_eq_true rfl, Nat.le_of_ble_eq_true rfl, Nat.le_of_ble_eq_true rfl, Nat.le_of_ble_eq_true rfl⟩ dX11_seek_75 (fun v w2 hp => ?_)
            obtain ⟨rfl, rfl⟩ := hp
            refine aw_i2l X dX11_seek_78 ?_
            refine aw_iload_n X dX11_seek_79 rfl rfl ?_
            refine aw_i2l X dX11_seek_80 ?_
            refine aw_ladd X dX11_seek_81 ?_
            refine aw_lstore (lv' := [(5, _), (4, _), (0, _), (1, _), (2, _), (3, _)]) X dX11_seek_82 (by decide) rfl ?_
            refine aw_aload_n X dX11_seek_84 rfl rfl ?_
            refine am_get X 11 (Nat.le_of_ble_eq_true rfl) fl_X11_80 rfl rfl dX11_seek_85 ?_
            refine aw_iload X dX11_seek_88 rfl ?_
            refine aw_lload X dX11_seek_90 rfl ?_
            refine aw_lconst X dX11_seek_92 cl_0 ?_
            refine aw_lcmp X dX11_seek_93 ?_
            refine aw_if_ge (tgt := 101) X dX11_seek_94 rfl (fun c94 => ?_) (fun c94 => ?_)
            · rw [lg_cmp_ge] at c94
              refine aw_lload X dX11_seek_101 rfl ?_
              refine aw_aload_n X dX11_seek_103 rfl rfl ?_
              refine aw_iload X dX11_seek_104 rfl ?_
              refine aw_callV X (kX11_endOf _ _ _ _ hq (oI (mo_pl (sI M 0 0) t)) (pl_bt' c14) (fun h => hFl _ (cl_lt (pl_bt' c14) (by decide) (by decide)) h)) okm_X11_endOf okX11 mw_0 ml_X11_124 im_X11_endOf se_X11_X11_endOf rfl rfl (Nat.le_of_ble_eq_true rfl) ⟨Nat.le_of_ble_eq_true rfl, Nat.le_of_ble_eq_true rfl, Nat.le_of_ble_eq_true rfl, Nat.le_of_ble_eq_true rfl⟩ dX11_seek_106 (fun v w2 hp => ?_)
              obtain ⟨rfl, rfl⟩ := hp
              refine aw_i2l X dX11_seek_109 ?_
              refine aw_lcmp X dX11_seek_110 ?_
              refine aw_if_le (tgt := 123) X dX11_seek_111 rfl (fun c111 => ?_) (fun c111 => ?_)
              · rw [lg_cmp_le] at c111
                refine aw_lload X dX11_seek_123 rfl ?_
                refine aw_l2i X dX11_seek_125 ?_
                refine am_ast X 11 _ hq (by decide) rfl rfl (bt_vp ((pl_bt' c14)) (by decide) (by decide)) dX11_seek_126 ?_
                refine aw_aload_n X dX11_seek_127 rfl rfl ?_
                refine am_get X 11 (Nat.le_of_ble_eq_true rfl) fl_X11_80 rfl rfl dX11_seek_128 ?_
                refine aw_iload X dX11_seek_131 rfl ?_
                refine am_ald X 11 _ ((sF (sI M 0 0) 11 (oI (mo_pl (sI M 0 0) t)).toNatClampNeg ((((mo_end (sI M 0 0) (oI (mo_pl (sI M 0 0) t)).toNatClampNeg).toInt64) + at_.toInt64).toInt32)).2.2 11) hq (by decide) rfl rfl rfl (bt_vp ((pl_bt' c14)) (by decide) (by decide)) dX11_seek_133 ?_
                refine RTN (some (.int _)) _ _ _ _ _ dX11_seek_134 (⟨_, rfl⟩) (Nat.le_of_ble_eq_true rfl) (Nat.le_of_ble_eq_true rfl) ?_
                first | (constructor <;> ((try simp only [mo_seek, mo_spl, mo_sto, c14, c29, c42, c49, c58, c94, c111, if_true, if_false, not_true_eq_false, not_false_eq_true, and_self, true_and, and_true, false_and, and_false, or_true, true_or, or_false, false_or, reduceCtorEq, ne_eq, va_us, pk_us]); (try with_reducible rfl); done)) | (clear RTN X; constructor <;> ((try simp_all only [mo_seek, mo_spl, mo_sto, if_true, if_false, not_true_eq_false, not_false_eq_true, and_self, true_and, and_true, false_and, and_false, or_true, true_or, or_false, false_or, reduceCtorEq, ne_eq, va_us, pk_us]); (try with_reducible rfl); done)) | (constructor <;> ((try simp only [mo_seek, mo_spl, mo_sto, c14, c29, c42, c49, c58, c94, c111, if_true, if_false, not_true_eq_false, not_false_eq_true, and_self, true_and, and_true, false_and, and_false, or_true, true_or, or_false, false_or, reduceCtorEq, ne_eq, va_us, pk_us]); (try rfl); done))
              · rw [lg_cmp_le] at c111
                refine aw_aload_n X dX11_seek_114 rfl rfl ?_
                refine aw_iload X dX11_seek_115 rfl ?_
                refine aw_callV X (kX11_endOf _ _ _ _ hq (oI (mo_pl (sI M 0 0) t)) (pl_bt' c14) (fun h => hFl _ (cl_lt (pl_bt' c14) (by decide) (by decide)) h)) okm_X11_endOf okX11 mw_0 ml_X11_124 im_X11_endOf se_X11_X11_endOf rfl rfl (Nat.le_of_ble_eq_true rfl) ⟨Nat.le_of_ble_eq_true rfl, Nat.le_of_ble_eq_true rfl, Nat.le_of_ble_eq_true rfl, Nat.le_of_ble_eq_true rfl⟩ dX11_seek_117 (fun v w2 hp => ?_)
                obtain ⟨rfl, rfl⟩ := hp
                refine aw_goto (tgt := 126) X dX11_seek_120 rfl ?_
                refine am_ast X 11 _ hq (by decide) rfl rfl (bt_vp ((pl_bt' c14)) (by decide) (by decide)) dX11_seek_126 ?_
                refine aw_aload_n X dX11_seek_127 rfl rfl ?_
                refine am_get X 11 (Nat.le_of_ble_eq_true rfl) fl_X11_80 rfl rfl dX11_seek_128 ?_
                refine aw_iload X dX11_seek_131 rfl ?_
                refine am_ald X 11 _ ((sF (sI M 0 0) 11 (oI (mo_pl (sI M 0 0) t)).toNatClampNeg (mo_end (sI M 0 0) (oI (mo_pl (sI M 0 0) t)).toNatClampNeg)).2.2 11) hq (by decide) rfl rfl rfl (bt_vp ((pl_bt' c14)) (by decide) (by decide)) dX11_seek_133 ?_
                refine RTN (some (.int _)) _ _ _ _ _ dX11_seek_134 (⟨_, rfl⟩) (Nat.le_of_ble_eq_true rfl) (Nat.le_of_ble_eq_true rfl) ?_
                first | (constructor <;> ((try simp only [mo_seek, mo_spl, mo_sto, c14, c29, c42, c49, c58, c94, c111, if_true, if_false, not_true_eq_false, not_false_eq_true, and_self, true_and, and_true, false_and, and_false, or_true, true_or, or_false, false_or, reduceCtorEq, ne_eq, va_us, pk_us]); (try with_reducible rfl); done)) | (clear RTN X; constructor <;> ((try simp_all only [mo_seek, mo_spl, mo_sto, if_true, if_false, not_true_eq_false, not_false_eq_true, and_self, true_and, and_true, false_and, and_false, or_true, true_or, or_false, false_or, reduceCtorEq, ne_eq, va_us, pk_us]); (try with_reducible rfl); done)) | (constructor <;> ((try simp only [mo_seek, mo_spl, mo_sto, c14, c29, c42, c49, c58, c94, c111, if_true, if_false, not_true_eq_false, not_false_eq_true, and_self, true_and, and_true, false_and, and_false, or_true, true_or, or_false, false_or, reduceCtorEq, ne_eq, va_us, pk_us]); (try rfl); done))
            · rw [lg_cmp_ge] at c94
              refine aw_iconst X dX11_seek_97 ci_0 ?_
              refine aw_goto (tgt := 126) X dX11_seek_98 rfl ?_
              refine am_ast X 11 _ hq (by decide) rfl rfl (bt_vp ((pl_bt' c14)) (by decide) (by decide)) dX11_seek_126 ?_
              refine aw_aload_n X dX11_seek_127 rfl rfl ?_
              refine am_get X 11 (Nat.le_of_ble_eq_true rfl) fl_X11_80 rfl rfl dX11_seek_128 ?_
              refine aw_iload X dX11_seek_131 rfl ?_
              refine am_ald X 11 _ ((sF (sI M 0 0) 11 (oI (mo_pl (sI M 0 0) t)).toNatClampNeg 0).2.2 11) hq (by decide) rfl rfl rfl (bt_vp ((pl_bt' c14)) (by decide) (by decide)) dX11_seek_133 ?_
              refine RTN (some (.int _)) _ _ _ _ _ dX11_seek_134 (⟨_, rfl⟩) (Nat.le_of_ble_eq_true rfl) (Nat.le_of_ble_eq_true rfl) ?_
              first | (constructor <;> ((try simp only [mo_seek, mo_spl, mo_sto, c14, c29, c42, c49, c58, c94, if_true, if_false, not_true_eq_false, not_false_eq_true, and_self, true_and, and_true, false_and, and_false, or_true, true_or, or_false, false_or, reduceCtorEq, ne_eq, va_us, pk_us]); (try with_reducible rfl); done)) | (clear RTN X; constructor <;> ((try simp_all only [mo_seek, mo_spl, mo_sto, if_true, if_false, not_true_eq_false, not_false_eq_true, and_self, true_and, and_true, false_and, and_false, or_true, true_or, or_false, false_or, reduceCtorEq, ne_eq, va_us, pk_us]); (try with_reducible rfl); done)) | (constructor <;> ((try simp only [mo_seek, mo_spl, mo_sto, c14, c29, c42, c49, c58, c94, if_true, if_false, not_true_eq_false, not_false_eq_true, and_self, true_and, and_true, false_and, and_false, or_true, true_or, or_false, false_or, reduceCtorEq, ne_eq, va_us, pk_us]); (try rfl); done))
          · refine aw_aload_n X dX11_seek_61 rfl rfl ?_
            refine am_get X 11 (Nat.le_of_ble_eq_true rfl) fl_X11_80 rfl rfl dX11_seek_62 ?_
            refine aw_iload X dX11_seek_65 rfl ?_
            refine am_ald X 11 _ (M.2.2 11) hq (by decide) rfl rfl rfl (bt_vp ((pl_bt' c14)) (by decide) (by decide)) dX11_seek_67 ?_
            refine aw_i2l X dX11_seek_68 ?_
            refine aw_goto (tgt := 79) X dX11_seek_69 rfl ?_
            refine aw_iload_n X dX11_seek_79 rfl rfl ?_
            refine aw_i2l X dX11_seek_80 ?_
            refine aw_ladd X dX11_seek_81 ?_
            refine aw_lstore (lv' := [(5, _), (4, _), (0, _), (1, _), (2, _), (3, _)]) X dX11_seek_82 (by decide) rfl ?_
            refine aw_aload_n X dX11_seek_84 rfl rfl ?_
            refine am_get X 11 (Nat.le_of_ble_eq_true rfl) fl_X11_80 rfl rfl dX11_seek_85 ?_
            refine aw_iload X dX11_seek_88 rfl ?_
            refine aw_lload X dX11_seek_90 rfl ?_
            refine aw_lconst X dX11_seek_92 cl_0 ?_
            refine aw_lcmp X dX11_seek_93 ?_
            refine aw_if_ge (tgt := 101) X dX11_seek_94 rfl (fun c94 => ?_) (fun c94 => ?_)
            · rw [lg_cmp_ge] at c94
              refine aw_lload X dX11_seek_101 rfl ?_
              refine aw_aload_n X dX11_seek_103 rfl rfl ?_
              refine aw_iload X dX11_seek_104 rfl ?_
              refine aw_callV X (kX11_endOf _ _ _ _ hq (oI (mo_pl (sI M 0 0) t)) (pl_bt' c14) (fun h => hFl _ (cl_lt (pl_bt' c14) (by decide) (by decide)) h)) okm_X11_endOf okX11 mw_0 ml_X11_124 im_X11_endOf se_X11_X11_endOf rfl rfl (Nat.le_of_ble_eq_true rfl) ⟨Nat.le_of_ble_eq_true rfl, Nat.le_of_ble_eq_true rfl, Nat.le_of_ble_eq_true rfl, Nat.le_of_ble_eq_true rfl⟩ dX11_seek_106 (fun v w2 hp => ?_)
              obtain ⟨rfl, rfl⟩ := hp
              refine aw_i2l X dX11_seek_109 ?_
              refine aw_lcmp X dX11_seek_110 ?_
              refine aw_if_le (tgt := 123) X dX11_seek_111 rfl (fun c111 => ?_) (fun c111 => ?_)
              · rw [lg_cmp_le] at c111
                refine aw_lload X dX11_seek_123 rfl ?_
                refine aw_l2i X dX11_seek_125 ?_
                refine am_ast X 11 _ hq (by decide) rfl rfl (bt_vp ((pl_bt' c14)) (by decide) (by decide)) dX11_seek_126 ?_
                refine aw_aload_n X dX11_seek_127 rfl rfl ?_
                refine am_get X 11 (Nat.le_of_ble_eq_true rfl) fl_X11_80 rfl rfl dX11_seek_128 ?_
                refine aw_iload X dX11_seek_131 rfl ?_
                refine am_ald X 11 _ ((sF (sI M 0 0) 11 (oI (mo_pl (sI M 0 0) t)).toNatClampNeg ((((M.2.2 11 (oI (mo_pl (sI M 0 0) t)).toNatClampNeg).toInt64) + at_.toInt64).toInt32)).2.2 11) hq (by decide) rfl rfl rfl (bt_vp ((pl_bt' c14)) (by decide) (by decide)) dX11_seek_133 ?_
                refine RTN (some (.int _)) _ _ _ _ _ dX11_seek_134 (⟨_, rfl⟩) (Nat.le_of_ble_eq_true rfl) (Nat.le_of_ble_eq_true rfl) ?_
                first | (constructor <;> ((try simp only [mo_seek, mo_spl, mo_sto, c14, c29, c42, c49, (eq_true c58), c94, c111, if_true, if_false, not_true_eq_false, not_false_eq_true, and_self, true_and, and_true, false_and, and_false, or_true, true_or, or_false, false_or, reduceCtorEq, ne_eq, va_us, pk_us]); (try with_reducible rfl); done)) | (clear RTN X; constructor <;> ((try simp_all only [mo_seek, mo_spl, mo_sto, if_true, if_false, not_true_eq_false, not_false_eq_true, and_self, true_and, and_true, false_and, and_false, or_true, true_or, or_false, false_or, reduceCtorEq, ne_eq, va_us, pk_us]); (try with_reducible rfl); done)) | (constructor <;> ((try simp only [mo_seek, mo_spl, mo_sto, c14, c29, c42, c49, (eq_true c58), c94, c111, if_true, if_false, not_true_eq_false, not_false_eq_true, and_self, true_and, and_true, false_and, and_false, or_true, true_or, or_false, false_or, reduceCtorEq, ne_eq, va_us, pk_us]); (try rfl); done))
              · rw [lg_cmp_le] at c111
                refine aw_aload_n X dX11_seek_114 rfl rfl ?_
                refine aw_iload X dX11_seek_115 rfl ?_
                refine aw_callV X (kX11_endOf _ _ _ _ hq (oI (mo_pl (sI M 0 0) t)) (pl_bt' c14) (fun h => hFl _ (cl_lt (pl_bt' c14) (by decide) (by decide)) h)) okm_X11_endOf okX11 mw_0 ml_X11_124 im_X11_endOf se_X11_X11_endOf rfl rfl (Nat.le_of_ble_eq_true rfl) ⟨Nat.le_of_ble_eq_true rfl, Nat.le_of_ble_eq_true rfl, Nat.le_of_ble_eq_true rfl, Nat.le_of_ble_eq_true rfl⟩ dX11_seek_117 (fun v w2 hp => ?_)
                obtain ⟨rfl, rfl⟩ := hp
                refine aw_goto (tgt := 126) X dX11_seek_120 rfl ?_
                refine am_ast X 11 _ hq (by decide) rfl rfl (bt_vp ((pl_bt' c14)) (by decide) (by decide)) dX11_seek_126 ?_
                refine aw_aload_n X dX11_seek_127 rfl rfl ?_
                refine am_get X 11 (Nat.le_of_ble_eq_true rfl) fl_X11_80 rfl rfl dX11_seek_128 ?_
                refine aw_iload X dX11_seek_131 rfl ?_
                refine am_ald X 11 _ ((sF (sI M 0 0) 11 (oI (mo_pl (sI M 0 0) t)).toNatClampNeg (mo_end (sI M 0 0) (oI (mo_pl (sI M 0 0) t)).toNatClampNeg)).2.2 11) hq (by decide) rfl rfl rfl (bt_vp ((pl_bt' c14)) (by decide) (by decide)) dX11_seek_133 ?_
                refine RTN (some (.int _)) _ _ _ _ _ dX11_seek_134 (⟨_, rfl⟩) (Nat.le_of_ble_eq_true rfl) (Nat.le_of_ble_eq_true rfl) ?_
                first | (constructor <;> ((try simp only [mo_seek, mo_spl, mo_sto, c14, c29, c42, c49, (eq_true c58), c94, c111, if_true, if_false, not_true_eq_false, not_false_eq_true, and_self, true_and, and_true, false_and, and_false, or_true, true_or, or_false, false_or, reduceCtorEq, ne_eq, va_us, pk_us]); (try with_reducible rfl); done)) | (clear RTN X; constructor <;> ((try simp_all only [mo_seek, mo_spl, mo_sto, if_true, if_false, not_true_eq_false, not_false_eq_true, and_self, true_and, and_true, false_and, and_false, or_true, true_or, or_false, false_or, reduceCtorEq, ne_eq, va_us, pk_us]); (try with_reducible rfl); done)) | (constructor <;> ((try simp only [mo_seek, mo_spl, mo_sto, c14, c29, c42, c49, (eq_true c58), c94, c111, if_true, if_false, not_true_eq_false, not_false_eq_true, and_self, true_and, and_true, false_and, and_false, or_true, true_or, or_false, false_or, reduceCtorEq, ne_eq, va_us, pk_us]); (try rfl); done))
            · rw [lg_cmp_ge] at c94
              refine aw_iconst X dX11_seek_97 ci_0 ?_
              refine aw_goto (tgt := 126) X dX11_seek_98 rfl ?_
              refine am_ast X 11 _ hq (by decide) rfl rfl (bt_vp ((pl_bt' c14)) (by decide) (by decide)) dX11_seek_126 ?_
              refine aw_aload_n X dX11_seek_127 rfl rfl ?_
              refine am_get X 11 (Nat.le_of_ble_eq_true rfl) fl_X11_80 rfl rfl dX11_seek_128 ?_
              refine aw_iload X dX11_seek_131 rfl ?_
              refine am_ald X 11 _ ((sF (sI M 0 0) 11 (oI (mo_pl (sI M 0 0) t)).toNatClampNeg 0).2.2 11) hq (by decide) rfl rfl rfl (bt_vp ((pl_bt' c14)) (by decide) (by decide)) dX11_seek_133 ?_
              refine RTN (some (.int _)) _ _ _ _ _ dX11_seek_134 (⟨_, rfl⟩) (Nat.le_of_ble_eq_true rfl) (Nat.le_of_ble_eq_true rfl) ?_
              first | (constructor <;> ((try simp only [mo_seek, mo_spl, mo_sto, c14, c29, c42, c49, (eq_true c58), c94, if_true, if_false, not_true_eq_false, not_false_eq_true, and_self, true_and, and_true, false_and, and_false, or_true, true_or, or_false, false_or, reduceCtorEq, ne_eq, va_us, pk_us]); (try with_reducible rfl); done)) | (clear RTN X; constructor <;> ((try simp_all only [mo_seek, mo_spl, mo_sto, if_true, if_false, not_true_eq_false, not_false_eq_true, and_self, true_and, and_true, false_and, and_false, or_true, true_or, or_false, false_or, reduceCtorEq, ne_eq, va_us, pk_us]); (try with_reducible rfl); done)) | (constructor <;> ((try simp only [mo_seek, mo_spl, mo_sto, c14, c29, c42, c49, (eq_true c58), c94, if_true, if_false, not_true_eq_false, not_false_eq_true, and_self, true_and, and_true, false_and, and_false, or_true, true_or, or_false, false_or, reduceCtorEq, ne_eq, va_us, pk_us]); (try rfl); done))
        · refine aw_lconst X dX11_seek_52 cl_0 ?_
          refine aw_goto (tgt := 79) X dX11_seek_53 rfl ?_
          refine aw_iload_n X dX11_seek_79 rfl rfl ?_
          refine aw_i2l X dX11_seek_80 ?_
          refine aw_ladd X dX11_seek_81 ?_
          refine aw_lstore (lv' := [(5, _), (4, _), (0, _), (1, _), (2, _), (3, _)]) X dX11_seek_82 (by decide) rfl ?_
          refine aw_aload_n X dX11_seek_84 rfl rfl ?_
          refine am_get X 11 (Nat.le_of_ble_eq_true rfl) fl_X11_80 rfl rfl dX11_seek_85 ?_
          refine aw_iload X dX11_seek_88 rfl ?_
          refine aw_lload X dX11_seek_90 rfl ?_
          refine aw_lconst X dX11_seek_92 cl_0 ?_
          refine aw_lcmp X dX11_seek_93 ?_
          refine aw_if_ge (tgt := 101) X dX11_seek_94 rfl (fun c94 => ?_) (fun c94 => ?_)
          · rw [lg_cmp_ge] at c94
            refine aw_lload X dX11_seek_101 rfl ?_
            refine aw_aload_n X dX11_seek_103 rfl rfl ?_
            refine aw_iload X dX11_seek_104 rfl ?_
            refine aw_callV X (kX11_endOf _ _ _ _ hq (oI (mo_pl (sI M 0 0) t)) (pl_bt' c14) (fun h => hFl _ (cl_lt (pl_bt' c14) (by decide) (by decide)) h)) okm_X11_endOf okX11 mw_0 ml_X11_124 im_X11_endOf se_X11_X11_endOf rfl rfl (Nat.le_of_ble_eq_true rfl) ⟨Nat.le_of_ble_eq_true rfl, Nat.le_of_ble_eq_true rfl, Nat.le_of_ble_eq_true rfl, Nat.le_of_ble_eq_true rfl⟩ dX11_seek_106 (fun v w2 hp => ?_)
            obtain ⟨rfl, rfl⟩ := hp
            refine aw_i2l X dX11_seek_109 ?_
            refine aw_lcmp X dX11_seek_110 ?_
            refine aw_if_le (tgt := 123) X dX11_seek_111 rfl (fun c111 => ?_) (fun c111 => ?_)
            · rw [lg_cmp_le] at c111
              refine aw_lload X dX11_seek_123 rfl ?_
              refine aw_l2i X dX11_seek_125 ?_
              refine am_ast X 11 _ hq (by decide) rfl rfl (bt_vp ((pl_bt' c14)) (by decide) (by decide)) dX11_seek_126 ?_
              refine aw_aload_n X dX11_seek_127 rfl rfl ?_
              refine am_get X 11 (Nat.le_of_ble_eq_true rfl) fl_X11_80 rfl rfl dX11_seek_128 ?_
              refine aw_iload X dX11_seek_131 rfl ?_
              refine am_ald X 11 _ ((sF (sI M 0 0) 11 (oI (mo_pl (sI M 0 0) t)).toNatClampNeg ((0 + at_.toInt64).toInt32)).2.2 11) hq (by decide) rfl rfl rfl (bt_vp ((pl_bt' c14)) (by decide) (by decide)) dX11_seek_133 ?_
              refine RTN (some (.int _)) _ _ _ _ _ dX11_seek_134 (⟨_, rfl⟩) (Nat.le_of_ble_eq_true rfl) (Nat.le_of_ble_eq_true rfl) ?_
              first | (constructor <;> ((try simp only [mo_seek, mo_spl, mo_sto, c14, c29, c42, (eq_true c49), c94, c111, if_true, if_false, not_true_eq_false, not_false_eq_true, and_self, true_and, and_true, false_and, and_false, or_true, true_or, or_false, false_or, reduceCtorEq, ne_eq, va_us, pk_us]); (try with_reducible rfl); done)) | (clear RTN X; constructor <;> ((try simp_all only [mo_seek, mo_spl, mo_sto, if_true, if_false, not_true_eq_false, not_false_eq_true, and_self, true_and, and_true, false_and, and_false, or_true, true_or, or_false, false_or, reduceCtorEq, ne_eq, va_us, pk_us]); (try with_reducible rfl); done)) | (constructor <;> ((try simp only [mo_seek, mo_spl, mo_sto, c14, c29, c42, (eq_true c49), c94, c111, if_true, if_false, not_true_eq_false, not_false_eq_true, and_self, true_and, and_true, false_and, and_false, or_true, true_or, or_false, false_or, reduceCtorEq, ne_eq, va_us, pk_us]); (try rfl); done))
            · rw [lg_cmp_le] at c111
              refine aw_aload_n X dX11_seek_114 rfl rfl ?_
              refine aw_iload X dX11_seek_115 rfl ?_
              refine aw_callV X (kX11_endOf _ _ _ _ hq (oI (mo_pl (sI M 0 0) t)) (pl_bt' c14) (fun h => hFl _ (cl_lt (pl_bt' c14) (by decide) (by decide)) h)) okm_X11_endOf okX11 mw_0 ml_X11_124 im_X11_endOf se_X11_X11_endOf rfl rfl (Nat.le_of_ble_eq_true rfl) ⟨Nat.le_of_ble_eq_true rfl, Nat.le_of_ble_eq_true rfl, Nat.le_of_ble_eq_true rfl, Nat.le_of_ble_eq_true rfl⟩ dX11_seek_117 (fun v w2 hp => ?_)
              obtain ⟨rfl, rfl⟩ := hp
              refine aw_goto (tgt := 126) X dX11_seek_120 rfl ?_
              refine am_ast X 11 _ hq (by decide) rfl rfl (bt_vp ((pl_bt' c14)) (by decide) (by decide)) dX11_seek_126 ?_
              refine aw_aload_n X dX11_seek_127 rfl rfl ?_
              refine am_get X 11 (Nat.le_of_ble_eq_true rfl) fl_X11_80 rfl rfl dX11_seek_128 ?_
              refine aw_iload X dX11_seek_131 rfl ?_
              refine am_ald X 11 _ ((sF (sI M 0 0) 11 (oI (mo_pl (sI M 0 0) t)).toNatClampNeg (mo_end (sI M 0 0) (oI (mo_pl (sI M 0 0) t)).toNatClampNeg)).2.2 11) hq (by decide) rfl rfl rfl (bt_vp ((pl_bt' c14)) (by decide) (by decide)) dX11_seek_133 ?_
              refine RTN (some (.int _)) _ _ _ _ _ dX11_seek_134 (⟨_, rfl⟩) (Nat.le_of_ble_eq_true rfl) (Nat.le_of_ble_eq_true rfl) ?_
              first | (constructor <;> ((try simp only [mo_seek, mo_spl, mo_sto, c14, c29, c42, (eq_true c49), c94, c111, if_true, if_false, not_true_eq_false, not_false_eq_true, and_self, true_and, and_true, false_and, and_false, or_true, true_or, or_false, false_or, reduceCtorEq, ne_eq, va_us, pk_us]); (try with_reducible rfl); done)) | (clear RTN X; constructor <;> ((try simp_all only [mo_seek, mo_spl, mo_sto, if_true, if_false, not_true_eq_false, not_false_eq_true, and_self, true_and, and_true, false_and, and_false, or_true, true_or, or_false, false_or, reduceCtorEq, ne_eq, va_us, pk_us]); (try with_reducible rfl); done)) | (constructor <;> ((try simp only [mo_seek, mo_spl, mo_sto, c14, c29, c42, (eq_true c49), c94, c111, if_true, if_false, not_true_eq_false, not_false_eq_true, and_self, true_and, and_true, false_and, and_false, or_true, true_or, or_false, false_or, reduceCtorEq, ne_eq, va_us, pk_us]); (try rfl); done))
          · rw [lg_cmp_ge] at c94
            refine aw_iconst X dX11_seek_97 ci_0 ?_
            refine aw_goto (tgt := 126) X dX11_seek_98 rfl ?_
            refine am_ast X 11 _ hq (by decide) rfl rfl (bt_vp ((pl_bt' c14)) (by decide) (by decide)) dX11_seek_126 ?_
            refine aw_aload_n X dX11_seek_127 rfl rfl ?_
            refine am_get X 11 (Nat.le_of_ble_eq_true rfl) fl_X11_80 rfl rfl dX11_seek_128 ?_
            refine aw_iload X dX11_seek_131 rfl ?_
            refine am_ald X 11 _ ((sF (sI M 0 0) 11 (oI (mo_pl (sI M 0 0) t)).toNatClampNeg 0).2.2 11) hq (by decide) rfl rfl rfl (bt_vp ((pl_bt' c14)) (by decide) (by decide)) dX11_seek_133 ?_
            refine RTN (some (.int _)) _ _ _ _ _ dX11_seek_134 (⟨_, rfl⟩) (Nat.le_of_ble_eq_true rfl) (Nat.le_of_ble_eq_true rfl) ?_
            first | (constructor <;> ((try simp only [mo_seek, mo_spl, mo_sto, c14, c29, c42, (eq_true c49), c94, if_true, if_false, not_true_eq_false, not_false_eq_true, and_self, true_and, and_true, false_and, and_false, or_true, true_or, or_false, false_or, reduceCtorEq, ne_eq, va_us, pk_us]); (try with_reducible rfl); done)) | (clear RTN X; constructor <;> ((try simp_all only [mo_seek, mo_spl, mo_sto, if_true, if_false, not_true_eq_false, not_false_eq_true, and_self, true_and, and_true, false_and, and_false, or_true, true_or, or_false, false_or, reduceCtorEq, ne_eq, va_us, pk_us]); (try with_reducible rfl); done)) | (constructor <;> ((try simp only [mo_seek, mo_spl, mo_sto, c14, c29, c42, (eq_true c49), c94, if_true, if_false, not_true_eq_false, not_false_eq_true, and_self, true_and, and_true, false_and, and_false, or_true, true_or, or_false, false_or, reduceCtorEq, ne_eq, va_us, pk_us]); (try rfl); done))
      · refine aw_bipush X dX11_seek_45 cb_m4 ?_
        refine RTN (some (.int _)) _ _ _ _ _ dX11_seek_47 (⟨_, rfl⟩) (Nat.le_of_ble_eq_true rfl) (Nat.le_of_ble_eq_true rfl) ?_
        first | (constructor <;> ((try simp only [mo_seek, mo_spl, mo_sto, c14, c29, (eq_true c42), if_true, if_false, not_true_eq_false, not_false_eq_true, and_self, true_and, and_true, false_and, and_false, or_true, true_or, or_false, false_or, reduceCtorEq, ne_eq, va_us, pk_us]); (try with_reducible rfl); done)) | (clear RTN X; constructor <;> ((try simp_all only [mo_seek, mo_spl, mo_sto, if_true, if_false, not_true_eq_false, not_false_eq_true, and_self, true_and, and_true, false_and, and_false, or_true, true_or, or_false, false_or, reduceCtorEq, ne_eq, va_us, pk_us]); (try with_reducible rfl); done)) | (constructor <;> ((try simp only [mo_seek, mo_spl, mo_sto, c14, c29, (eq_true c42), if_true, if_false, not_true_eq_false, not_false_eq_true, and_self, true_and, and_true, false_and, and_false, or_true, true_or, or_false, false_or, reduceCtorEq, ne_eq, va_us, pk_us]); (try rfl); done))
    · rw [bI_0] at c29
      refine aw_bipush X dX11_seek_32 cb_m3 ?_
      refine RTN (some (.int _)) _ _ _ _ _ dX11_seek_34 (⟨_, rfl⟩) (Nat.le_of_ble_eq_true rfl) (Nat.le_of_ble_eq_true rfl) ?_
      first | (constructor <;> ((try simp only [mo_seek, mo_spl, mo_sto, c14, c29, if_true, if_false, not_true_eq_false, not_false_eq_true, and_self, true_and, and_true, false_and, and_false, or_true, true_or, or_false, false_or, reduceCtorEq, ne_eq, va_us, pk_us]); (try with_reducible rfl); done)) | (clear RTN X; constructor <;> ((try simp_all only [mo_seek, mo_spl, mo_sto, if_true, if_false, not_true_eq_false, not_false_eq_true, and_self, true_and, and_true, false_and, and_false, or_true, true_or, or_false, false_or, reduceCtorEq, ne_eq, va_us, pk_us]); (try with_reducible rfl); done)) | (constructor <;> ((try simp only [mo_seek, mo_spl, mo_sto, c14, c29, if_true, if_false, not_true_eq_false, not_false_eq_true, and_self, true_and, and_true, false_and, and_false, or_true, true_or, or_false, false_or, reduceCtorEq, ne_eq, va_us, pk_us]); (try rfl); done))
  · refine aw_bipush X dX11_seek_17 cb_m2 ?_
    refine RTN (some (.int _)) _ _ _ _ _ dX11_seek_19 (⟨_, rfl⟩) (Nat.le_of_ble_eq_true rfl) (Nat.le_of_ble_eq_true rfl) ?_
    first | (constructor <;> ((try simp only [mo_seek, mo_spl, mo_sto, c14, if_true, if_false, not_true_eq_false, not_false_eq_true, and_self, true_and, and_true, false_and, and_false, or_true, true_or, or_false, false_or, reduceCtorEq, ne_eq, va_us, pk_us]); (try with_reducible rfl); done)) | (clear RTN X; constructor <;> ((try simp_all only [mo_seek, mo_spl, mo_sto, if_true, if_false, not_true_eq_false, not_false_eq_true, and_self, true_and, and_true, false_and, and_false, or_true, true_or, or_false, false_or, reduceCtorEq, ne_eq, va_us, pk_us]); (try with_reducible rfl); done)) | (constructor <;> ((try simp only [mo_seek, mo_spl, mo_sto, c14, if_true, if_false, not_true_eq_false, not_false_eq_true, and_self, true_and, and_true, false_and, and_false, or_true, true_or, or_false, false_or, reduceCtorEq, ne_eq, va_us, pk_us]); (try rfl); done))
set_option maxRecDepth 100000 in
set_option maxHeartbeats 4000000 in
theorem kX11_close (G : GG) (l : Launch) (q : Nat → Nat) (M : MS) (hq : mInj q) (t : Int32) : MC G l yX11_close cX11_close 4 ((Option.some .int)) ({ frames := 1, cells := 0, slots := 0, locals := 22 } : Room) [.ref (q 0), .int t] (mw G q M) (fun v w' => v = some (.int (mo_close M t).1) ∧ w' = mw G q (mo_close M t).2) := by
  refine mc_int (by decide) (Nat.le_of_ble_eq_true rfl) rfl rfl ?_
  intro p e s m args below meth c A H0 Q X hnm RTN
  have X : Cx G p s m args meth c A H0 cX11_close 4 RX11 := X
  refine aw_aload_n X dX11_close_0 rfl rfl ?_
  refine aw_iconst X dX11_close_1 ci_0 ?_
  refine am_put X 0 (M' := sI _ 0 _) (Nat.le_of_ble_eq_true rfl) fl_X11_1 rfl rfl (rfl) (rfl) (mf_0 _ _ _) rfl dX11_close_2 ?_
  refine aw_aload_n X dX11_close_5 rfl rfl ?_
  refine aw_iload_n X dX11_close_6 rfl rfl ?_
  refine aw_callV X (kX11_placeOf _ _ _ _ hq _) okm_X11_placeOf okX11 mw_0 ml_X11_183 im_X11_placeOf se_X11_X11_placeOf rfl rfl (Nat.le_of_ble_eq_true rfl) ⟨Nat.le_of_ble_eq_true rfl, Nat.le_of_ble_eq_true rfl, Nat.le_of_ble_eq_true rfl, Nat.le_of_ble_eq_true rfl⟩ dX11_close_7 (fun v w2 hp => ?_)
  obtain ⟨rfl, rfl⟩ := hp
  refine aw_istore_n (lv' := [(2, _), (0, _), (1, _)]) X dX11_close_10 rfl (by decide) rfl ?_
  refine aw_iload_n X dX11_close_11 rfl rfl ?_
  refine aw_if_ge (tgt := 18) X dX11_close_12 rfl (fun c12 => ?_) (fun c12 => ?_)
  · refine aw_aload_n X dX11_close_18 rfl rfl ?_
    refine am_get X 6 (Nat.le_of_ble_eq_true rfl) fl_X11_20 rfl rfl dX11_close_19 ?_
    refine aw_iload_n X dX11_close_22 rfl rfl ?_
    refine aw_iconst X dX11_close_23 ci_0 ?_
    refine am_ast X 6 _ hq (by decide) rfl rfl (bt_vp ((pl_bt' c12)) (by decide) (by decide)) dX11_close_24 ?_
    refine aw_aload_n X dX11_close_25 rfl rfl ?_
    refine aw_aload_n X dX11_close_26 rfl rfl ?_
    refine am_get X 20 (v := .int (M.1 20)) (Nat.le_of_ble_eq_true rfl) fl_X11_191 rfl rfl dX11_close_27 ?_
    refine aw_iload_n X dX11_close_30 rfl rfl ?_
    refine aw_icmp_ne (tgt := 38) X dX11_close_31 rfl (fun c31 => ?_) (fun c31 => ?_)
    · refine aw_aload_n X dX11_close_38 rfl rfl ?_
      refine am_get X 20 (v := .int (M.1 20)) (Nat.le_of_ble_eq_true rfl) fl_X11_191 rfl rfl dX11_close_39 ?_
      refine am_put X 20 (M' := sI _ 20 _) (Nat.le_of_ble_eq_true rfl) fl_X11_191 rfl rfl (rfl) (rfl) (mf_20 _ _ _) rfl dX11_close_42 ?_
      refine aw_iconst X dX11_close_45 ci_0 ?_
      refine aw_istore_n (lv' := [(3, _), (2, _), (0, _), (1, _)]) X dX11_close_46 rfl (by decide) rfl ?_
      have hM : ((sI (sF (sI M 0 0) 6 (oI (mo_pl (sI M 0 0) t)).toNatClampNeg 0) 20 (M.1 20)) : MS) = (sI (sF (sI M 0 0) 6 (oI (mo_pl (sI M 0 0) t)).toNatClampNeg 0) 20 (if M.1 20 = t then 0 else M.1 20)) := by simp only [c31, if_true, if_false]
      rw [hM]
      have L : ∀ (nn : Nat) (i : Nat) (x : Int32), (x = nI i) → (i ≤ 8) → (9 ≤ i + nn) → AW G p l e ({ frames := 1, cells := 0, slots := 0, locals := 22 } : Room) s m args below meth c 4 A H0 Q (mw G q (mo_ce (sI (sF (sI M 0 0) 6 (oI (mo_pl (sI M 0 0) t)).toNatClampNeg 0) 20 (if M.1 20 = t then 0 else M.1 20)) t i)) 0 0 47 [(3, .int x), (2, .int (oI (mo_pl (sI M 0 0) t))), (0, .ref (q 0)), (1, .int t)] [] := by
        intro nn
        induction nn with
        | zero => intro i x hx h1 h2; exact absurd h2 (by omega)
        | succ nn ih =>
          intro i x hx h1 h2
          subst hx
          refine aw_iload_n X dX11_close_47 rfl rfl ?_
          refine aw_bipush X dX11_close_48 cb_8 ?_
          refine aw_icmp_ge (tgt := 85) X dX11_close_50 rfl (fun c50 => ?_) (fun c50 => ?_)
          · have h9 : i = 8 := by have := ge_i (N := 8) rfl (by omega) (by decide) c50; omega
            refine aw_aload_n X dX11_close_85 rfl rfl ?_
            refine am_get X 13 (Nat.le_of_ble_eq_true rfl) fl_X11_86 rfl rfl dX11_close_86 ?_
            refine aw_iload_n X dX11_close_89 rfl rfl ?_
            refine am_ald X 13 _ ((mo_ce (sI (sF (sI M 0 0) 6 (oI (mo_pl (sI M 0 0) t)).toNatClampNeg 0) 20 (if M.1 20 = t then 0 else M.1 20)) t i).2.2 13) hq (by decide) rfl rfl rfl (bt_vp ((pl_bt' c12)) (by decide) (by decide)) dX11_close_90 ?_
            refine RTN (some (.int _)) _ _ _ _ _ dX11_close_91 (⟨_, rfl⟩) (Nat.le_of_ble_eq_true rfl) (Nat.le_of_ble_eq_true rfl) ?_
            subst h9
            exact ⟨by simp only [mo_close, c12, if_true], by simp only [mo_close, c12, if_true]⟩
          · have h9 : i < 8 := lt_i (N := 8) rfl (by omega) (by decide) c50
            refine aw_aload_n X dX11_close_53 rfl rfl ?_
            refine am_get X 17 (Nat.le_of_ble_eq_true rfl) fl_X11_95 rfl rfl dX11_close_54 ?_
            refine aw_iload_n X dX11_close_57 rfl rfl ?_
            refine aw_aload_n X dX11_close_58 rfl rfl ?_
            refine am_get X 17 (Nat.le_of_ble_eq_true rfl) fl_X11_95 rfl rfl dX11_close_59 ?_
            refine aw_iload_n X dX11_close_62 rfl rfl ?_
            refine am_ald X 17 _ ((mo_ce (sI (sF (sI M 0 0) 6 (oI (mo_pl (sI M 0 0) t)).toNatClampNeg 0) 20 (if M.1 20 = t then 0 else M.1 20)) t i).2.2 17) hq (by decide) rfl rfl rfl (vp_in_nI h9 (by decide)) dX11_close_63 ?_
            refine aw_iload_n X dX11_close_64 rfl rfl ?_
            refine aw_icmp_ne (tgt := 72) X dX11_close_65 rfl (fun c65 => ?_) (fun c65 => ?_)
            · refine aw_aload_n X dX11_close_72 rfl rfl ?_
              refine am_get X 17 (Nat.le_of_ble_eq_true rfl) fl_X11_95 rfl rfl dX11_close_73 ?_
              refine aw_iload_n X dX11_close_76 rfl rfl ?_
              refine am_ald X 17 _ ((mo_ce (sI (sF (sI M 0 0) 6 (oI (mo_pl (sI M 0 0) t)).toNatClampNeg 0) 20 (if M.1 20 = t then 0 else M.1 20)) t i).2.2 17) hq (by decide) rfl rfl rfl (vp_in_nI h9 (by decide)) dX11_close_77 ?_
              refine am_ast X 17 _ hq (by decide) rfl rfl (vp_in_nI h9 (by decide)) dX11_close_78 ?_
              refine aw_iinc (lv' := [(3, _), (2, _), (0, _), (1, _)]) X dX11_close_79 rfl (iinc_1 _) (by decide) rfl ?_
              refine aw_goto (tgt := 47) X dX11_close_82 rfl ?_
              refine aw_lv [0, 1, 2, 3] rfl ?_
              have hM2 : ((sF (mo_ce (sI (sF (sI M 0 0) 6 (oI (mo_pl (sI M 0 0) t)).toNatClampNeg 0) 20 (if M.1 20 = t then 0 else M.1 20)) t i) 17 (nI i).toNatClampNeg ((mo_ce (sI (sF (sI M 0 0) 6 (oI (mo_pl (sI M 0 0) t)).toNatClampNeg 0) 20 (if M.1 20 = t then 0 else M.1 20)) t i).2.2 17 (nI i).toNatClampNeg)) : MS) = mo_ce (sI (sF (sI M 0 0) 6 (oI (mo_pl (sI M 0 0) t)).toNatClampNeg 0) 20 (if M.1 20 = t then 0 else M.1 20)) t (i + 1) := by simp only [mo_ce, c65, if_true, if_false]
              rw [hM2]
              exact ih (i + 1) _ (nI_1 i) (by omega) (by omega)
            · refine aw_iconst X dX11_close_68 ci_0 ?_
              refine aw_goto (tgt := 78) X dX11_close_69 rfl ?_
              refine am_ast X 17 _ hq (by decide) rfl rfl (vp_in_nI h9 (by decide)) dX11_close_78 ?_
              refine aw_iinc (lv' := [(3, _), (2, _), (0, _), (1, _)]) X dX11_close_79 rfl (iinc_1 _) (by decide) rfl ?_
              refine aw_goto (tgt := 47) X dX11_close_82 rfl ?_
              refine aw_lv [0, 1, 2, 3] rfl ?_
              have hM2 : ((sF (mo_ce (sI (sF (sI M 0 0) 6 (oI (mo_pl (sI M 0 0) t)).toNatClampNeg 0) 20 (if M.1 20 = t then 0 else M.1 20)) t i) 17 (nI i).toNatClampNeg 0) : MS) = mo_ce (sI (sF (sI M 0 0) 6 (oI (mo_pl (sI M 0 0) t)).toNatClampNeg 0) 20 (if M.1 20 = t then 0 else M.1 20)) t (i + 1) := by simp only [mo_ce, c65, if_true, if_false]
              rw [hM2]
              exact ih (i + 1) _ (nI_1 i) (by omega) (by omega)
      refine aw_lv [0, 1, 2, 3] rfl ?_
      exact L 9 0 _ rfl (by decide) (by decide)
    · refine aw_iconst X dX11_close_34 ci_0 ?_
      refine aw_goto (tgt := 42) X dX11_close_35 rfl ?_
      refine am_put X 20 (M' := sI _ 20 _) (Nat.le_of_ble_eq_true rfl) fl_X11_191 rfl rfl (rfl) (rfl) (mf_20 _ _ _) rfl dX11_close_42 ?_
      refine aw_iconst X dX11_close_45 ci_0 ?_
      refine aw_istore_n (lv' := [(3, _), (2, _), (0, _), (1, _)]) X dX11_close_46 rfl (by decide) rfl ?_
      have hM : ((sI (sF (sI M 0 0) 6 (oI (mo_pl (sI M 0 0) t)).toNatClampNeg 0) 20 0) : MS) = (sI (sF (sI M 0 0) 6 (oI (mo_pl (sI M 0 0) t)).toNatClampNeg 0) 20 (if M.1 20 = t then 0 else M.1 20)) := by simp only [c31, if_true, if_false]
      rw [hM]
      have L : ∀ (nn : Nat) (i : Nat) (x : Int32), (x = nI i) → (i ≤ 8) → (9 ≤ i + nn) → AW G p l e ({ frames := 1, cells := 0, slots := 0, locals := 22 } : Room) s m args below meth c 4 A H0 Q (mw G q (mo_ce (sI (sF (sI M 0 0) 6 (oI (mo_pl (sI M 0 0) t)).toNatClampNeg 0) 20 (if M.1 20 = t then 0 else M.1 20)) t i)) 0 0 47 [(3, .int x), (2, .int (oI (mo_pl (sI M 0 0) t))), (0, .ref (q 0)), (1, .int t)] [] := by
        intro nn
        induction nn with
        | zero => intro i x hx h1 h2; exact absurd h2 (by omega)
        | succ nn ih =>
          intro i x hx h1 h2
          subst hx
          refine aw_iload_n X dX11_close_47 rfl rfl ?_
          refine aw_bipush X dX11_close_48 cb_8 ?_
          refine aw_icmp_ge (tgt := 85) X dX11_close_50 rfl (fun c50 => ?_) (fun c50 => ?_)
          · have h9 : i = 8 := by have := ge_i (N := 8) rfl (by omega) (by decide) c50; omega
            refine aw_aload_n X dX11_close_85 rfl rfl ?_
            refine am_get X 13 (Nat.le_of_ble_eq_true rfl) fl_X11_86 rfl rfl dX11_close_86 ?_
            refine aw_iload_n X dX11_close_89 rfl rfl ?_
            refine am_ald X 13 _ ((mo_ce (sI (sF (sI M 0 0) 6 (oI (mo_pl (sI M 0 0) t)).toNatClampNeg 0) 20 (if M.1 20 = t then 0 else M.1 20)) t i).2.2 13) hq (by decide) rfl rfl rfl (bt_vp ((pl_bt' c12)) (by decide) (by decide)) dX11_close_90 ?_
            refine RTN (some (.int _)) _ _ _ _ _ dX11_close_91 (⟨_, rfl⟩) (Nat.le_of_ble_eq_true rfl) (Nat.le_of_ble_eq_true rfl) ?_
            subst h9
            exact ⟨by simp only [mo_close, c12, if_true], by simp only [mo_close, c12, if_true]⟩
          · have h9 : i < 8 := lt_i (N := 8) rfl (by omega) (by decide) c50
            refine aw_aload_n X dX11_close_53 rfl rfl ?_
            refine am_get X 17 (Nat.le_of_ble_eq_true rfl) fl_X11_95 rfl rfl dX11_close_54 ?_
            refine aw_iload_n X dX11_close_57 rfl rfl ?_
            refine aw_aload_n X dX11_close_58 rfl rfl ?_
            refine am_get X 17 (Nat.le_of_ble_eq_true rfl) fl_X11_95 rfl rfl dX11_close_59 ?_
            refine aw_iload_n X dX11_close_62 rfl rfl ?_
            refine am_ald X 17 _ ((mo_ce (sI (sF (sI M 0 0) 6 (oI (mo_pl (sI M 0 0) t)).toNatClampNeg 0) 20 (if M.1 20 = t then 0 else M.1 20)) t i).2.2 17) hq (by decide) rfl rfl rfl (vp_in_nI h9 (by decide)) dX11_close_63 ?_
            refine aw_iload_n X dX11_close_64 rfl rfl ?_
            refine aw_icmp_ne (tgt := 72) X dX11_close_65 rfl (fun c65 => ?_) (fun c65 => ?_)
            · refine aw_aload_n X dX11_close_72 rfl rfl ?_
              refine am_get X 17 (Nat.le_of_ble_eq_true rfl) fl_X11_95 rfl rfl dX11_close_73 ?_
              refine aw_iload_n X dX11_close_76 rfl rfl ?_
              refine am_ald X 17 _ ((mo_ce (sI (sF (sI M 0 0) 6 (oI (mo_pl (sI M 0 0) t)).toNatClampNeg 0) 20 (if M.1 20 = t then 0 else M.1 20)) t i).2.2 17) hq (by decide) rfl rfl rfl (vp_in_nI h9 (by decide)) dX11_close_77 ?_
              refine am_ast X 17 _ hq (by decide) rfl rfl (vp_in_nI h9 (by decide)) dX11_close_78 ?_
              refine aw_iinc (lv' := [(3, _), (2, _), (0, _), (1, _)]) X dX11_close_79 rfl (iinc_1 _) (by decide) rfl ?_
              refine aw_goto (tgt := 47) X dX11_close_82 rfl ?_
              refine aw_lv [0, 1, 2, 3] rfl ?_
              have hM2 : ((sF (mo_ce (sI (sF (sI M 0 0) 6 (oI (mo_pl (sI M 0 0) t)).toNatClampNeg 0) 20 (if M.1 20 = t then 0 else M.1 20)) t i) 17 (nI i).toNatClampNeg ((mo_ce (sI (sF (sI M 0 0) 6 (oI (mo_pl (sI M 0 0) t)).toNatClampNeg 0) 20 (if M.1 20 = t then 0 else M.1 20)) t i).2.2 17 (nI i).toNatClampNeg)) : MS) = mo_ce (sI (sF (sI M 0 0) 6 (oI (mo_pl (sI M 0 0) t)).toNatClampNeg 0) 20 (if M.1 20 = t then 0 else M.1 20)) t (i + 1) := by simp only [mo_ce, c65, if_true, if_false]
              rw [hM2]
              exact ih (i + 1) _ (nI_1 i) (by omega) (by omega)
            · refine aw_iconst X dX11_close_68 ci_0 ?_
              refine aw_goto (tgt := 78) X dX11_close_69 rfl ?_
              refine am_ast X 17 _ hq (by decide) rfl rfl (vp_in_nI h9 (by decide)) dX11_close_78 ?_
              refine aw_iinc (lv' := [(3, _), (2, _), (0, _), (1, _)]) X dX11_close_79 rfl (iinc_1 _) (by decide) rfl ?_
              refine aw_goto (tgt := 47) X dX11_close_82 rfl ?_
              refine aw_lv [0, 1, 2, 3] rfl ?_
              have hM2 : ((sF (mo_ce (sI (sF (sI M 0 0) 6 (oI (mo_pl (sI M 0 0) t)).toNatClampNeg 0) 20 (if M.1 20 = t then 0 else M.1 20)) t i) 17 (nI i).toNatClampNeg 0) : MS) = mo_ce (sI (sF (sI M 0 0) 6 (oI (mo_pl (sI M 0 0) t)).toNatClampNeg 0) 20 (if M.1 20 = t then 0 else M.1 20)) t (i + 1) := by simp only [mo_ce, c65, if_true, if_false]
              rw [hM2]
              exact ih (i + 1) _ (nI_1 i) (by omega) (by omega)
      refine aw_lv [0, 1, 2, 3] rfl ?_
      exact L 9 0 _ rfl (by decide) (by decide)
  · refine aw_bipush X dX11_close_15 cb_m2 ?_
    refine RTN (some (.int _)) _ _ _ _ _ dX11_close_17 (⟨_, rfl⟩) (Nat.le_of_ble_eq_true rfl) (Nat.le_of_ble_eq_true rfl) ?_
    first | (constructor <;> ((try simp only [mo_close, c12, if_true, if_false, not_true_eq_false, not_false_eq_true, and_self, true_and, and_true, false_and, and_false, or_true, true_or, or_false, false_or, reduceCtorEq, ne_eq, va_us, pk_us]); (try with_reducible rfl); done)) | (clear RTN X; constructor <;> ((try simp_all only [mo_close, if_true, if_false, not_true_eq_false, not_false_eq_true, and_self, true_and, and_true, false_and, and_false, or_true, true_or, or_false, false_or, reduceCtorEq, ne_eq, va_us, pk_us]); (try with_reducible rfl); done)) | (constructor <;> ((try simp only [mo_close, c12, if_true, if_false, not_true_eq_false, not_false_eq_true, and_self, true_and, and_true, false_and, and_false, or_true, true_or, or_false, false_or, reduceCtorEq, ne_eq, va_us, pk_us]); (try rfl); done))
