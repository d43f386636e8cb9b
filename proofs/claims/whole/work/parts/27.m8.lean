set_option maxRecDepth 100000 in
set_option maxHeartbeats 4000000 in
theorem kX11_about (G : GG) (l : Launch) (q : Nat → Nat) (M : MS) (hq : mInj q) (hFl : mi_file M) (t what : Int32) : MC G l yX11_about cX11_about 4 ((Option.some .int)) ({ frames := 1, cells := 0, slots := 0, locals := 22 } : Room) [.ref (q 0), .int t, .int what] (mw G q M) (fun v w' => v = some (.int (mo_about M t what).1) ∧ w' = mw G q (mo_about M t what).2) := by
  refine mc_int (by decide) (Nat.le_of_ble_eq_true rfl) rfl rfl ?_
  intro p e s m args below meth c A H0 Q X hnm RTN
  have X : Cx G p s m args meth c A H0 cX11_about 4 RX11 := X
  refine aw_aload_n X dX11_about_0 rfl rfl ?_
  refine aw_iconst X dX11_about_1 ci_0 ?_
  refine am_put X 0 (M' := sI _ 0 _) (Nat.le_of_ble_eq_true rfl) fl_X11_1 rfl rfl (rfl) (rfl) (mf_0 _ _ _) rfl dX11_about_2 ?_
  refine aw_aload_n X dX11_about_5 rfl rfl ?_
  refine aw_iload_n X dX11_about_6 rfl rfl ?_
  refine aw_callV X (kX11_placeOf _ _ _ _ hq _) okm_X11_placeOf okX11 mw_0 ml_X11_183 im_X11_placeOf se_X11_X11_placeOf rfl rfl (Nat.le_of_ble_eq_true rfl) ⟨Nat.le_of_ble_eq_true rfl, Nat.le_of_ble_eq_true rfl, Nat.le_of_ble_eq_true rfl, Nat.le_of_ble_eq_true rfl⟩ dX11_about_7 (fun v w2 hp => ?_)
  obtain ⟨rfl, rfl⟩ := hp
  refine aw_istore_n (lv' := [(3, _), (0, _), (1, _), (2, _)]) X dX11_about_10 rfl (by decide) rfl ?_
  refine aw_iload_n X dX11_about_11 rfl rfl ?_
  refine aw_if_ge (tgt := 18) X dX11_about_12 rfl (fun c12 => ?_) (fun c12 => ?_)
  · refine aw_iload_n X dX11_about_18 rfl rfl ?_
    rcases sw_8 what with c19 | c19 | c19 | c19 | c19 | c19 | c19 | c19 | c19
    · refine aw_tableOut (tgt := 140) X dX11_about_19 c19 rfl ?_
      refine aw_bipush X dX11_about_140 cb_m3 ?_
      refine RTN (some (.int _)) _ _ _ _ _ dX11_about_142 (⟨_, rfl⟩) (Nat.le_of_ble_eq_true rfl) (Nat.le_of_ble_eq_true rfl) ?_
      refine ⟨?_, rfl⟩
      simp only [mo_about, c12, if_true]
      rw [swi_out]
      exact c19
    · refine aw_tableIn (tgt := 64) (off := 45) X dX11_about_19 (by rw [c19]; decide) (by rw [c19]; decide) (by rw [c19]; rfl) rfl ?_
      refine aw_aload_n X dX11_about_64 rfl rfl ?_
      refine am_get X 8 (Nat.le_of_ble_eq_true rfl) fl_X11_23 rfl rfl dX11_about_65 ?_
      refine aw_iload_n X dX11_about_68 rfl rfl ?_
      refine am_ald X 8 _ (M.2.2 8) hq (by decide) rfl rfl rfl (bt_vp ((pl_bt' c12)) (by decide) (by decide)) dX11_about_69 ?_
      refine RTN (some (.int _)) _ _ _ _ _ dX11_about_70 (⟨_, rfl⟩) (Nat.le_of_ble_eq_true rfl) (Nat.le_of_ble_eq_true rfl) ?_
      subst c19
      refine ⟨?_, rfl⟩
      simp only [mo_about, c12, if_true]
      rfl
    · refine aw_tableIn (tgt := 71) (off := 52) X dX11_about_19 (by rw [c19]; decide) (by rw [c19]; decide) (by rw [c19]; rfl) rfl ?_
      refine aw_aload_n X dX11_about_71 rfl rfl ?_
      refine am_get X 11 (Nat.le_of_ble_eq_true rfl) fl_X11_80 rfl rfl dX11_about_72 ?_
      refine aw_iload_n X dX11_about_75 rfl rfl ?_
      refine am_ald X 11 _ (M.2.2 11) hq (by decide) rfl rfl rfl (bt_vp ((pl_bt' c12)) (by decide) (by decide)) dX11_about_76 ?_
      refine RTN (some (.int _)) _ _ _ _ _ dX11_about_77 (⟨_, rfl⟩) (Nat.le_of_ble_eq_true rfl) (Nat.le_of_ble_eq_true rfl) ?_
      subst c19
      refine ⟨?_, rfl⟩
      simp only [mo_about, c12, if_true]
      rfl
    · refine aw_tableIn (tgt := 78) (off := 59) X dX11_about_19 (by rw [c19]; decide) (by rw [c19]; decide) (by rw [c19]; rfl) rfl ?_
      refine aw_aload_n X dX11_about_78 rfl rfl ?_
      refine am_get X 8 (Nat.le_of_ble_eq_true rfl) fl_X11_23 rfl rfl dX11_about_79 ?_
      refine aw_iload_n X dX11_about_82 rfl rfl ?_
      refine am_ald X 8 _ (M.2.2 8) hq (by decide) rfl rfl rfl (bt_vp ((pl_bt' c12)) (by decide) (by decide)) dX11_about_83 ?_
      refine aw_if_ne (tgt := 91) X dX11_about_84 rfl (fun c84 => ?_) (fun c84 => ?_)
      · refine aw_aload_n X dX11_about_91 rfl rfl ?_
        refine aw_iload_n X dX11_about_92 rfl rfl ?_
        refine aw_callV X (kX11_endOf _ _ _ _ hq (oI (mo_pl (sI M 0 0) t)) (pl_bt' c12) (fun h => hFl _ (cl_lt (pl_bt' c12) (by decide) (by decide)) h)) okm_X11_endOf okX11 mw_0 ml_X11_124 im_X11_endOf se_X11_X11_endOf rfl rfl (Nat.le_of_ble_eq_true rfl) ⟨Nat.le_of_ble_eq_true rfl, Nat.le_of_ble_eq_true rfl, Nat.le_of_ble_eq_true rfl, Nat.le_of_ble_eq_true rfl⟩ dX11_about_93 (fun v w2 hp => ?_)
        obtain ⟨rfl, rfl⟩ := hp
        refine RTN (some (.int _)) _ _ _ _ _ dX11_about_96 (⟨_, rfl⟩) (Nat.le_of_ble_eq_true rfl) (Nat.le_of_ble_eq_true rfl) ?_
        subst c19
        refine ⟨?_, rfl⟩
        simp only [mo_about, c12, if_true]
        try simp only [c84, if_true, if_false]
        rfl
      · refine aw_iconst X dX11_about_87 ci_0 ?_
        refine aw_goto (tgt := 96) X dX11_about_88 rfl ?_
        refine RTN (some (.int _)) _ _ _ _ _ dX11_about_96 (⟨_, rfl⟩) (Nat.le_of_ble_eq_true rfl) (Nat.le_of_ble_eq_true rfl) ?_
        subst c19
        refine ⟨?_, rfl⟩
        simp only [mo_about, c12, if_true]
        try simp only [c84, if_true, if_false]
        rfl
    · refine aw_tableIn (tgt := 97) (off := 78) X dX11_about_19 (by rw [c19]; decide) (by rw [c19]; decide) (by rw [c19]; rfl) rfl ?_
      refine aw_aload_n X dX11_about_97 rfl rfl ?_
      refine am_get X 13 (Nat.le_of_ble_eq_true rfl) fl_X11_86 rfl rfl dX11_about_98 ?_
      refine aw_iload_n X dX11_about_101 rfl rfl ?_
      refine am_ald X 13 _ (M.2.2 13) hq (by decide) rfl rfl rfl (bt_vp ((pl_bt' c12)) (by decide) (by decide)) dX11_about_102 ?_
      refine RTN (some (.int _)) _ _ _ _ _ dX11_about_103 (⟨_, rfl⟩) (Nat.le_of_ble_eq_true rfl) (Nat.le_of_ble_eq_true rfl) ?_
      subst c19
      refine ⟨?_, rfl⟩
      simp only [mo_about, c12, if_true]
      rfl
    · refine aw_tableIn (tgt := 104) (off := 85) X dX11_about_19 (by rw [c19]; decide) (by rw [c19]; decide) (by rw [c19]; rfl) rfl ?_
      refine aw_aload_n X dX11_about_104 rfl rfl ?_
      refine am_get X 14 (Nat.le_of_ble_eq_true rfl) fl_X11_89 rfl rfl dX11_about_105 ?_
      refine aw_iload_n X dX11_about_108 rfl rfl ?_
      refine am_ald X 14 _ (M.2.2 14) hq (by decide) rfl rfl rfl (bt_vp ((pl_bt' c12)) (by decide) (by decide)) dX11_about_109 ?_
      refine RTN (some (.int _)) _ _ _ _ _ dX11_about_110 (⟨_, rfl⟩) (Nat.le_of_ble_eq_true rfl) (Nat.le_of_ble_eq_true rfl) ?_
      subst c19
      refine ⟨?_, rfl⟩
      simp only [mo_about, c12, if_true]
      rfl
    · refine aw_tableIn (tgt := 111) (off := 92) X dX11_about_19 (by rw [c19]; decide) (by rw [c19]; decide) (by rw [c19]; rfl) rfl ?_
      refine aw_aload_n X dX11_about_111 rfl rfl ?_
      refine am_get X 10 (Nat.le_of_ble_eq_true rfl) fl_X11_77 rfl rfl dX11_about_112 ?_
      refine aw_iload_n X dX11_about_115 rfl rfl ?_
      refine am_ald X 10 _ (M.2.2 10) hq (by decide) rfl rfl rfl (bt_vp ((pl_bt' c12)) (by decide) (by decide)) dX11_about_116 ?_
      refine RTN (some (.int _)) _ _ _ _ _ dX11_about_117 (⟨_, rfl⟩) (Nat.le_of_ble_eq_true rfl) (Nat.le_of_ble_eq_true rfl) ?_
      subst c19
      refine ⟨?_, rfl⟩
      simp only [mo_about, c12, if_true]
      rfl
    · refine aw_tableIn (tgt := 118) (off := 99) X dX11_about_19 (by rw [c19]; decide) (by rw [c19]; decide) (by rw [c19]; rfl) rfl ?_
      refine aw_aload_n X dX11_about_118 rfl rfl ?_
      refine am_get X 9 (Nat.le_of_ble_eq_true rfl) fl_X11_74 rfl rfl dX11_about_119 ?_
      refine aw_iload_n X dX11_about_122 rfl rfl ?_
      refine am_zld X 9 _ (M.2.2 9) hq (by decide) rfl rfl rfl (bt_vp ((pl_bt' c12)) (by decide) (by decide)) dX11_about_123 ?_
      refine aw_if_eq (tgt := 131) X dX11_about_124 rfl (fun c124 => ?_) (fun c124 => ?_)
      · refine aw_iconst X dX11_about_131 ci_0 ?_
        refine RTN (some (.int _)) _ _ _ _ _ dX11_about_132 (⟨_, rfl⟩) (Nat.le_of_ble_eq_true rfl) (Nat.le_of_ble_eq_true rfl) ?_
        subst c19
        refine ⟨?_, rfl⟩
        simp only [mo_about, c12, if_true]
        try simp only [c124, if_true, if_false]
        rfl
      · refine aw_iconst X dX11_about_127 ci_1 ?_
        refine aw_goto (tgt := 132) X dX11_about_128 rfl ?_
        refine RTN (some (.int _)) _ _ _ _ _ dX11_about_132 (⟨_, rfl⟩) (Nat.le_of_ble_eq_true rfl) (Nat.le_of_ble_eq_true rfl) ?_
        subst c19
        refine ⟨?_, rfl⟩
        simp only [mo_about, c12, if_true]
        try simp only [c124, if_true, if_false]
        rfl
    · refine aw_tableIn (tgt := 133) (off := 114) X dX11_about_19 (by rw [c19]; decide) (by rw [c19]; decide) (by rw [c19]; rfl) rfl ?_
      refine aw_aload_n X dX11_about_133 rfl rfl ?_
      refine am_get X 17 (Nat.le_of_ble_eq_true rfl) fl_X11_95 rfl rfl dX11_about_134 ?_
      refine aw_iload_n X dX11_about_137 rfl rfl ?_
      refine am_ald X 17 _ (M.2.2 17) hq (by decide) rfl rfl rfl (bt_vp ((pl_bt' c12)) (by decide) (by decide)) dX11_about_138 ?_
      refine RTN (some (.int _)) _ _ _ _ _ dX11_about_139 (⟨_, rfl⟩) (Nat.le_of_ble_eq_true rfl) (Nat.le_of_ble_eq_true rfl) ?_
      subst c19
      refine ⟨?_, rfl⟩
      simp only [mo_about, c12, if_true]
      rfl
  · refine aw_bipush X dX11_about_15 cb_m2 ?_
    refine RTN (some (.int _)) _ _ _ _ _ dX11_about_17 (⟨_, rfl⟩) (Nat.le_of_ble_eq_true rfl) (Nat.le_of_ble_eq_true rfl) ?_
    first | (constructor <;> ((try simp only [mo_about, c12, if_true, if_false, not_true_eq_false, not_false_eq_true, and_self, true_and, and_true, false_and, and_false, or_true, true_or, or_false, false_or, reduceCtorEq, ne_eq, va_us, pk_us]); (try rfl); done)) | (refine ⟨?_, rfl⟩; simp only [mo_about, c12, if_true]; rw [swi_out]; exact c19)
set_option maxRecDepth 100000 in
set_option maxHeartbeats 4000000 in
theorem kX11_shown (G : GG) (l : Launch) (q : Nat → Nat) (M : MS) (hq : mInj q) (hSg : mi_signs M) (t i : Int32) : MC G l yX11_shown cX11_shown 4 ((Option.some .int)) ({ frames := 1, cells := 0, slots := 0, locals := 25 } : Room) [.ref (q 0), .int t, .int i] (mw G q M) (fun v w' => v = some (.int (mo_shown M t i).1) ∧ w' = mw G q (mo_shown M t i).2) := by
  refine mc_int (by decide) (Nat.le_of_ble_eq_true rfl) rfl rfl ?_
  intro p e s m args below meth c A H0 Q X hnm RTN
  have X : Cx G p s m args meth c A H0 cX11_shown 4 RX11 := X
  refine aw_aload_n X dX11_shown_0 rfl rfl ?_
  refine aw_iconst X dX11_shown_1 ci_0 ?_
  refine am_put X 0 (M' := sI _ 0 _) (Nat.le_of_ble_eq_true rfl) fl_X11_1 rfl rfl (rfl) (rfl) (mf_0 _ _ _) rfl dX11_shown_2 ?_
  refine aw_aload_n X dX11_shown_5 rfl rfl ?_
  refine aw_iload_n X dX11_shown_6 rfl rfl ?_
  refine aw_callV X (kX11_placeOf _ _ _ _ hq _) okm_X11_placeOf okX11 mw_0 ml_X11_183 im_X11_placeOf se_X11_X11_placeOf rfl rfl (Nat.le_of_ble_eq_true rfl) ⟨Nat.le_of_ble_eq_true rfl, Nat.le_of_ble_eq_true rfl, Nat.le_of_ble_eq_true rfl, Nat.le_of_ble_eq_true rfl⟩ dX11_shown_7 (fun v w2 hp => ?_)
  obtain ⟨rfl, rfl⟩ := hp
  refine aw_istore_n (lv' := [(3, _), (0, _), (1, _), (2, _)]) X dX11_shown_10 rfl (by decide) rfl ?_
  refine aw_iload_n X dX11_shown_11 rfl rfl ?_
  refine aw_if_ge (tgt := 18) X dX11_shown_12 rfl (fun c12 => ?_) (fun c12 => ?_)
  · refine aw_aload_n X dX11_shown_18 rfl rfl ?_
    refine am_get X 8 (Nat.le_of_ble_eq_true rfl) fl_X11_23 rfl rfl dX11_shown_19 ?_
    refine aw_iload_n X dX11_shown_22 rfl rfl ?_
    refine am_ald X 8 _ (M.2.2 8) hq (by decide) rfl rfl rfl (bt_vp ((pl_bt' c12)) (by decide) (by decide)) dX11_shown_23 ?_
    refine aw_if_eq (tgt := 30) X dX11_shown_24 rfl (fun c24 => ?_) (fun c24 => ?_)
    · refine aw_iload_n X dX11_shown_30 rfl rfl ?_
      refine aw_i2l X dX11_shown_31 ?_
      refine aw_lconst X dX11_shown_32 cl_0 ?_
      refine aw_aload_n X dX11_shown_33 rfl rfl ?_
      refine am_get X 19 (Nat.le_of_ble_eq_true rfl) fl_X11_98 rfl rfl dX11_shown_34 ?_
      refine aw_iload_n X dX11_shown_37 rfl rfl ?_
      refine am_ald X 19 _ (M.2.2 19) hq (by decide) rfl rfl rfl (bt_vp ((pl_bt' c12)) (by decide) (by decide)) dX11_shown_38 ?_
      refine aw_iconst X dX11_shown_39 ci_1 ?_
      refine aw_isub X dX11_shown_40 ?_
      refine aw_i2l X dX11_shown_41 ?_
      refine aw_callS X (kX11_inI _ _ _ i 0 _ 0 ((M.2.2 19 (oI (mo_pl (sI M 0 0) t)).toNatClampNeg - 1).toInt) rfl (i64_32 _)) okm_X11_in ml_X11_12 st_X11_in rfl rfl (Nat.le_of_ble_eq_true rfl) ⟨Nat.le_of_ble_eq_true rfl, Nat.le_of_ble_eq_true rfl, Nat.le_of_ble_eq_true rfl, Nat.le_of_ble_eq_true rfl⟩ dX11_shown_42 (fun v w2 hp => ?_)
      obtain ⟨rfl, rfl⟩ := hp
      refine aw_if_eq (tgt := 62) X dX11_shown_45 rfl (fun c45 => ?_) (fun c45 => ?_)
      · rw [bI_0] at c45
        refine aw_iconst X dX11_shown_62 ci_m1 ?_
        refine RTN (some (.int _)) _ _ _ _ _ dX11_shown_63 (⟨_, rfl⟩) (Nat.le_of_ble_eq_true rfl) (Nat.le_of_ble_eq_true rfl) ?_
        first | (constructor <;> ((try simp only [mo_shown, c12, (eq_true c24), c45, if_true, if_false, not_true_eq_false, not_false_eq_true, and_self, true_and, and_true, false_and, and_false, or_true, true_or, or_false, false_or, reduceCtorEq, ne_eq, va_us, pk_us]); (try with_reducible rfl); done)) | (clear RTN X; constructor <;> ((try simp_all only [mo_shown, if_true, if_false, not_true_eq_false, not_false_eq_true, and_self, true_and, and_true, false_and, and_false, or_true, true_or, or_false, false_or, reduceCtorEq, ne_eq, va_us, pk_us]); (try with_reducible rfl); done)) | (constructor <;> ((try simp only [mo_shown, c12, (eq_true c24), c45, if_true, if_false, not_true_eq_false, not_false_eq_true, and_self, true_and, and_true, false_and, and_false, or_true, true_or, or_false, false_or, reduceCtorEq, ne_eq, va_us, pk_us]); (try rfl); done))
      · rw [bI_n0] at c45
        refine aw_aload_n X dX11_shown_48 rfl rfl ?_
        refine am_get X 18 (Nat.le_of_ble_eq_true rfl) fl_X11_133 rfl rfl dX11_shown_49 ?_
        refine aw_bipush X dX11_shown_52 cb_40 ?_
        refine aw_iload_n X dX11_shown_54 rfl rfl ?_
        refine aw_imul X dX11_shown_55 ?_
        refine aw_iload_n X dX11_shown_56 rfl rfl ?_
        refine aw_iadd X dX11_shown_57 ?_
        refine am_ald X 18 _ (M.2.2 18) hq (by decide) rfl rfl rfl (ix8 (pl_bt' c12) (sg_bt (hSg _ (cl_lt (pl_bt' c12) (by decide) (by decide))) c45)) dX11_shown_58 ?_
        refine aw_goto (tgt := 63) X dX11_shown_59 rfl ?_
        refine RTN (some (.int _)) _ _ _ _ _ dX11_shown_63 (⟨_, rfl⟩) (Nat.le_of_ble_eq_true rfl) (Nat.le_of_ble_eq_true rfl) ?_
        first | (constructor <;> ((try simp only [mo_shown, c12, (eq_true c24), c45, if_true, if_false, not_true_eq_false, not_false_eq_true, and_self, true_and, and_true, false_and, and_false, or_true, true_or, or_false, false_or, reduceCtorEq, ne_eq, va_us, pk_us]); (try with_reducible rfl); done)) | (clear RTN X; constructor <;> ((try simp_all only [mo_shown, if_true, if_false, not_true_eq_false, not_false_eq_true, and_self, true_and, and_true, false_and, and_false, or_true, true_or, or_false, false_or, reduceCtorEq, ne_eq, va_us, pk_us]); (try with_reducible rfl); done)) | (constructor <;> ((try simp only [mo_shown, c12, (eq_true c24), c45, if_true, if_false, not_true_eq_false, not_false_eq_true, and_self, true_and, and_true, false_and, and_false, or_true, true_or, or_false, false_or, reduceCtorEq, ne_eq, va_us, pk_us]); (try rfl); done))
    · refine aw_bipush X dX11_shown_27 cb_m4 ?_
      refine RTN (some (.int _)) _ _ _ _ _ dX11_shown_29 (⟨_, rfl⟩) (Nat.le_of_ble_eq_true rfl) (Nat.le_of_ble_eq_true rfl) ?_
      first | (constructor <;> ((try simp only [mo_shown, c12, c24, if_true, if_false, not_true_eq_false, not_false_eq_true, and_self, true_and, and_true, false_and, and_false, or_true, true_or, or_false, false_or, reduceCtorEq, ne_eq, va_us, pk_us]); (try with_reducible rfl); done)) | (clear RTN X; constructor <;> ((try simp_all only [mo_shown, if_true, if_false, not_true_eq_false, not_false_eq_true, and_self, true_and, and_true, false_and, and_false, or_true, true_or, or_false, false_or, reduceCtorEq, ne_eq, va_us, pk_us]); (try with_reducible rfl); done)) | (constructor <;> ((try simp only [mo_shown, c12, c24, if_true, if_false, not_true_eq_false, not_false_eq_true, and_self, true_and, and_true, false_and, and_false, or_true, true_or, or_false, false_or, reduceCtorEq, ne_eq, va_us, pk_us]); (try rfl); done))
  · refine aw_bipush X dX11_shown_15 cb_m2 ?_
    refine RTN (some (.int _)) _ _ _ _ _ dX11_shown_17 (⟨_, rfl⟩) (Nat.le_of_ble_eq_true rfl) (Nat.le_of_ble_eq_true rfl) ?_
    first | (constructor <;> ((try simp only [mo_shown, c12, if_true, if_false, not_true_eq_false, not_false_eq_true, and_self, true_and, and_true, false_and, and_false, or_true, true_or, or_false, false_or, reduceCtorEq, ne_eq, va_us, pk_us]); (try with_reducible rfl); done)) | (clear RTN X; constructor <;> ((try simp_all only [mo_shown, if_true, if_false, not_true_eq_false, not_false_eq_true, and_self, true_and, and_true, false_and, and_false, or_true, true_or, or_false, false_or, reduceCtorEq, ne_eq, va_us, pk_us]); (try with_reducible rfl); done)) | (constructor <;> ((try simp only [mo_shown, c12, if_true, if_false, not_true_eq_false, not_false_eq_true, and_self, true_and, and_true, false_and, and_false, or_true, true_or, or_false, false_or, reduceCtorEq, ne_eq, va_us, pk_us]); (try rfl); done))
