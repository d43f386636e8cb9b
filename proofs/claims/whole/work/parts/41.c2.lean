set_option maxRecDepth 100000 in
set_option maxHeartbeats 4000000 in
theorem kX10_calendarPart (G : GG) (l : Launch) (w : WM) (x : Int64) (what : Int32) : MC G l yX10_calendarPart cX10_calendarPart 13 ((Option.some .int)) ({ frames := 1, cells := 0, slots := 0, locals := 25 } : Room) [.long x, .int what] w (fun v w' => v = some (.int (cl_cal x what)) ∧ w' = w) := by
  refine mc_int (by decide) (Nat.le_of_ble_eq_true rfl) rfl rfl ?_
  intro p e s m args below meth c A H0 Q X hnm RTN
  have X : Cx G p s m args meth c A H0 cX10_calendarPart 13 RX10 := X
  refine aw_lload_n X dX10_calendarPart_0 rfl rfl ?_
  refine aw_ldc2 X kl_X10_380 dX10_calendarPart_1 ?_
  refine aw_ladd X dX10_calendarPart_4 ?_
  refine aw_lstore_n (lv' := [(3, _), (0, _), (2, _)]) X dX10_calendarPart_5 rfl (by decide) rfl ?_
  refine aw_lload_n X dX10_calendarPart_6 rfl rfl ?_
  refine aw_ldc2 X kl_X10_382 dX10_calendarPart_7 ?_
  refine aw_callS X (kJ9_floorDiv_f86c9 _ _ _ _ _ (by decide)) okm_J9_floorDiv_f86c9 ml_X10_327 st_J9_floorDiv_f86c9 rfl rfl (Nat.le_of_ble_eq_true rfl) ⟨Nat.le_of_ble_eq_true rfl, Nat.le_of_ble_eq_true rfl, Nat.le_of_ble_eq_true rfl, Nat.le_of_ble_eq_true rfl⟩ dX10_calendarPart_10 (fun v w2 hp => ?_)
  obtain ⟨rfl, rfl⟩ := hp
  refine aw_lstore (lv' := [(5, _), (3, _), (0, _), (2, _)]) X dX10_calendarPart_13 (by decide) rfl ?_
  refine aw_lload_n X dX10_calendarPart_15 rfl rfl ?_
  refine aw_ldc2 X kl_X10_382 dX10_calendarPart_16 ?_
  refine aw_callS X (kJ9_floorMod_f86c9 _ _ _ _ _ (by decide)) okm_J9_floorMod_f86c9 ml_X10_330 st_J9_floorMod_f86c9 rfl rfl (Nat.le_of_ble_eq_true rfl) ⟨Nat.le_of_ble_eq_true rfl, Nat.le_of_ble_eq_true rfl, Nat.le_of_ble_eq_true rfl, Nat.le_of_ble_eq_true rfl⟩ dX10_calendarPart_19 (fun v w2 hp => ?_)
  obtain ⟨rfl, rfl⟩ := hp
  refine aw_l2i X dX10_calendarPart_22 ?_
  refine aw_istore (lv' := [(7, _), (5, _), (3, _), (0, _), (2, _)]) X dX10_calendarPart_23 (by decide) rfl ?_
  refine aw_iload X dX10_calendarPart_25 rfl ?_
  refine aw_iload X dX10_calendarPart_27 rfl ?_
  refine aw_sipush X dX10_calendarPart_29 cs_1460 ?_
  refine aw_idiv X dX10_calendarPart_32 (by decide) ?_
  refine aw_isub X dX10_calendarPart_33 ?_
  refine aw_iload X dX10_calendarPart_34 rfl ?_
  refine aw_ldcw X kc_X10_384 dX10_calendarPart_36 ?_
  refine aw_idiv X dX10_calendarPart_39 (by decide) ?_
  refine aw_iadd X dX10_calendarPart_40 ?_
  refine aw_iload X dX10_calendarPart_41 rfl ?_
  refine aw_ldcw X kc_X10_385 dX10_calendarPart_43 ?_
  refine aw_idiv X dX10_calendarPart_46 (by decide) ?_
  refine aw_isub X dX10_calendarPart_47 ?_
  refine aw_sipush X dX10_calendarPart_48 cs_365 ?_
  refine aw_idiv X dX10_calendarPart_51 (by decide) ?_
  refine aw_istore (lv' := [(8, _), (7, _), (5, _), (3, _), (0, _), (2, _)]) X dX10_calendarPart_52 (by decide) rfl ?_
  refine aw_iload X dX10_calendarPart_54 rfl ?_
  refine aw_sipush X dX10_calendarPart_56 cs_365 ?_
  refine aw_iload X dX10_calendarPart_59 rfl ?_
  refine aw_imul X dX10_calendarPart_61 ?_
  refine aw_iload X dX10_calendarPart_62 rfl ?_
  refine aw_iconst X dX10_calendarPart_64 ci_4 ?_
  refine aw_idiv X dX10_calendarPart_65 (by decide) ?_
  refine aw_iadd X dX10_calendarPart_66 ?_
  refine aw_iload X dX10_calendarPart_67 rfl ?_
  refine aw_bipush X dX10_calendarPart_69 cb_100 ?_
  refine aw_idiv X dX10_calendarPart_71 (by decide) ?_
  refine aw_isub X dX10_calendarPart_72 ?_
  refine aw_isub X dX10_calendarPart_73 ?_
  refine aw_istore (lv' := [(9, _), (8, _), (7, _), (5, _), (3, _), (0, _), (2, _)]) X dX10_calendarPart_74 (by decide) rfl ?_
  refine aw_iconst X dX10_calendarPart_76 ci_5 ?_
  refine aw_iload X dX10_calendarPart_77 rfl ?_
  refine aw_imul X dX10_calendarPart_79 ?_
  refine aw_iconst X dX10_calendarPart_80 ci_2 ?_
  refine aw_iadd X dX10_calendarPart_81 ?_
  refine aw_sipush X dX10_calendarPart_82 cs_153 ?_
  refine aw_idiv X dX10_calendarPart_85 (by decide) ?_
  refine aw_istore (lv' := [(10, _), (9, _), (8, _), (7, _), (5, _), (3, _), (0, _), (2, _)]) X dX10_calendarPart_86 (by decide) rfl ?_
  refine aw_iload X dX10_calendarPart_88 rfl ?_
  refine aw_bipush X dX10_calendarPart_90 cb_10 ?_
  refine aw_icmp_ge (tgt := 102) X dX10_calendarPart_92 rfl (fun c92 => ?_) (fun c92 => ?_)
  · refine aw_iload X dX10_calendarPart_102 rfl ?_
    refine aw_bipush X dX10_calendarPart_104 cb_9 ?_
    refine aw_isub X dX10_calendarPart_106 ?_
    refine aw_istore (lv' := [(11, _), (10, _), (9, _), (8, _), (7, _), (5, _), (3, _), (0, _), (2, _)]) X dX10_calendarPart_107 (by decide) rfl ?_
    refine aw_iload_n X dX10_calendarPart_109 rfl rfl ?_
    refine aw_iconst X dX10_calendarPart_110 ci_1 ?_
    refine aw_icmp_ne (tgt := 117) X dX10_calendarPart_111 rfl (fun c111 => ?_) (fun c111 => ?_)
    · refine aw_iload_n X dX10_calendarPart_117 rfl rfl ?_
      refine aw_iconst X dX10_calendarPart_118 ci_2 ?_
      refine aw_icmp_ne (tgt := 138) X dX10_calendarPart_119 rfl (fun c119 => ?_) (fun c119 => ?_)
      · refine aw_lload X dX10_calendarPart_138 rfl ?_
        refine aw_ldc2 X kl_X10_386 dX10_calendarPart_140 ?_
        refine aw_lmul X dX10_calendarPart_143 ?_
        refine aw_l2i X dX10_calendarPart_144 ?_
        refine aw_iload X dX10_calendarPart_145 rfl ?_
        refine aw_iadd X dX10_calendarPart_147 ?_
        refine aw_iload X dX10_calendarPart_148 rfl ?_
        refine aw_iconst X dX10_calendarPart_150 ci_2 ?_
        refine aw_icmp_gt (tgt := 158) X dX10_calendarPart_151 rfl (fun c151 => ?_) (fun c151 => ?_)
        · refine aw_iconst X dX10_calendarPart_158 ci_0 ?_
          refine aw_iadd X dX10_calendarPart_159 ?_
          refine aw_istore (lv' := [(12, _), (11, _), (10, _), (9, _), (8, _), (7, _), (5, _), (3, _), (0, _), (2, _)]) X dX10_calendarPart_160 (by decide) rfl ?_
          refine aw_iload X dX10_calendarPart_162 rfl ?_
          refine aw_if_ge (tgt := 175) X dX10_calendarPart_164 rfl (fun c164 => ?_) (fun c164 => ?_)
          · refine aw_iload X dX10_calendarPart_175 rfl ?_
            refine RTN (some (.int _)) _ _ _ _ _ dX10_calendarPart_177 (⟨_, rfl⟩) (Nat.le_of_ble_eq_true rfl) (Nat.le_of_ble_eq_true rfl) ?_
            first | (constructor <;> ((try simp only [cl_cal, mo_month, mo_dm, mo_dy, mo_dof, cl_fy, c92, c111, c119, c151, c164, if_true, if_false, not_true_eq_false, not_false_eq_true, and_self, true_and, and_true, false_and, and_false, or_true, true_or, or_false, false_or, reduceCtorEq, ne_eq, va_us, pk_us]); (try with_reducible rfl); done)) | (constructor <;> ((try simp only [cl_cal, mo_month, mo_dm, mo_dy, mo_dof, cl_fy, c92, c111, c119, c151, c164, if_true, if_false, not_true_eq_false, not_false_eq_true, and_self, true_and, and_true, false_and, and_false, or_true, true_or, or_false, false_or, reduceCtorEq, ne_eq, va_us, pk_us]); (try rfl); done))
          · refine aw_iload X dX10_calendarPart_167 rfl ?_
            refine aw_bipush X dX10_calendarPart_169 cb_10 ?_
            refine aw_isub X dX10_calendarPart_171 ?_
            refine aw_goto (tgt := 177) X dX10_calendarPart_172 rfl ?_
            refine RTN (some (.int _)) _ _ _ _ _ dX10_calendarPart_177 (⟨_, rfl⟩) (Nat.le_of_ble_eq_true rfl) (Nat.le_of_ble_eq_true rfl) ?_
            first | (constructor <;> ((try simp only [cl_cal, mo_month, mo_dm, mo_dy, mo_dof, cl_fy, c92, c111, c119, c151, c164, if_true, if_false, not_true_eq_false, not_false_eq_true, and_self, true_and, and_true, false_and, and_false, or_true, true_or, or_false, false_or, reduceCtorEq, ne_eq, va_us, pk_us]); (try with_reducible rfl); done)) | (constructor <;> ((try simp only [cl_cal, mo_month, mo_dm, mo_dy, mo_dof, cl_fy, c92, c111, c119, c151, c164, if_true, if_false, not_true_eq_false, not_false_eq_true, and_self, true_and, and_true, false_and, and_false, or_true, true_or, or_false, false_or, reduceCtorEq, ne_eq, va_us, pk_us]); (try rfl); done))
        · refine aw_iconst X dX10_calendarPart_154 ci_1 ?_
          refine aw_goto (tgt := 159) X dX10_calendarPart_155 rfl ?_
          refine aw_iadd X dX10_calendarPart_159 ?_
          refine aw_istore (lv' := [(12, _), (11, _), (10, _), (9, _), (8, _), (7, _), (5, _), (3, _), (0, _), (2, _)]) X dX10_calendarPart_160 (by decide) rfl ?_
          refine aw_iload X dX10_calendarPart_162 rfl ?_
          refine aw_if_ge (tgt := 175) X dX10_calendarPart_164 rfl (fun c164 => ?_) (fun c164 => ?_)
          · refine aw_iload X dX10_calendarPart_175 rfl ?_
            refine RTN (some (.int _)) _ _ _ _ _ dX10_calendarPart_177 (⟨_, rfl⟩) (Nat.le_of_ble_eq_true rfl) (Nat.le_of_ble_eq_true rfl) ?_
            first | (constructor <;> ((try simp only [cl_cal, mo_month, mo_dm, mo_dy, mo_dof, cl_fy, c92, c111, c119, c151, c164, if_true, if_false, not_true_eq_false, not_false_eq_true, and_self, true_and, and_true, false_and, and_false, or_true, true_or, or_false, false_or, reduceCtorEq, ne_eq, va_us, pk_us]); (try with_reducible rfl); done)) | (constructor <;> ((try simp only [cl_cal, mo_month, mo_dm, mo_dy, mo_dof, cl_fy, c92, c111, c119, c151, c164, if_true, if_false, not_true_eq_false, not_false_eq_true, and_self, true_and, and_true, false_and, and_false, or_true, true_or, or_false, false_or, reduceCtorEq, ne_eq, va_us, pk_us]); (try rfl); done))
          · refine aw_iload X dX10_calendarPart_167 rfl ?_
            refine aw_bipush X dX10_calendarPart_169 cb_10 ?_
            refine aw_isub X dX10_calendarPart_171 ?_
            refine aw_goto (tgt := 177) X dX10_calendarPart_172 rfl ?_
            refine RTN (some (.int _)) _ _ _ _ _ dX10_calendarPart_177 (⟨_, rfl⟩) (Nat.le_of_ble_eq_true rfl) (Nat.le_of_ble_eq_true rfl) ?_
            first | (constructor <;> ((try simp only [cl_cal, mo_month, mo_dm, mo_dy, mo_dof, cl_fy, c92, c111, c119, c151, c164, if_true, if_false, not_true_eq_false, not_false_eq_true, and_self, true_and, and_true, false_and, and_false, or_true, true_or, or_false, false_or, reduceCtorEq, ne_eq, va_us, pk_us]); (try with_reducible rfl); done)) | (constructor <;> ((try simp only [cl_cal, mo_month, mo_dm, mo_dy, mo_dof, cl_fy, c92, c111, c119, c151, c164, if_true, if_false, not_true_eq_false, not_false_eq_true, and_self, true_and, and_true, false_and, and_false, or_true, true_or, or_false, false_or, reduceCtorEq, ne_eq, va_us, pk_us]); (try rfl); done))
      · refine aw_iload X dX10_calendarPart_122 rfl ?_
        refine aw_sipush X dX10_calendarPart_124 cs_153 ?_
        refine aw_iload X dX10_calendarPart_127 rfl ?_
        refine aw_imul X dX10_calendarPart_129 ?_
        refine aw_iconst X dX10_calendarPart_130 ci_2 ?_
        refine aw_iadd X dX10_calendarPart_131 ?_
        refine aw_iconst X dX10_calendarPart_132 ci_5 ?_
        refine aw_idiv X dX10_calendarPart_133 (by decide) ?_
        refine aw_isub X dX10_calendarPart_134 ?_
        refine aw_iconst X dX10_calendarPart_135 ci_1 ?_
        refine aw_iadd X dX10_calendarPart_136 ?_
        refine RTN (some (.int _)) _ _ _ _ _ dX10_calendarPart_137 (⟨_, rfl⟩) (Nat.le_of_ble_eq_true rfl) (Nat.le_of_ble_eq_true rfl) ?_
        first | (constructor <;> ((try simp only [cl_cal, mo_month, mo_dm, mo_dy, mo_dof, cl_fy, c92, c111, (eq_true c119), if_true, if_false, not_true_eq_false, not_false_eq_true, and_self, true_and, and_true, false_and, and_false, or_true, true_or, or_false, false_or, reduceCtorEq, ne_eq, va_us, pk_us]); (try with_reducible rfl); done)) | (constructor <;> ((try simp only [cl_cal, mo_month, mo_dm, mo_dy, mo_dof, cl_fy, c92, c111, (eq_true c119), if_true, if_false, not_true_eq_false, not_false_eq_true, and_self, true_and, and_true, false_and, and_false, or_true, true_or, or_false, false_or, reduceCtorEq, ne_eq, va_us, pk_us]); (try rfl); done))
    · refine aw_iload X dX10_calendarPart_114 rfl ?_
      refine RTN (some (.int _)) _ _ _ _ _ dX10_calendarPart_116 (⟨_, rfl⟩) (Nat.le_of_ble_eq_true rfl) (Nat.le_of_ble_eq_true rfl) ?_
      first | (constructor <;> ((try simp only [cl_cal, mo_month, mo_dm, mo_dy, mo_dof, cl_fy, c92, (eq_true c111), if_true, if_false, not_true_eq_false, not_false_eq_true, and_self, true_and, and_true, false_and, and_false, or_true, true_or, or_false, false_or, reduceCtorEq, ne_eq, va_us, pk_us]); (try with_reducible rfl); done)) | (constructor <;> ((try simp only [cl_cal, mo_month, mo_dm, mo_dy, mo_dof, cl_fy, c92, (eq_true c111), if_true, if_false, not_true_eq_false, not_false_eq_true, and_self, true_and, and_true, false_and, and_false, or_true, true_or, or_false, false_or, reduceCtorEq, ne_eq, va_us, pk_us]); (try rfl); done))
  · refine aw_iload X dX10_calendarPart_95 rfl ?_
    refine aw_iconst X dX10_calendarPart_97 ci_3 ?_
    refine aw_iadd X dX10_calendarPart_98 ?_
    refine aw_goto (tgt := 107) X dX10_calendarPart_99 rfl ?_
    refine aw_istore (lv' := [(11, _), (10, _), (9, _), (8, _), (7, _), (5, _), (3, _), (0, _), (2, _)]) X dX10_calendarPart_107 (by decide) rfl ?_
    refine aw_iload_n X dX10_calendarPart_109 rfl rfl ?_
    refine aw_iconst X dX10_calendarPart_110 ci_1 ?_
    refine aw_icmp_ne (tgt := 117) X dX10_calendarPart_111 rfl (fun c111 => ?_) (fun c111 => ?_)
    · refine aw_iload_n X dX10_calendarPart_117 rfl rfl ?_
      refine aw_iconst X dX10_calendarPart_118 ci_2 ?_
      refine aw_icmp_ne (tgt := 138) X dX10_calendarPart_119 rfl (fun c119 => ?_) (fun c119 => ?_)
      · refine aw_lload X dX10_calendarPart_138 rfl ?_
        refine aw_ldc2 X kl_X10_386 dX10_calendarPart_140 ?_
        refine aw_lmul X dX10_calendarPart_143 ?_
        refine aw_l2i X dX10_calendarPart_144 ?_
        refine aw_iload X dX10_calendarPart_145 rfl ?_
        refine aw_iadd X dX10_calendarPart_147 ?_
        refine aw_iload X dX10_calendarPart_148 rfl ?_
        refine aw_iconst X dX10_calendarPart_150 ci_2 ?_
        refine aw_icmp_gt (tgt := 158) X dX10_calendarPart_151 rfl (fun c151 => ?_) (fun c151 => ?_)
        · refine aw_iconst X dX10_calendarPart_158 ci_0 ?_
          refine aw_iadd X dX10_calendarPart_159 ?_
          refine aw_istore (lv' := [(12, _), (11, _), (10, _), (9, _), (8, _), (7, _), (5, _), (3, _), (0, _), (2, _)]) X dX10_calendarPart_160 (by decide) rfl ?_
          refine aw_iload X dX10_calendarPart_162 rfl ?_
          refine aw_if_ge (tgt := 175) X dX10_calendarPart_164 rfl (fun c164 => ?_) (fun c164 => ?_)
          · refine aw_iload X dX10_calendarPart_175 rfl ?_
            refine RTN (some (.int _)) _ _ _ _ _ dX10_calendarPart_177 (⟨_, rfl⟩) (Nat.le_of_ble_eq_true rfl) (Nat.le_of_ble_eq_true rfl) ?_
            first | (constructor <;> ((try simp only [cl_cal, mo_month, mo_dm, mo_dy, mo_dof, cl_fy, c92, c111, c119, c151, c164, if_true, if_false, not_true_eq_false, not_false_eq_true, and_self, true_and, and_true, false_and, and_false, or_true, true_or, or_false, false_or, reduceCtorEq, ne_eq, va_us, pk_us]); (try with_reducible rfl); done)) | (constructor <;> ((try simp only [cl_cal, mo_month, mo_dm, mo_dy, mo_dof, cl_fy, c92, c111, c119, c151, c164, if_true, if_false, not_true_eq_false, not_false_eq_true, and_self, true_and, and_true, false_and, and_false, or_true, true_or, or_false, false_or, reduceCtorEq, ne_eq, va_us, pk_us]); (try rfl); done))
          · refine aw_iload X dX10_calendarPart_167 rfl ?_
            refine aw_bipush X dX10_calendarPart_169 cb_10 ?_
            refine aw_isub X dX10_calendarPart_171 ?_
            refine aw_goto (tgt := 177) X dX10_calendarPart_172 rfl ?_
            refine RTN (some (.int _)) _ _ _ _ _ dX10_calendarPart_177 (⟨_, rfl⟩) (Nat.le_of_ble_eq_true rfl) (Nat.le_of_ble_eq_true rfl) ?_
            first | (constructor <;> ((try simp only [cl_cal, mo_month, mo_dm, mo_dy, mo_dof, cl_fy, c92, c111, c119, c151, c164, if_true, if_false, not_true_eq_false, not_false_eq_true, and_self, true_and, and_true, false_and, and_false, or_true, true_or, or_false, false_or, reduceCtorEq, ne_eq, va_us, pk_us]); (try with_reducible rfl); done)) | (constructor <;> ((try simp only [cl_cal, mo_month, mo_dm, mo_dy, mo_dof, cl_fy, c92, c111, c119, c151, c164, if_true, if_false, not_true_eq_false, not_false_eq_true, and_self, true_and, and_true, false_and, and_false, or_true, true_or, or_false, false_or, reduceCtorEq, ne_eq, va_us, pk_us]); (try rfl); done))
        · refine aw_iconst X dX10_calendarPart_154 ci_1 ?_
          refine aw_goto (tgt := 159) X dX10_calendarPart_155 rfl ?_
          refine aw_iadd X dX10_calendarPart_159 ?_
          refine aw_istore (lv' := [(12, _), (11, _), (10, _), (9, _), (8, _), (7, _), (5, _), (3, _), (0, _), (2, _)]) X dX10_calendarPart_160 (by decide) rfl ?_
          refine aw_iload X dX10_calendarPart_162 rfl ?_
          refine aw_if_ge (tgt := 175) X dX10_calendarPart_164 rfl (fun c164 => ?_) (fun c164 => ?_)
          · refine aw_iload X dX10_calendarPart_175 rfl ?_
            refine RTN (some (.int _)) _ _ _ _ _ dX10_calendarPart_177 (⟨_, rfl⟩) (Nat.le_of_ble_eq_true rfl) (Nat.le_of_ble_eq_true rfl) ?_
            first | (constructor <;> ((try simp only [cl_cal, mo_month, mo_dm, mo_dy, mo_dof, cl_fy, c92, c111, c119, c151, c164, if_true, if_false, not_true_eq_false, not_false_eq_true, and_self, true_and, and_true, false_and, and_false, or_true, true_or, or_false, false_or, reduceCtorEq, ne_eq, va_us, pk_us]); (try with_reducible rfl); done)) | (constructor <;> ((try simp only [cl_cal, mo_month, mo_dm, mo_dy, mo_dof, cl_fy, c92, c111, c119, c151, c164, if_true, if_false, not_true_eq_false, not_false_eq_true, and_self, true_and, and_true, false_and, and_false, or_true, true_or, or_false, false_or, reduceCtorEq, ne_eq, va_us, pk_us]); (try rfl); done))
          · refine aw_iload X dX10_calendarPart_167 rfl ?_
            refine aw_bipush X dX10_calendarPart_169 cb_10 ?_
            refine aw_isub X dX10_calendarPart_171 ?_
            refine aw_goto (tgt := 177) X dX10_calendarPart_172 rfl ?_
            refine RTN (some (.int _)) _ _ _ _ _ dX10_calendarPart_177 (⟨_, rfl⟩) (Nat.le_of_ble_eq_true rfl) (Nat.le_of_ble_eq_true rfl) ?_
            first | (constructor <;> ((try simp only [cl_cal, mo_month, mo_dm, mo_dy, mo_dof, cl_fy, c92, c111, c119, c151, c164, if_true, if_false, not_true_eq_false, not_false_eq_true, and_self, true_and, and_true, false_and, and_false, or_true, true_or, or_false, false_or, reduceCtorEq, ne_eq, va_us, pk_us]); (try with_reducible rfl); done)) | (constructor <;> ((try simp only [cl_cal, mo_month, mo_dm, mo_dy, mo_dof, cl_fy, c92, c111, c119, c151, c164, if_true, if_false, not_true_eq_false, not_false_eq_true, and_self, true_and, and_true, false_and, and_false, or_true, true_or, or_false, false_or, reduceCtorEq, ne_eq, va_us, pk_us]); (try rfl); done))
      · refine aw_iload X dX10_calendarPart_122 rfl ?_
        refine aw_sipush X dX10_calendarPart_124 cs_153 ?_
        refine aw_iload X dX10_calendarPart_127 rfl ?_
        refine aw_imul X dX10_calendarPart_129 ?_
        refine aw_iconst X dX10_calendarPart_130 ci_2 ?_
        refine aw_iadd X dX10_calendarPart_131 ?_
        refine aw_iconst X dX10_calendarPart_132 ci_5 ?_
        refine aw_idiv X dX10_calendarPart_133 (by decide) ?_
        refine aw_isub X dX10_calendarPart_134 ?_
        refine aw_iconst X dX10_calendarPart_135 ci_1 ?_
        refine aw_iadd X dX10_calendarPart_136 ?_
        refine RTN (some (.int _)) _ _ _ _ _ dX10_calendarPart_137 (⟨_, rfl⟩) (Nat.le_of_ble_eq_true rfl) (Nat.le_of_ble_eq_true rfl) ?_
        first | (constructor <;> ((try simp only [cl_cal, mo_month, mo_dm, mo_dy, mo_dof, cl_fy, c92, c111, (eq_true c119), if_true, if_false, not_true_eq_false, not_false_eq_true, and_self, true_and, and_true, false_and, and_false, or_true, true_or, or_false, false_or, reduceCtorEq, ne_eq, va_us, pk_us]); (try with_reducible rfl); done)) | (constructor <;> ((try simp only [cl_cal, mo_month, mo_dm, mo_dy, mo_dof, cl_fy, c92, c111, (eq_true c119), if_true, if_false, not_true_eq_false, not_false_eq_true, and_self, true_and, and_true, false_and, and_false, or_true, true_or, or_false, false_or, reduceCtorEq, ne_eq, va_us, pk_us]); (try rfl); done))
    · refine aw_iload X dX10_calendarPart_114 rfl ?_
      refine RTN (some (.int _)) _ _ _ _ _ dX10_calendarPart_116 (⟨_, rfl⟩) (Nat.le_of_ble_eq_true rfl) (Nat.le_of_ble_eq_true rfl) ?_
      first | (constructor <;> ((try simp only [cl_cal, mo_month, mo_dm, mo_dy, mo_dof, cl_fy, c92, (eq_true c111), if_true, if_false, not_true_eq_false, not_false_eq_true, and_self, true_and, and_true, false_and, and_false, or_true, true_or, or_false, false_or, reduceCtorEq, ne_eq, va_us, pk_us]); (try with_reducible rfl); done)) | (constructor <;> ((try simp only [cl_cal, mo_month, mo_dm, mo_dy, mo_dof, cl_fy, c92, (eq_true c111), if_true, if_false, not_true_eq_false, not_false_eq_true, and_self, true_and, and_true, false_and, and_false, or_true, true_or, or_false, false_or, reduceCtorEq, ne_eq, va_us, pk_us]); (try rfl); done))
set_option maxRecDepth 100000 in
set_option maxHeartbeats 4000000 in
theorem kX10_date (G : GG) (l : Launch) (w : WM) (o : Nat) (x : Int64) (what : Int32) : MC G l yX10_date cX10_date 7 ((Option.some .int)) ({ frames := 2, cells := 0, slots := 0, locals := 57 } : Room) [.ref o, .long x, .int what] w (fun v w' => v = some (.int (cl_date x what)) ∧ w' = w) := by
  refine mc_int (by decide) (Nat.le_of_ble_eq_true rfl) rfl rfl ?_
  intro p e s m args below meth c A H0 Q X hnm RTN
  have X : Cx G p s m args meth c A H0 cX10_date 7 RX10 := X
  refine aw_iload_n X dX10_date_0 rfl rfl ?_
  refine aw_iconst X dX10_date_1 ci_0 ?_
  refine aw_bipush X dX10_date_2 cb_6 ?_
  refine aw_callS X (kX10_within _ _ _ _ _ _ 0 6 rfl rfl) okm_X10_within ml_X10_50 st_X10_within rfl rfl (Nat.le_of_ble_eq_true rfl) ⟨Nat.le_of_ble_eq_true rfl, Nat.le_of_ble_eq_true rfl, Nat.le_of_ble_eq_true rfl, Nat.le_of_ble_eq_true rfl⟩ dX10_date_4 (fun v w2 hp => ?_)
  obtain ⟨rfl, rfl⟩ := hp
  refine aw_if_eq (tgt := 26) X dX10_date_7 rfl (fun c7 => ?_) (fun c7 => ?_)
  · rw [bI_0] at c7
    refine aw_bipush X dX10_date_26 cb_m3 ?_
    refine RTN (some (.int _)) _ _ _ _ _ dX10_date_28 (⟨_, rfl⟩) (Nat.le_of_ble_eq_true rfl) (Nat.le_of_ble_eq_true rfl) ?_
    first | (constructor <;> ((try simp only [cl_date, c7, if_true, if_false, not_true_eq_false, not_false_eq_true, and_self, true_and, and_true, false_and, and_false, or_true, true_or, or_false, false_or, reduceCtorEq, ne_eq, va_us, pk_us]); (try with_reducible rfl); done)) | (clear RTN X; constructor <;> ((try simp_all only [cl_date, if_true, if_false, not_true_eq_false, not_false_eq_true, and_self, true_and, and_true, false_and, and_false, or_true, true_or, or_false, false_or, reduceCtorEq, ne_eq, va_us, pk_us]); (try with_reducible rfl); done)) | (constructor <;> ((try simp only [cl_date, c7, if_true, if_false, not_true_eq_false, not_false_eq_true, and_self, true_and, and_true, false_and, and_false, or_true, true_or, or_false, false_or, reduceCtorEq, ne_eq, va_us, pk_us]); (try rfl); done))
  · rw [bI_n0] at c7
    refine aw_lload_n X dX10_date_10 rfl rfl ?_
    refine aw_ldc2 X kl_X10_321 dX10_date_11 ?_
    refine aw_lcmp X dX10_date_14 ?_
    refine aw_if_lt (tgt := 26) X dX10_date_15 rfl (fun c15 => ?_) (fun c15 => ?_)
    · rw [lg_cmp_lt] at c15
      refine aw_bipush X dX10_date_26 cb_m3 ?_
      refine RTN (some (.int _)) _ _ _ _ _ dX10_date_28 (⟨_, rfl⟩) (Nat.le_of_ble_eq_true rfl) (Nat.le_of_ble_eq_true rfl) ?_
      first | (constructor <;> ((try simp only [cl_date, c7, c15, if_true, if_false, not_true_eq_false, not_false_eq_true, and_self, true_and, and_true, false_and, and_false, or_true, true_or, or_false, false_or, reduceCtorEq, ne_eq, va_us, pk_us]); (try with_reducible rfl); done)) | (clear RTN X; constructor <;> ((try simp_all only [cl_date, if_true, if_false, not_true_eq_false, not_false_eq_true, and_self, true_and, and_true, false_and, and_false, or_true, true_or, or_false, false_or, reduceCtorEq, ne_eq, va_us, pk_us]); (try with_reducible rfl); done)) | (constructor <;> ((try simp only [cl_date, c7, c15, if_true, if_false, not_true_eq_false, not_false_eq_true, and_self, true_and, and_true, false_and, and_false, or_true, true_or, or_false, false_or, reduceCtorEq, ne_eq, va_us, pk_us]); (try rfl); done))
    · rw [lg_cmp_lt] at c15
      refine aw_lload_n X dX10_date_18 rfl rfl ?_
      refine aw_ldc2 X kl_X10_323 dX10_date_19 ?_
      refine aw_lcmp X dX10_date_22 ?_
      refine aw_if_le (tgt := 29) X dX10_date_23 rfl (fun c23 => ?_) (fun c23 => ?_)
      · rw [lg_cmp_le] at c23
        refine aw_lload_n X dX10_date_29 rfl rfl ?_
        refine aw_ldc2 X kl_X10_325 dX10_date_30 ?_
        refine aw_callS X (kJ9_floorDiv_f86c9 _ _ _ _ _ (by decide)) okm_J9_floorDiv_f86c9 ml_X10_327 st_J9_floorDiv_f86c9 rfl rfl (Nat.le_of_ble_eq_true rfl) ⟨Nat.le_of_ble_eq_true rfl, Nat.le_of_ble_eq_true rfl, Nat.le_of_ble_eq_true rfl, Nat.le_of_ble_eq_true rfl⟩ dX10_date_33 (fun v w2 hp => ?_)
        obtain ⟨rfl, rfl⟩ := hp
        refine aw_lstore (lv' := [(4, _), (0, _), (1, _), (3, _)]) X dX10_date_36 (by decide) rfl ?_
        refine aw_lload_n X dX10_date_38 rfl rfl ?_
        refine aw_ldc2 X kl_X10_325 dX10_date_39 ?_
        refine aw_callS X (kJ9_floorMod_f86c9 _ _ _ _ _ (by decide)) okm_J9_floorMod_f86c9 ml_X10_330 st_J9_floorMod_f86c9 rfl rfl (Nat.le_of_ble_eq_true rfl) ⟨Nat.le_of_ble_eq_true rfl, Nat.le_of_ble_eq_true rfl, Nat.le_of_ble_eq_true rfl, Nat.le_of_ble_eq_true rfl⟩ dX10_date_42 (fun v w2 hp => ?_)
        obtain ⟨rfl, rfl⟩ := hp
        refine aw_l2i X dX10_date_45 ?_
        refine aw_istore (lv' := [(6, _), (4, _), (0, _), (1, _), (3, _)]) X dX10_date_46 (by decide) rfl ?_
        refine aw_iload_n X dX10_date_48 rfl rfl ?_
        rcases sw_3_6 what with c49 | c49 | c49 | c49 | c49
        · refine aw_tableOut (tgt := 116) X dX10_date_49 c49 rfl ?_
          refine aw_lload X dX10_date_116 rfl ?_
          refine aw_iload_n X dX10_date_118 rfl rfl ?_
          refine aw_callS X (kX10_calendarPart _ _ _ _ _) okm_X10_calendarPart ml_X10_337 st_X10_calendarPart rfl rfl (Nat.le_of_ble_eq_true rfl) ⟨Nat.le_of_ble_eq_true rfl, Nat.le_of_ble_eq_true rfl, Nat.le_of_ble_eq_true rfl, Nat.le_of_ble_eq_true rfl⟩ dX10_date_119 (fun v w2 hp => ?_)
          obtain ⟨rfl, rfl⟩ := hp
          refine RTN (some (.int _)) _ _ _ _ _ dX10_date_122 (⟨_, rfl⟩) (Nat.le_of_ble_eq_true rfl) (Nat.le_of_ble_eq_true rfl) ?_
          have e3 : ¬ what = 3 := fun z => by rw [z] at c49; exact absurd c49 (by decide)
          have e4 : ¬ what = 4 := fun z => by rw [z] at c49; exact absurd c49 (by decide)
          have e5 : ¬ what = 5 := fun z => by rw [z] at c49; exact absurd c49 (by decide)
          have e6 : ¬ what = 6 := fun z => by rw [z] at c49; exact absurd c49 (by decide)
          constructor <;> simp only [cl_date, c7, c15, c23, e3, e4, e5, e6, if_true, if_false, not_true_eq_false, not_false_eq_true, and_self, true_and, and_true, false_and, and_false, or_true, true_or, or_false, false_or, reduceCtorEq, ne_eq, va_us, pk_us]
        · refine aw_tableIn (tgt := 80) (off := 31) X dX10_date_49 (by rw [c49]; decide) (by rw [c49]; decide) (by rw [c49]; rfl) rfl ?_
          refine aw_lload X dX10_date_80 rfl ?_
          refine aw_ldc2 X kl_X10_333 dX10_date_82 ?_
          refine aw_ladd X dX10_date_85 ?_
          refine aw_ldc2 X kl_X10_335 dX10_date_86 ?_
          refine aw_callS X (kJ9_floorMod_f86c9 _ _ _ _ _ (by decide)) okm_J9_floorMod_f86c9 ml_X10_330 st_J9_floorMod_f86c9 rfl rfl (Nat.le_of_ble_eq_true rfl) ⟨Nat.le_of_ble_eq_true rfl, Nat.le_of_ble_eq_true rfl, Nat.le_of_ble_eq_true rfl, Nat.le_of_ble_eq_true rfl⟩ dX10_date_89 (fun v w2 hp => ?_)
          obtain ⟨rfl, rfl⟩ := hp
          refine aw_l2i X dX10_date_92 ?_
          refine RTN (some (.int _)) _ _ _ _ _ dX10_date_93 (⟨_, rfl⟩) (Nat.le_of_ble_eq_true rfl) (Nat.le_of_ble_eq_true rfl) ?_
          subst c49
          constructor <;> simp only [cl_date, c7, c15, c23, show ¬ (4 : Int32) = 3 by decide, show ¬ (5 : Int32) = 3 by decide, show ¬ (5 : Int32) = 4 by decide, show ¬ (6 : Int32) = 3 by decide, show ¬ (6 : Int32) = 4 by decide, show ¬ (6 : Int32) = 5 by decide, if_true, if_false, not_true_eq_false, not_false_eq_true, and_self, true_and, and_true, false_and, and_false, or_true, true_or, or_false, false_or, reduceCtorEq, ne_eq, va_us, pk_us]
        · refine aw_tableIn (tgt := 94) (off := 45) X dX10_date_49 (by rw [c49]; decide) (by rw [c49]; decide) (by rw [c49]; rfl) rfl ?_
          refine aw_iload X dX10_date_94 rfl ?_
          refine aw_sipush X dX10_date_96 cs_3600 ?_
          refine aw_idiv X dX10_date_99 (by decide) ?_
          refine RTN (some (.int _)) _ _ _ _ _ dX10_date_100 (⟨_, rfl⟩) (Nat.le_of_ble_eq_true rfl) (Nat.le_of_ble_eq_true rfl) ?_
          subst c49
          constructor <;> simp only [cl_date, c7, c15, c23, show ¬ (4 : Int32) = 3 by decide, show ¬ (5 : Int32) = 3 by decide, show ¬ (5 : Int32) = 4 by decide, show ¬ (6 : Int32) = 3 by decide, show ¬ (6 : Int32) = 4 by decide, show ¬ (6 : Int32) = 5 by decide, if_true, if_false, not_true_eq_false, not_false_eq_true, and_self, true_and, and_true, false_and, and_false, or_true, true_or, or_false, false_or, reduceCtorEq, ne_eq, va_us, pk_us]
        · refine aw_tableIn (tgt := 101) (off := 52) X dX10_date_49 (by rw [c49]; decide) (by rw [c49]; decide) (by rw [c49]; rfl) rfl ?_
          refine aw_iload X dX10_date_101 rfl ?_
          refine aw_bipush X dX10_date_103 cb_60 ?_
          refine aw_idiv X dX10_date_105 (by decide) ?_
          refine aw_bipush X dX10_date_106 cb_60 ?_
          refine aw_irem X dX10_date_108 (by decide) ?_
          refine RTN (some (.int _)) _ _ _ _ _ dX10_date_109 (⟨_, rfl⟩) (Nat.le_of_ble_eq_true rfl) (Nat.le_of_ble_eq_true rfl) ?_
          subst c49
          constructor <;> simp only [cl_date, c7, c15, c23, show ¬ (4 : Int32) = 3 by decide, show ¬ (5 : Int32) = 3 by decide, show ¬ (5 : Int32) = 4 by decide, show ¬ (6 : Int32) = 3 by decide, show ¬ (6 : Int32) = 4 by decide, show ¬ (6 : Int32) = 5 by decide, if_true, if_false, not_true_eq_false, not_false_eq_true, and_self, true_and, and_true, false_and, and_false, or_true, true_or, or_false, false_or, reduceCtorEq, ne_eq, va_us, pk_us]
        · refine aw_tableIn (tgt := 110) (off := 61) X dX10_date_49 (by rw [c49]; decide) (by rw [c49]; decide) (by rw [c49]; rfl) rfl ?_
          refine aw_iload X dX10_date_110 rfl ?_
          refine aw_bipush X dX10_date_112 cb_60 ?_
          refine aw_irem X dX10_date_114 (by decide) ?_
          refine RTN (some (.int _)) _ _ _ _ _ dX10_date_115 (⟨_, rfl⟩) (Nat.le_of_ble_eq_true rfl) (Nat.le_of_ble_eq_true rfl) ?_
          subst c49
          constructor <;> simp only [cl_date, c7, c15, c23, show ¬ (4 : Int32) = 3 by decide, show ¬ (5 : Int32) = 3 by decide, show ¬ (5 : Int32) = 4 by decide, show ¬ (6 : Int32) = 3 by decide, show ¬ (6 : Int32) = 4 by decide, show ¬ (6 : Int32) = 5 by decide, if_true, if_false, not_true_eq_false, not_false_eq_true, and_self, true_and, and_true, false_and, and_false, or_true, true_or, or_false, false_or, reduceCtorEq, ne_eq, va_us, pk_us]
      · rw [lg_cmp_le] at c23
        refine aw_bipush X dX10_date_26 cb_m3 ?_
        refine RTN (some (.int _)) _ _ _ _ _ dX10_date_28 (⟨_, rfl⟩) (Nat.le_of_ble_eq_true rfl) (Nat.le_of_ble_eq_true rfl) ?_
        first | (constructor <;> ((try simp only [cl_date, c7, c15, c23, if_true, if_false, not_true_eq_false, not_false_eq_true, and_self, true_and, and_true, false_and, and_false, or_true, true_or, or_false, false_or, reduceCtorEq, ne_eq, va_us, pk_us]); (try with_reducible rfl); done)) | (clear RTN X; constructor <;> ((try simp_all only [cl_date, if_true, if_false, not_true_eq_false, not_false_eq_true, and_self, true_and, and_true, false_and, and_false, or_true, true_or, or_false, false_or, reduceCtorEq, ne_eq, va_us, pk_us]); (try with_reducible rfl); done)) | (constructor <;> ((try simp only [cl_date, c7, c15, c23, if_true, if_false, not_true_eq_false, not_false_eq_true, and_self, true_and, and_true, false_and, and_false, or_true, true_or, or_false, false_or, reduceCtorEq, ne_eq, va_us, pk_us]); (try rfl); done))
