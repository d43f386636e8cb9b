set_option maxRecDepth 100000 in
set_option maxHeartbeats 4000000 in
theorem kX11_resource (G : GG) (l : Launch) (q : Nat → Nat) (M : MS) (hq : mInj q) (hGi : mi_given M) (n wide : Int32) (hw : vp_nar .boolean wide = wide) : MC G l yX11_resource cX11_resource 7 ((Option.some .int)) ({ frames := 1, cells := 0, slots := 0, locals := 25 } : Room) [.ref (q 0), .int n, .int wide] (mw G q M) (fun v w' => v = some (.int (mo_resource M n wide).1) ∧ w' = mw G q (mo_resource M n wide).2) := by
  refine mc_int (by decide) (Nat.le_of_ble_eq_true rfl) rfl rfl ?_
  intro p e s m args below meth c A H0 Q X hnm RTN
  have X : Cx G p s m args meth c A H0 cX11_resource 7 RX11 := X
  refine aw_aload_n X dX11_resource_0 rfl rfl ?_
  refine aw_iconst X dX11_resource_1 ci_0 ?_
  refine am_put X 0 (M' := sI _ 0 _) (Nat.le_of_ble_eq_true rfl) fl_X11_1 rfl rfl (rfl) (rfl) (mf_0 _ _ _) rfl dX11_resource_2 ?_
  refine aw_iload_n X dX11_resource_5 rfl rfl ?_
  refine aw_i2l X dX11_resource_6 ?_
  refine aw_lconst X dX11_resource_7 cl_0 ?_
  refine aw_ldc2 X kl_X11_108 dX11_resource_8 ?_
  refine aw_callS X (kX11_inI _ _ _ _ _ _ 0 3 rfl rfl) okm_X11_in ml_X11_12 st_X11_in rfl rfl (Nat.le_of_ble_eq_true rfl) ⟨Nat.le_of_ble_eq_true rfl, Nat.le_of_ble_eq_true rfl, Nat.le_of_ble_eq_true rfl, Nat.le_of_ble_eq_true rfl⟩ dX11_resource_11 (fun v w2 hp => ?_)
  obtain ⟨rfl, rfl⟩ := hp
  refine aw_if_eq (tgt := 26) X dX11_resource_14 rfl (fun c14 => ?_) (fun c14 => ?_)
  · rw [bI_0] at c14
    refine aw_bipush X dX11_resource_26 cb_m2 ?_
    refine RTN (some (.int _)) _ _ _ _ _ dX11_resource_28 (⟨_, rfl⟩) (Nat.le_of_ble_eq_true rfl) (Nat.le_of_ble_eq_true rfl) ?_
    first | (constructor <;> ((try simp only [mo_resource, c14, if_true, if_false, not_true_eq_false, not_false_eq_true, and_self, true_and, and_true, false_and, and_false, or_true, true_or, or_false, false_or, reduceCtorEq, ne_eq, va_us, pk_us]); (try with_reducible rfl); done)) | (clear RTN X; constructor <;> ((try simp_all only [mo_resource, if_true, if_false, not_true_eq_false, not_false_eq_true, and_self, true_and, and_true, false_and, and_false, or_true, true_or, or_false, false_or, reduceCtorEq, ne_eq, va_us, pk_us]); (try with_reducible rfl); done)) | (constructor <;> ((try simp only [mo_resource, c14, if_true, if_false, not_true_eq_false, not_false_eq_true, and_self, true_and, and_true, false_and, and_false, or_true, true_or, or_false, false_or, reduceCtorEq, ne_eq, va_us, pk_us]); (try rfl); done))
  · rw [bI_n0] at c14
    refine aw_aload_n X dX11_resource_17 rfl rfl ?_
    refine am_get X 23 (Nat.le_of_ble_eq_true rfl) fl_X11_136 rfl rfl dX11_resource_18 ?_
    refine aw_iload_n X dX11_resource_21 rfl rfl ?_
    refine am_ald X 23 _ (M.2.2 23) hq (by decide) rfl rfl rfl (bt_vp (c14) (by decide) (by decide)) dX11_resource_22 ?_
    refine aw_if_ge (tgt := 29) X dX11_resource_23 rfl (fun c23 => ?_) (fun c23 => ?_)
    · refine aw_aload_n X dX11_resource_29 rfl rfl ?_
      refine aw_callV X (kX11_freePlace _ _ _ _ hq) okm_X11_freePlace okX11 mw_0 ml_X11_101 im_X11_freePlace se_X11_X11_freePlace rfl rfl (Nat.le_of_ble_eq_true rfl) ⟨Nat.le_of_ble_eq_true rfl, Nat.le_of_ble_eq_true rfl, Nat.le_of_ble_eq_true rfl, Nat.le_of_ble_eq_true rfl⟩ dX11_resource_30 (fun v w2 hp => ?_)
      obtain ⟨rfl, rfl⟩ := hp
      refine aw_istore_n (lv' := [(3, _), (0, _), (1, _), (2, _)]) X dX11_resource_33 rfl (by decide) rfl ?_
      refine aw_iload_n X dX11_resource_34 rfl rfl ?_
      refine aw_if_ge (tgt := 41) X dX11_resource_35 rfl (fun c35 => ?_) (fun c35 => ?_)
      · refine aw_aload_n X dX11_resource_41 rfl rfl ?_
        refine aw_iload_n X dX11_resource_42 rfl rfl ?_
        refine aw_iconst X dX11_resource_43 ci_3 ?_
        refine aw_iload_n X dX11_resource_44 rfl rfl ?_
        refine aw_iconst X dX11_resource_45 ci_2 ?_
        refine aw_callV X (kX11_begin _ _ _ _ hq (oI (mo_fp (sI M 0 0))) _ _ _ (fp_bt' c35) (hw)) okm_X11_begin okX11 mw_0 ml_X11_104 im_X11_begin se_X11_X11_begin rfl rfl (Nat.le_of_ble_eq_true rfl) ⟨Nat.le_of_ble_eq_true rfl, Nat.le_of_ble_eq_true rfl, Nat.le_of_ble_eq_true rfl, Nat.le_of_ble_eq_true rfl⟩ dX11_resource_46 (fun v w2 hp => ?_)
        obtain ⟨rfl, rfl⟩ := hp
        refine aw_istore (lv' := [(4, _), (3, _), (0, _), (1, _), (2, _)]) X dX11_resource_49 (by decide) rfl ?_
        refine aw_aload_n X dX11_resource_51 rfl rfl ?_
        refine am_get X 12 (Nat.le_of_ble_eq_true rfl) fl_X11_83 rfl rfl dX11_resource_52 ?_
        refine aw_iload_n X dX11_resource_55 rfl rfl ?_
        refine aw_aload_n X dX11_resource_56 rfl rfl ?_
        refine am_get X 23 (Nat.le_of_ble_eq_true rfl) fl_X11_136 rfl rfl dX11_resource_57 ?_
        refine aw_iload_n X dX11_resource_60 rfl rfl ?_
        refine am_ald X 23 _ ((mo_begin (sI M 0 0) (oI (mo_fp (sI M 0 0))).toNatClampNeg 3 wide 2).2.2 23) hq (by decide) rfl rfl rfl (bt_vp (c14) (by decide) (by decide)) dX11_resource_61 ?_
        refine am_ast X 12 _ hq (by decide) rfl rfl (bt_vp ((fp_bt' c35)) (by decide) (by decide)) dX11_resource_62 ?_
        refine aw_iconst X dX11_resource_63 ci_0 ?_
        refine aw_istore (lv' := [(5, _), (4, _), (3, _), (0, _), (1, _), (2, _)]) X dX11_resource_64 (by decide) rfl ?_
        obtain ⟨N, hN, hNe, _⟩ := bt_nat (x := (M.2.2 23 n.toNatClampNeg)) (hi := 40) (bt_iff.mpr ⟨by rw [i32_le] at c23; exact c23, (bt_iff.mp (hGi _ (cl_lt c14 (by decide) (by decide)))).2⟩)
        have hM : ((sF (mo_begin (sI M 0 0) (oI (mo_fp (sI M 0 0))).toNatClampNeg 3 wide 2) 12 (oI (mo_fp (sI M 0 0))).toNatClampNeg ((mo_begin (sI M 0 0) (oI (mo_fp (sI M 0 0))).toNatClampNeg 3 wide 2).2.2 23 n.toNatClampNeg)) : MS) = (sF (mo_begin (sI M 0 0) (oI (mo_fp (sI M 0 0))).toNatClampNeg 3 wide 2) 12 (oI (mo_fp (sI M 0 0))).toNatClampNeg (M.2.2 23 n.toNatClampNeg)) := rfl
        rw [hM]
        have L : ∀ (nn j : Nat) (x : Int32), x = nI j → j ≤ N → N + 1 ≤ j + nn → AW G p l e ({ frames := 1, cells := 0, slots := 0, locals := 25 } : Room) s m args below meth c 7 A H0 Q (mw G q (mo_rs (sF (mo_begin (sI M 0 0) (oI (mo_fp (sI M 0 0))).toNatClampNeg 3 wide 2) 12 (oI (mo_fp (sI M 0 0))).toNatClampNeg (M.2.2 23 n.toNatClampNeg)) (oI (mo_fp (sI M 0 0))) n wide j)) 0 0 66 [(5, .int x), (4, .int (M.1 7 + 1)), (3, .int (oI (mo_fp (sI M 0 0)))), (0, .ref (q 0)), (1, .int n), (2, .int wide)] [] := by
          intro nn
          induction nn with
          | zero => intro j x hx h1 h2; exact absurd h2 (by omega)
          | succ nn ih =>
            intro j x hx h1 h2
            subst hx
            refine aw_iload X dX11_resource_66 rfl ?_
            refine aw_aload_n X dX11_resource_68 rfl rfl ?_
            refine am_get X 23 (Nat.le_of_ble_eq_true rfl) fl_X11_136 rfl rfl dX11_resource_69 ?_
            refine aw_iload_n X dX11_resource_72 rfl rfl ?_
            refine am_ald X 23 _ ((mo_rs (sF (mo_begin (sI M 0 0) (oI (mo_fp (sI M 0 0))).toNatClampNeg 3 wide 2) 12 (oI (mo_fp (sI M 0 0))).toNatClampNeg (M.2.2 23 n.toNatClampNeg)) (oI (mo_fp (sI M 0 0))) n wide j).2.2 23) hq (by decide) rfl rfl rfl (bt_vp (c14) (by decide) (by decide)) dX11_resource_73 ?_
            refine aw_icmp_ge (tgt := 128) X dX11_resource_74 rfl (fun c74 => ?_) (fun c74 => ?_)
            · have c74 : nI N ≤ nI j := by rw [← hNe]; rw [rs_f _ _ _ _ (by decide)] at c74; exact c74
              have h9 : j = N := by have := (nI_leI (a := N) (b := j) (by omega) (by omega)).mp c74; omega
              refine aw_iload X dX11_resource_128 rfl ?_
              refine RTN (some (.int _)) _ _ _ _ _ dX11_resource_130 (⟨_, rfl⟩) (Nat.le_of_ble_eq_true rfl) (Nat.le_of_ble_eq_true rfl) ?_
              have hN2 : (M.2.2 23 n.toNatClampNeg).toNatClampNeg = j := by rw [hNe, nI_clamp (by omega), h9]
              constructor <;> simp only [mo_resource, c14, c23, c35, and_self, if_true, hN2]
            · have c74 : ¬ nI N ≤ nI j := by rw [← hNe]; rw [rs_f _ _ _ _ (by decide)] at c74; exact c74
              have h9 : j < N := Nat.lt_of_not_le (fun h => c74 ((nI_leI (a := N) (b := j) (by omega) (by omega)).mpr h))
              refine aw_aload_n X dX11_resource_77 rfl rfl ?_
              refine am_get X 24 (Nat.le_of_ble_eq_true rfl) fl_X11_139 rfl rfl dX11_resource_78 ?_
              refine aw_bipush X dX11_resource_81 cb_40 ?_
              refine aw_iload_n X dX11_resource_83 rfl rfl ?_
              refine aw_imul X dX11_resource_84 ?_
              refine aw_iload X dX11_resource_85 rfl ?_
              refine aw_iadd X dX11_resource_87 ?_
              refine am_ald X 24 _ ((mo_rs (sF (mo_begin (sI M 0 0) (oI (mo_fp (sI M 0 0))).toNatClampNeg 3 wide 2) 12 (oI (mo_fp (sI M 0 0))).toNatClampNeg (M.2.2 23 n.toNatClampNeg)) (oI (mo_fp (sI M 0 0))) n wide j).2.2 24) hq (by decide) rfl rfl rfl (ix4 c14 ((bt_nI (n := j) (lo := 0) (hi := 39) (by omega)).mpr ⟨by omega, by omega⟩)) dX11_resource_88 ?_
              refine aw_istore (lv' := [(6, _), (5, _), (4, _), (3, _), (0, _), (1, _), (2, _)]) X dX11_resource_89 (by decide) rfl ?_
              refine aw_aload_n X dX11_resource_91 rfl rfl ?_
              refine am_get X 18 (Nat.le_of_ble_eq_true rfl) fl_X11_133 rfl rfl dX11_resource_92 ?_
              refine aw_bipush X dX11_resource_95 cb_40 ?_
              refine aw_iload_n X dX11_resource_97 rfl rfl ?_
              refine aw_imul X dX11_resource_98 ?_
              refine aw_iload X dX11_resource_99 rfl ?_
              refine aw_iadd X dX11_resource_101 ?_
              refine aw_iload_n X dX11_resource_102 rfl rfl ?_
              refine aw_if_ne (tgt := 119) X dX11_resource_103 rfl (fun c103 => ?_) (fun c103 => ?_)
              · refine aw_iload X dX11_resource_119 rfl ?_
                refine am_ast X 18 _ hq (by decide) rfl rfl (ix8 (fp_bt' c35) ((bt_nI (n := j) (lo := 0) (hi := 39) (by omega)).mpr ⟨by omega, by omega⟩)) dX11_resource_121 ?_
                refine aw_iinc (lv' := [(5, _), (6, _), (4, _), (3, _), (0, _), (1, _), (2, _)]) X dX11_resource_122 rfl (iinc_1 _) (by decide) rfl ?_
                refine aw_goto (tgt := 66) X dX11_resource_125 rfl ?_
                refine aw_lv [0, 2, 3, 4, 5, 6] rfl ?_
                have hM2 : ((sF (mo_rs (sF (mo_begin (sI M 0 0) (oI (mo_fp (sI M 0 0))).toNatClampNeg 3 wide 2) 12 (oI (mo_fp (sI M 0 0))).toNatClampNeg (M.2.2 23 n.toNatClampNeg)) (oI (mo_fp (sI M 0 0))) n wide j) 18 ((40 * (oI (mo_fp (sI M 0 0)))) + (nI j)).toNatClampNeg ((mo_rs (sF (mo_begin (sI M 0 0) (oI (mo_fp (sI M 0 0))).toNatClampNeg 3 wide 2) 12 (oI (mo_fp (sI M 0 0))).toNatClampNeg (M.2.2 23 n.toNatClampNeg)) (oI (mo_fp (sI M 0 0))) n wide j).2.2 24 ((40 * n) + (nI j)).toNatClampNeg)) : MS) = mo_rs (sF (mo_begin (sI M 0 0) (oI (mo_fp (sI M 0 0))).toNatClampNeg 3 wide 2) 12 (oI (mo_fp (sI M 0 0))).toNatClampNeg (M.2.2 23 n.toNatClampNeg)) (oI (mo_fp (sI M 0 0))) n wide (j + 1) := by simp only [mo_rs, nrw, c103, if_true, if_false]
                rw [hM2]
                exact ih (j + 1) _ (nI_1 j) (by omega) (by omega)
              · refine aw_iload X dX11_resource_106 rfl ?_
                refine aw_sipush X dX11_resource_108 cs_255 ?_
                refine aw_icmp_le (tgt := 119) X dX11_resource_111 rfl (fun c111 => ?_) (fun c111 => ?_)
                · refine aw_iload X dX11_resource_119 rfl ?_
                  refine am_ast X 18 _ hq (by decide) rfl rfl (ix8 (fp_bt' c35) ((bt_nI (n := j) (lo := 0) (hi := 39) (by omega)).mpr ⟨by omega, by omega⟩)) dX11_resource_121 ?_
                  refine aw_iinc (lv' := [(5, _), (6, _), (4, _), (3, _), (0, _), (1, _), (2, _)]) X dX11_resource_122 rfl (iinc_1 _) (by decide) rfl ?_
                  refine aw_goto (tgt := 66) X dX11_resource_125 rfl ?_
                  refine aw_lv [0, 2, 3, 4, 5, 6] rfl ?_
                  have hM2 : ((sF (mo_rs (sF (mo_begin (sI M 0 0) (oI (mo_fp (sI M 0 0))).toNatClampNeg 3 wide 2) 12 (oI (mo_fp (sI M 0 0))).toNatClampNeg (M.2.2 23 n.toNatClampNeg)) (oI (mo_fp (sI M 0 0))) n wide j) 18 ((40 * (oI (mo_fp (sI M 0 0)))) + (nI j)).toNatClampNeg ((mo_rs (sF (mo_begin (sI M 0 0) (oI (mo_fp (sI M 0 0))).toNatClampNeg 3 wide 2) 12 (oI (mo_fp (sI M 0 0))).toNatClampNeg (M.2.2 23 n.toNatClampNeg)) (oI (mo_fp (sI M 0 0))) n wide j).2.2 24 ((40 * n) + (nI j)).toNatClampNeg)) : MS) = mo_rs (sF (mo_begin (sI M 0 0) (oI (mo_fp (sI M 0 0))).toNatClampNeg 3 wide 2) 12 (oI (mo_fp (sI M 0 0))).toNatClampNeg (M.2.2 23 n.toNatClampNeg)) (oI (mo_fp (sI M 0 0))) n wide (j + 1) := by simp only [mo_rs, nrw, (eq_true c103), c111, if_true, if_false]
                  rw [hM2]
                  exact ih (j + 1) _ (nI_1 j) (by omega) (by omega)
                · refine aw_bipush X dX11_resource_114 cb_63 ?_
                  refine aw_goto (tgt := 121) X dX11_resource_116 rfl ?_
                  refine am_ast X 18 _ hq (by decide) rfl rfl (ix8 (fp_bt' c35) ((bt_nI (n := j) (lo := 0) (hi := 39) (by omega)).mpr ⟨by omega, by omega⟩)) dX11_resource_121 ?_
                  refine aw_iinc (lv' := [(5, _), (6, _), (4, _), (3, _), (0, _), (1, _), (2, _)]) X dX11_resource_122 rfl (iinc_1 _) (by decide) rfl ?_
                  refine aw_goto (tgt := 66) X dX11_resource_125 rfl ?_
                  refine aw_lv [0, 2, 3, 4, 5, 6] rfl ?_
                  have hM2 : ((sF (mo_rs (sF (mo_begin (sI M 0 0) (oI (mo_fp (sI M 0 0))).toNatClampNeg 3 wide 2) 12 (oI (mo_fp (sI M 0 0))).toNatClampNeg (M.2.2 23 n.toNatClampNeg)) (oI (mo_fp (sI M 0 0))) n wide j) 18 ((40 * (oI (mo_fp (sI M 0 0)))) + (nI j)).toNatClampNeg 63) : MS) = mo_rs (sF (mo_begin (sI M 0 0) (oI (mo_fp (sI M 0 0))).toNatClampNeg 3 wide 2) 12 (oI (mo_fp (sI M 0 0))).toNatClampNeg (M.2.2 23 n.toNatClampNeg)) (oI (mo_fp (sI M 0 0))) n wide (j + 1) := by simp only [mo_rs, nrw, (eq_true c103), c111, if_true, if_false]
                  rw [hM2]
                  exact ih (j + 1) _ (nI_1 j) (by omega) (by omega)
        refine aw_lv [0, 1, 2, 3, 4, 5] rfl ?_
        exact L (N + 1) 0 _ rfl (by omega) (by omega)
      · refine aw_bipush X dX11_resource_38 cb_m5 ?_
        refine RTN (some (.int _)) _ _ _ _ _ dX11_resource_40 (⟨_, rfl⟩) (Nat.le_of_ble_eq_true rfl) (Nat.le_of_ble_eq_true rfl) ?_
        first | (constructor <;> ((try simp only [mo_resource, c14, c23, c35, if_true, if_false, not_true_eq_false, not_false_eq_true, and_self, true_and, and_true, false_and, and_false, or_true, true_or, or_false, false_or, reduceCtorEq, ne_eq, va_us, pk_us]); (try with_reducible rfl); done)) | (clear RTN X; constructor <;> ((try simp_all only [mo_resource, if_true, if_false, not_true_eq_false, not_false_eq_true, and_self, true_and, and_true, false_and, and_false, or_true, true_or, or_false, false_or, reduceCtorEq, ne_eq, va_us, pk_us]); (try with_reducible rfl); done)) | (constructor <;> ((try simp only [mo_resource, c14, c23, c35, if_true, if_false, not_true_eq_false, not_false_eq_true, and_self, true_and, and_true, false_and, and_false, or_true, true_or, or_false, false_or, reduceCtorEq, ne_eq, va_us, pk_us]); (try rfl); done))
    · refine aw_bipush X dX11_resource_26 cb_m2 ?_
      refine RTN (some (.int _)) _ _ _ _ _ dX11_resource_28 (⟨_, rfl⟩) (Nat.le_of_ble_eq_true rfl) (Nat.le_of_ble_eq_true rfl) ?_
      first | (constructor <;> ((try simp only [mo_resource, c14, c23, if_true, if_false, not_true_eq_false, not_false_eq_true, and_self, true_and, and_true, false_and, and_false, or_true, true_or, or_false, false_or, reduceCtorEq, ne_eq, va_us, pk_us]); (try with_reducible rfl); done)) | (clear RTN X; constructor <;> ((try simp_all only [mo_resource, if_true, if_false, not_true_eq_false, not_false_eq_true, and_self, true_and, and_true, false_and, and_false, or_true, true_or, or_false, false_or, reduceCtorEq, ne_eq, va_us, pk_us]); (try with_reducible rfl); done)) | (constructor <;> ((try simp only [mo_resource, c14, c23, if_true, if_false, not_true_eq_false, not_false_eq_true, and_self, true_and, and_true, false_and, and_false, or_true, true_or, or_false, false_or, reduceCtorEq, ne_eq, va_us, pk_us]); (try rfl); done))
/-! file -/
theorem sF_rd (M : MS) (k i : Nat) (v : Int32) : (sF M k i v).2.2 k i = v := by rw [sF_us, pk_us]
theorem sF_sF (M : MS) (k i : Nat) (v x : Int32) : sF (sF M k i v) k i x = sF M k i x := by
  show (M.1, M.2.1, va_up (va_up M.2.2 k _) k (upd ((va_up M.2.2 k (upd (M.2.2 k) i v)) k) i x)) = _
  rw [va_us, bx_uu]
  have : upd (upd (M.2.2 k) i v) i x = upd (M.2.2 k) i x := by
    funext j
    by_cases h : j = i
    · rw [h, pk_us, pk_us]
    · rw [pk_un h, pk_un h, pk_un h]
  rw [this]
def mo_cn (M : MS) (R : Int32) : Nat → MS
  | 0 => M
  | j + 1 => sF (mo_cn M R j) 31 ((8 * R) + nI j).toNatClampNeg ((mo_cn M R j).2.2 25 (nI j).toNatClampNeg)
theorem cn_1 (M : MS) (R : Int32) : ∀ t, (mo_cn M R t).1 = M.1
  | 0 => rfl
  | t + 1 => cn_1 M R t
theorem cn_f (M : MS) (R : Int32) {j : Nat} (hj : j ≠ 31) : ∀ t, (mo_cn M R t).2.2 j = M.2.2 j
  | 0 => rfl
  | t + 1 => by
    show va_up (mo_cn M R t).2.2 31 _ j = _
    rw [va_up_ne _ _ hj]
    exact cn_f M R hj t
def mo_ff (M : MS) (R : Int32) : Nat := ((List.range 20).find? (fun a => lkN M (nI a) R)).getD 0
def mo_f1 (M : MS) (u : Int32) : MS := (sF (sF (sF (sI (sI M 0 0) 29 ((M.1 29) + 1)) 30 (M.1 29).toNatClampNeg u) 32 (M.1 29).toNatClampNeg (M.1 26)) 33 (M.1 29).toNatClampNeg 0)
def mo_f2 (M : MS) (u : Int32) : MS := mo_cn (mo_f1 M u) (M.1 29) (M.1 26).toNatClampNeg
def mo_file (M : MS) (u : Int32) : Int32 × MS :=
  if bt u 0 3 then
    if M.1 26 = 0 then (-4, sI (sI M 0 0) 27 0)
    else if M.1 29 = 20 then (-5, (sI M 0 0))
    else ((M.1 29), sI (sI (sF (mo_f2 M u) 34 (M.1 29).toNatClampNeg (nI (mo_ff (mo_f2 M u) (M.1 29)))) 26 0) 27 0)
  else (-3, (sI M 0 0))
theorem lk_self {M : MS} {R : Int32} (h : M.2.2 33 R.toNatClampNeg = 0) : lkN M R R = true := by
  unfold lkN lkB lk0 lkE
  simp [h]
set_option maxRecDepth 100000 in
set_option maxHeartbeats 4000000 in
theorem kX11_file (G : GG) (l : Launch) (q : Nat → Nat) (M : MS) (hq : mInj q) (hF : mi_refs M) (hN : bt (M.1 26) 0 8) (u : Int32) : MC G l yX11_file cX11_file 4 ((Option.some .int)) ({ frames := 1, cells := 0, slots := 0, locals := 25 } : Room) [.ref (q 0), .int u] (mw G q M) (fun v w' => v = some (.int (mo_file M u).1) ∧ w' = mw G q (mo_file M u).2) := by
  refine mc_int (by decide) (Nat.le_of_ble_eq_true rfl) rfl rfl ?_
  intro p e s m args below meth c A H0 Q X hnm RTN
  have X : Cx G p s m args meth c A H0 cX11_file 4 RX11 := X
  refine aw_aload_n X dX11_file_0 rfl rfl ?_
  refine aw_iconst X dX11_file_1 ci_0 ?_
  refine am_put X 0 (M' := sI _ 0 _) (Nat.le_of_ble_eq_true rfl) fl_X11_1 rfl rfl (rfl) (rfl) (mf_0 _ _ _) rfl dX11_file_2 ?_
  refine aw_iload_n X dX11_file_5 rfl rfl ?_
  refine aw_i2l X dX11_file_6 ?_
  refine aw_lconst X dX11_file_7 cl_0 ?_
  refine aw_ldc2 X kl_X11_108 dX11_file_8 ?_
  refine aw_callS X (kX11_inI _ _ _ _ _ _ 0 3 rfl rfl) okm_X11_in ml_X11_12 st_X11_in rfl rfl (Nat.le_of_ble_eq_true rfl) ⟨Nat.le_of_ble_eq_true rfl, Nat.le_of_ble_eq_true rfl, Nat.le_of_ble_eq_true rfl, Nat.le_of_ble_eq_true rfl⟩ dX11_file_11 (fun v w2 hp => ?_)
  obtain ⟨rfl, rfl⟩ := hp
  refine aw_if_ne (tgt := 20) X dX11_file_14 rfl (fun c14 => ?_) (fun c14 => ?_)
  · rw [bI_n0] at c14
    refine aw_aload_n X dX11_file_20 rfl rfl ?_
    refine am_get X 26 (v := .int (M.1 26)) (Nat.le_of_ble_eq_true rfl) fl_X11_207 rfl rfl dX11_file_21 ?_
    refine aw_if_ne (tgt := 35) X dX11_file_24 rfl (fun c24 => ?_) (fun c24 => ?_)
    · refine aw_aload_n X dX11_file_35 rfl rfl ?_
      refine am_get X 29 (v := .int (M.1 29)) (Nat.le_of_ble_eq_true rfl) fl_X11_194 rfl rfl dX11_file_36 ?_
      refine aw_bipush X dX11_file_39 cb_20 ?_
      refine aw_icmp_ne (tgt := 47) X dX11_file_41 rfl (fun c41 => ?_) (fun c41 => ?_)
      · refine aw_aload_n X dX11_file_47 rfl rfl ?_
        refine am_get X 29 (v := .int (M.1 29)) (Nat.le_of_ble_eq_true rfl) fl_X11_194 rfl rfl dX11_file_48 ?_
        refine aw_istore_n (lv' := [(2, _), (0, _), (1, _)]) X dX11_file_51 rfl (by decide) rfl ?_
        refine aw_aload_n X dX11_file_52 rfl rfl ?_
        refine aw_dup X dX11_file_53 rfl ?_
        refine am_get X 29 (v := .int (M.1 29)) (Nat.le_of_ble_eq_true rfl) fl_X11_194 rfl rfl dX11_file_54 ?_
        refine aw_iconst X dX11_file_57 ci_1 ?_
        refine aw_iadd X dX11_file_58 ?_
        refine am_put X 29 (M' := sI _ 29 _) (Nat.le_of_ble_eq_true rfl) fl_X11_194 rfl rfl (rfl) (rfl) (mf_29 _ _ _) rfl dX11_file_59 ?_
        refine aw_aload_n X dX11_file_62 rfl rfl ?_
        refine am_get X 30 (Nat.le_of_ble_eq_true rfl) fl_X11_145 rfl rfl dX11_file_63 ?_
        refine aw_iload_n X dX11_file_66 rfl rfl ?_
        refine aw_iload_n X dX11_file_67 rfl rfl ?_
        refine am_ast X 30 _ hq (by decide) rfl rfl (rf_vp hF c41) dX11_file_68 ?_
        refine aw_aload_n X dX11_file_69 rfl rfl ?_
        refine am_get X 32 (Nat.le_of_ble_eq_true rfl) fl_X11_151 rfl rfl dX11_file_70 ?_
        refine aw_iload_n X dX11_file_73 rfl rfl ?_
        refine aw_aload_n X dX11_file_74 rfl rfl ?_
        refine am_get X 26 (v := .int (M.1 26)) (Nat.le_of_ble_eq_true rfl) fl_X11_207 rfl rfl dX11_file_75 ?_
        refine am_ast X 32 _ hq (by decide) rfl rfl (rf_vp hF c41) dX11_file_78 ?_
        refine aw_aload_n X dX11_file_79 rfl rfl ?_
        refine am_get X 33 (Nat.le_of_ble_eq_true rfl) fl_X11_67 rfl rfl dX11_file_80 ?_
        refine aw_iload_n X dX11_file_83 rfl rfl ?_
        refine aw_iconst X dX11_file_84 ci_0 ?_
        refine am_zst X 33 _ hq (by decide) rfl rfl (rfl) (rf_vp hF c41) dX11_file_85 ?_
        refine aw_iconst X dX11_file_86 ci_0 ?_
        refine aw_istore_n (lv' := [(3, _), (2, _), (0, _), (1, _)]) X dX11_file_87 rfl (by decide) rfl ?_
        obtain ⟨L9, hL9, hLe, _⟩ := bt_nat (hi := 8) hN
        obtain ⟨R9, hR9, hRe, _⟩ := bt_nat (hi := 20) hF
        have hR20 : R9 ≠ 20 := fun z => c41 (by rw [hRe, z]; rfl)
        have hRb : bt (M.1 29) 0 19 := by rw [hRe]; exact (bt_nI (by omega)).mpr ⟨by omega, by omega⟩
        have hM : ((sF (sF (sF (sI (sI M 0 0) 29 ((M.1 29) + 1)) 30 (M.1 29).toNatClampNeg u) 32 (M.1 29).toNatClampNeg (M.1 26)) 33 (M.1 29).toNatClampNeg 0) : MS) = mo_f1 M u := rfl
        rw [hM]
        have hf2 : mo_f2 M u = mo_cn (mo_f1 M u) (M.1 29) L9 := by unfold mo_f2; rw [hLe, nI_clamp (by omega)]
        have hself : lkN (mo_f2 M u) (M.1 29) (M.1 29) = true := lk_self (by rw [hf2, cn_f _ _ (by decide)]; unfold mo_f1; exact sF_rd _ _ _ _)
        have hlen : bt ((mo_f2 M u).2.2 32 (M.1 29).toNatClampNeg) 0 8 := by rw [hf2, cn_f _ _ (by decide)]; unfold mo_f1; rw [sF_f _ _ _ _ (by decide), sF_rd]; exact hN
        have LW : ∀ (nn a : Nat) (x : Int32), x = nI a → a ≤ R9 → (∀ b, b < a → lkN (mo_f2 M u) (nI b) (M.1 29) = false) → R9 + 1 ≤ a + nn → AW G p l e ({ frames := 1, cells := 0, slots := 0, locals := 25 } : Room) s m args below meth c 4 A H0 Q (mw G q (sF (mo_f2 M u) 34 (M.1 29).toNatClampNeg x)) 0 0 126 [(2, .int (M.1 29)), (0, .ref (q 0)), (1, .int u)] [] := by
          intro nn
          induction nn with
          | zero => intro a x hx h1 hb h2; exact absurd h2 (by omega)
          | succ nn ih =>
            intro a x hx h1 hb h2
            subst hx
            have hab : bt (nI a) 0 19 := (bt_nI (by omega)).mpr ⟨by omega, by omega⟩
            refine aw_aload_n X dX11_file_126 rfl rfl ?_
            refine aw_aload_n X dX11_file_127 rfl rfl ?_
            refine am_get X 34 (Nat.le_of_ble_eq_true rfl) fl_X11_112 rfl rfl dX11_file_128 ?_
            refine aw_iload_n X dX11_file_131 rfl rfl ?_
            refine am_ald X 34 _ ((sF (mo_f2 M u) 34 (M.1 29).toNatClampNeg (nI a)).2.2 34) hq (by decide) rfl rfl rfl (bt_vp (hRb) (by decide) (by decide)) dX11_file_132 ?_
            rw [sF_rd]
            refine aw_iload_n X dX11_file_133 rfl rfl ?_
            refine aw_callV X (kX11_isLike _ _ _ _ hq _ _ hab hRb hlen) okm_X11_isLike okX11 mw_0 ml_X11_210 im_X11_isLike se_X11_X11_isLike rfl rfl (Nat.le_of_ble_eq_true rfl) ⟨Nat.le_of_ble_eq_true rfl, Nat.le_of_ble_eq_true rfl, Nat.le_of_ble_eq_true rfl, Nat.le_of_ble_eq_true rfl⟩ dX11_file_134 (fun v w2 hp => ?_)
            obtain ⟨rfl, rfl⟩ := hp
            refine aw_if_ne (tgt := 153) X dX11_file_137 rfl (fun c137 => ?_) (fun c137 => ?_)
            · rw [bI_n0] at c137
              have c9 : lkN (mo_f2 M u) (nI a) (M.1 29) = true := c137
              refine aw_aload_n X dX11_file_153 rfl rfl ?_
              refine aw_iconst X dX11_file_154 ci_0 ?_
              refine am_put X 26 (M' := sI _ 26 _) (Nat.le_of_ble_eq_true rfl) fl_X11_207 rfl rfl (rfl) (rfl) (mf_26 _ _ _) rfl dX11_file_155 ?_
              refine aw_aload_n X dX11_file_158 rfl rfl ?_
              refine aw_iconst X dX11_file_159 ci_0 ?_
              refine am_put X 27 (M' := sI _ 27 _) (Nat.le_of_ble_eq_true rfl) fl_X11_197 rfl rfl (rfl ) ( rfl) (mf_27 _ _ _) rfl dX11_file_160 ?_
              refine aw_iload_n X dX11_file_163 rfl rfl ?_
              refine RTN (some (.int _)) _ _ _ _ _ dX11_file_164 (⟨_, rfl⟩) (Nat.le_of_ble_eq_true rfl) (Nat.le_of_ble_eq_true rfl) ?_
              have hff : mo_ff (mo_f2 M u) (M.1 29) = a := by unfold mo_ff; rw [fr_some (by omega) hb c9]; rfl
              constructor <;> simp only [mo_file, c14, c24, c41, if_true, if_false, hff]
            · rw [bI_0] at c137
              have c9 : lkN (mo_f2 M u) (nI a) (M.1 29) = false := by rw [Bool.not_eq_true] at c137; exact c137
              have h9 : a ≠ R9 := fun z => by rw [z, ← hRe, hself] at c9; cases c9
              refine aw_aload_n X dX11_file_140 rfl rfl ?_
              refine am_get X 34 (Nat.le_of_ble_eq_true rfl) fl_X11_112 rfl rfl dX11_file_141 ?_
              refine aw_iload_n X dX11_file_144 rfl rfl ?_
              refine aw_dup2_11 X dX11_file_145 rfl rfl ?_
              refine am_ald X 34 _ ((sF (mo_f2 M u) 34 (M.1 29).toNatClampNeg (nI a)).2.2 34) hq (by decide) rfl rfl rfl (bt_vp (hRb) (by decide) (by decide)) dX11_file_146 ?_
              rw [sF_rd]
              refine aw_iconst X dX11_file_147 ci_1 ?_
              refine aw_iadd X dX11_file_148 ?_
              refine am_ast X 34 _ hq (by decide) rfl rfl (bt_vp (hRb) (by decide) (by decide)) dX11_file_149 ?_
              refine aw_goto (tgt := 126) X dX11_file_150 rfl ?_
              rw [sF_sF]
              refine aw_lv [0, 1, 2] rfl ?_
              exact ih (a + 1) _ (nI_1 a) (by omega) (lt_s hb c9) (by omega)
        have L : ∀ (nn j : Nat) (x : Int32), x = nI j → j ≤ L9 → L9 + 1 ≤ j + nn → AW G p l e ({ frames := 1, cells := 0, slots := 0, locals := 25 } : Room) s m args below meth c 4 A H0 Q (mw G q (mo_cn (mo_f1 M u) (M.1 29) j)) 0 0 88 [(3, .int x), (2, .int (M.1 29)), (0, .ref (q 0)), (1, .int u)] [] := by
          intro nn
          induction nn with
          | zero => intro j x hx h1 h2; exact absurd h2 (by omega)
          | succ nn ih =>
            intro j x hx h1 h2
            subst hx
            refine aw_iload_n X dX11_file_88 rfl rfl ?_
            refine aw_aload_n X dX11_file_89 rfl rfl ?_
            refine am_get X 26 (v := .int ((mo_cn (mo_f1 M u) (M.1 29) j).1 26)) (Nat.le_of_ble_eq_true rfl) fl_X11_207 rfl rfl dX11_file_90 ?_
            refine aw_icmp_ge (tgt := 119) X dX11_file_93 rfl (fun c93 => ?_) (fun c93 => ?_)
            · have c93 : nI L9 ≤ nI j := by rw [← hLe]; rw [cn_1] at c93; exact c93
              have h9 : j = L9 := by have := (nI_leI (a := L9) (b := j) (by omega) (by omega)).mp c93; omega
              refine aw_aload_n X dX11_file_119 rfl rfl ?_
              refine am_get X 34 (Nat.le_of_ble_eq_true rfl) fl_X11_112 rfl rfl dX11_file_120 ?_
              refine aw_iload_n X dX11_file_123 rfl rfl ?_
              refine aw_iconst X dX11_file_124 ci_0 ?_
              refine am_ast X 34 _ hq (by decide) rfl rfl (bt_vp (hRb) (by decide) (by decide)) dX11_file_125 ?_
              rw [h9, ← hf2]
              refine aw_lv [1, 2, 3] rfl ?_
              exact LW (R9 + 1) 0 _ rfl (by omega) (fun j h => absurd h (Nat.not_lt_zero j)) (by omega)
            · have c93 : ¬ nI L9 ≤ nI j := by rw [← hLe]; rw [cn_1] at c93; exact c93
              have h9 : j < L9 := Nat.lt_of_not_le (fun h => c93 ((nI_leI (a := L9) (b := j) (by omega) (by omega)).mpr h))
              refine aw_aload_n X dX11_file_96 rfl rfl ?_
              refine am_get X 31 (Nat.le_of_ble_eq_true rfl) fl_X11_148 rfl rfl dX11_file_97 ?_
              refine aw_bipush X dX11_file_100 cb_8 ?_
              refine aw_iload_n X dX11_file_102 rfl rfl ?_
              refine aw_imul X dX11_file_103 ?_
              refine aw_iload_n X dX11_file_104 rfl rfl ?_
              refine aw_iadd X dX11_file_105 ?_
              refine aw_aload_n X dX11_file_106 rfl rfl ?_
              refine am_get X 25 (Nat.le_of_ble_eq_true rfl) fl_X11_142 rfl rfl dX11_file_107 ?_
              refine aw_iload_n X dX11_file_110 rfl rfl ?_
              refine am_ald X 25 _ ((mo_cn (mo_f1 M u) (M.1 29) j).2.2 25) hq (by decide) rfl rfl rfl (bt_vp ((bt_nI (n := j) (lo := 0) (hi := 7) (by omega)).mpr ⟨by omega, by omega⟩) (by decide) (by decide)) dX11_file_111 ?_
              refine am_ast X 31 _ hq (by decide) rfl rfl (ix20 hRb ((bt_nI (n := j) (lo := 0) (hi := 7) (by omega)).mpr ⟨by omega, by omega⟩)) dX11_file_112 ?_
              refine aw_iinc (lv' := [(3, _), (2, _), (0, _), (1, _)]) X dX11_file_113 rfl (iinc_1 _) (by decide) rfl ?_
              refine aw_goto (tgt := 88) X dX11_file_116 rfl ?_
              refine aw_lv [0, 1, 2, 3] rfl ?_
              exact ih (j + 1) _ (nI_1 j) (by omega) (by omega)
        refine aw_lv [0, 1, 2, 3] rfl ?_
        exact L (L9 + 1) 0 _ rfl (by omega) (by omega)
      · refine aw_bipush X dX11_file_44 cb_m5 ?_
        refine RTN (some (.int _)) _ _ _ _ _ dX11_file_46 (⟨_, rfl⟩) (Nat.le_of_ble_eq_true rfl) (Nat.le_of_ble_eq_true rfl) ?_
        first | (constructor <;> ((try simp only [mo_file, c14, c24, (eq_true c41), if_true, if_false, not_true_eq_false, not_false_eq_true, and_self, true_and, and_true, false_and, and_false, or_true, true_or, or_false, false_or, reduceCtorEq, ne_eq, va_us, pk_us]); (try with_reducible rfl); done)) | (clear RTN X; constructor <;> ((try simp_all only [mo_file, if_true, if_false, not_true_eq_false, not_false_eq_true, and_self, true_and, and_true, false_and, and_false, or_true, true_or, or_false, false_or, reduceCtorEq, ne_eq, va_us, pk_us]); (try with_reducible rfl); done)) | (constructor <;> ((try simp only [mo_file, c14, c24, (eq_true c41), if_true, if_false, not_true_eq_false, not_false_eq_true, and_self, true_and, and_true, false_and, and_false, or_true, true_or, or_false, false_or, reduceCtorEq, ne_eq, va_us, pk_us]); (try rfl); done))
    · refine aw_aload_n X dX11_file_27 rfl rfl ?_
      refine aw_iconst X dX11_file_28 ci_0 ?_
      refine am_put X 27 (M' := sI _ 27 _) (Nat.le_of_ble_eq_true rfl) fl_X11_197 rfl rfl (rfl ) ( rfl) (mf_27 _ _ _) rfl dX11_file_29 ?_
      refine aw_bipush X dX11_file_32 cb_m4 ?_
      refine RTN (some (.int _)) _ _ _ _ _ dX11_file_34 (⟨_, rfl⟩) (Nat.le_of_ble_eq_true rfl) (Nat.le_of_ble_eq_true rfl) ?_
      first | (constructor <;> ((try simp only [mo_file, c14, (eq_true c24), if_true, if_false, not_true_eq_false, not_false_eq_true, and_self, true_and, and_true, false_and, and_false, or_true, true_or, or_false, false_or, reduceCtorEq, ne_eq, va_us, pk_us]); (try with_reducible rfl); done)) | (clear RTN X; constructor <;> ((try simp_all only [mo_file, if_true, if_false, not_true_eq_false, not_false_eq_true, and_self, true_and, and_true, false_and, and_false, or_true, true_or, or_false, false_or, reduceCtorEq, ne_eq, va_us, pk_us]); (try with_reducible rfl); done)) | (constructor <;> ((try simp only [mo_file, c14, (eq_true c24), if_true, if_false, not_true_eq_false, not_false_eq_true, and_self, true_and, and_true, false_and, and_false, or_true, true_or, or_false, false_or, reduceCtorEq, ne_eq, va_us, pk_us]); (try rfl); done))
  · rw [bI_0] at c14
    refine aw_bipush X dX11_file_17 cb_m3 ?_
    refine RTN (some (.int _)) _ _ _ _ _ dX11_file_19 (⟨_, rfl⟩) (Nat.le_of_ble_eq_true rfl) (Nat.le_of_ble_eq_true rfl) ?_
    first | (constructor <;> ((try simp only [mo_file, c14, if_true, if_false, not_true_eq_false, not_false_eq_true, and_self, true_and, and_true, false_and, and_false, or_true, true_or, or_false, false_or, reduceCtorEq, ne_eq, va_us, pk_us]); (try with_reducible rfl); done)) | (clear RTN X; constructor <;> ((try simp_all only [mo_file, if_true, if_false, not_true_eq_false, not_false_eq_true, and_self, true_and, and_true, false_and, and_false, or_true, true_or, or_false, false_or, reduceCtorEq, ne_eq, va_us, pk_us]); (try with_reducible rfl); done)) | (constructor <;> ((try simp only [mo_file, c14, if_true, if_false, not_true_eq_false, not_false_eq_true, and_self, true_and, and_true, false_and, and_false, or_true, true_or, or_false, false_or, reduceCtorEq, ne_eq, va_us, pk_us]); (try rfl); done))
