/-! give, resource -/
def mi_given (M : MS) : Prop := ∀ k, k < 4 → bt (M.2.2 23 k) (-1) 40 = true
theorem ix4 {n j : Int32} (hn : bt n 0 3) (hj : bt j 0 39) : vp_in ((40 * n) + j) 160 := by
  obtain ⟨a1, a2⟩ := bt_iff.mp hn
  obtain ⟨k1, k2⟩ := bt_iff.mp hj
  have h1 := ti_mul (a := 40) (b := n) (x := 40) rfl rfl (by omega)
  have h2 := ti_add h1 (b := j) rfl (by omega)
  exact vp_in_iff.mpr ⟨by omega, by omega⟩
def mo_gl (M : MS) (n a : Int32) : Nat → MS
  | 0 => M
  | j + 1 => sF (mo_gl M n a j) 24 ((40 * n) + nI j).toNatClampNeg (if (mo_gl M n a j).2.2 2 a.toNatClampNeg = 1 then (mo_gl M n a j).2.2 4 (((40 * a) + nI j) - 40).toNatClampNeg &&& 255 else sgn ((mo_gl M n a j).2.2 4 (((40 * a) + nI j) - 40).toNatClampNeg))
theorem gl_1 (M : MS) (n a : Int32) : ∀ t, (mo_gl M n a t).1 = M.1
  | 0 => rfl
  | t + 1 => gl_1 M n a t
theorem gl_l (M : MS) (n a : Int32) : ∀ t, (mo_gl M n a t).2.1 = M.2.1
  | 0 => rfl
  | t + 1 => gl_l M n a t
theorem gl_f (M : MS) (n a : Int32) {j : Nat} (hj : j ≠ 24) : ∀ t, (mo_gl M n a t).2.2 j = M.2.2 j
  | 0 => rfl
  | t + 1 => by
    show va_up (mo_gl M n a t).2.2 24 _ j = _
    rw [va_up_ne _ _ hj]
    exact gl_f M n a hj t
def mo_give (M : MS) (n r : Int32) : Int32 × MS :=
  if bt n 0 3 ∧ bt r 0 7 then
    if (M.2.2 1 r.toNatClampNeg) = 0 then ((-10) - 1, sI (sI M 0 0) 5 1)
    else if M.2.2 2 (M.2.2 1 r.toNatClampNeg).toNatClampNeg ≤ 2 then (M.2.2 3 (M.2.2 1 r.toNatClampNeg).toNatClampNeg, mo_gl (sF (sI M 0 0) 23 n.toNatClampNeg (M.2.2 3 (M.2.2 1 r.toNatClampNeg).toNatClampNeg)) n (M.2.2 1 r.toNatClampNeg) (M.2.2 3 (M.2.2 1 r.toNatClampNeg).toNatClampNeg).toNatClampNeg)
    else ((-10) - 2, sI (sI M 0 0) 5 2)
  else (-2, (sI M 0 0))
def mo_rs (M : MS) (k n wide : Int32) : Nat → MS
  | 0 => M
  | j + 1 => sF (mo_rs M k n wide j) 18 ((40 * k) + nI j).toNatClampNeg (nrw wide ((mo_rs M k n wide j).2.2 24 ((40 * n) + nI j).toNatClampNeg))
theorem rs_1 (M : MS) (k n wide : Int32) : ∀ t, (mo_rs M k n wide t).1 = M.1
  | 0 => rfl
  | t + 1 => rs_1 M k n wide t
theorem rs_l (M : MS) (k n wide : Int32) : ∀ t, (mo_rs M k n wide t).2.1 = M.2.1
  | 0 => rfl
  | t + 1 => rs_l M k n wide t
theorem rs_f (M : MS) (k n wide : Int32) {j : Nat} (hj : j ≠ 18) : ∀ t, (mo_rs M k n wide t).2.2 j = M.2.2 j
  | 0 => rfl
  | t + 1 => by
    show va_up (mo_rs M k n wide t).2.2 18 _ j = _
    rw [va_up_ne _ _ hj]
    exact rs_f M k n wide hj t
def mo_resource (M : MS) (n wide : Int32) : Int32 × MS :=
  if bt n 0 3 ∧ 0 ≤ M.2.2 23 n.toNatClampNeg then
    if 0 ≤ (oI (mo_fp (sI M 0 0))) then (M.1 7 + 1, mo_rs (sF (mo_begin (sI M 0 0) (oI (mo_fp (sI M 0 0))).toNatClampNeg 3 wide 2) 12 (oI (mo_fp (sI M 0 0))).toNatClampNeg (M.2.2 23 n.toNatClampNeg)) (oI (mo_fp (sI M 0 0))) n wide (M.2.2 23 n.toNatClampNeg).toNatClampNeg)
    else (-5, (sI M 0 0))
  else (-2, (sI M 0 0))
set_option maxRecDepth 100000 in
set_option maxHeartbeats 4000000 in
theorem kX11_give (G : GG) (l : Launch) (q : Nat → Nat) (M : MS) (hq : mInj q) (hR : mi_row M) (hS : mi_size M) (n r : Int32) : MC G l yX11_give cX11_give 6 ((Option.some .int)) ({ frames := 2, cells := 0, slots := 0, locals := 45 } : Room) [.ref (q 0), .int n, .int r] (mw G q M) (fun v w' => v = some (.int (mo_give M n r).1) ∧ w' = mw G q (mo_give M n r).2) := by
  refine mc_int (by decide) (Nat.le_of_ble_eq_true rfl) rfl rfl ?_
  intro p e s m args below meth c A H0 Q X hnm RTN
  have X : Cx G p s m args meth c A H0 cX11_give 6 RX11 := X
  refine aw_aload_n X dX11_give_0 rfl rfl ?_
  refine aw_iconst X dX11_give_1 ci_0 ?_
  refine am_put X 0 (M' := sI _ 0 _) (Nat.le_of_ble_eq_true rfl) fl_X11_1 rfl rfl (rfl) (rfl) (mf_0 _ _ _) rfl dX11_give_2 ?_
  refine aw_iload_n X dX11_give_5 rfl rfl ?_
  refine aw_i2l X dX11_give_6 ?_
  refine aw_lconst X dX11_give_7 cl_0 ?_
  refine aw_ldc2 X kl_X11_108 dX11_give_8 ?_
  refine aw_callS X (kX11_inI _ _ _ _ _ _ 0 3 rfl rfl) okm_X11_in ml_X11_12 st_X11_in rfl rfl (Nat.le_of_ble_eq_true rfl) ⟨Nat.le_of_ble_eq_true rfl, Nat.le_of_ble_eq_true rfl, Nat.le_of_ble_eq_true rfl, Nat.le_of_ble_eq_true rfl⟩ dX11_give_11 (fun v w2 hp => ?_)
  obtain ⟨rfl, rfl⟩ := hp
  refine aw_if_eq (tgt := 24) X dX11_give_14 rfl (fun c14 => ?_) (fun c14 => ?_)
  · rw [bI_0] at c14
    refine aw_bipush X dX11_give_24 cb_m2 ?_
    refine RTN (some (.int _)) _ _ _ _ _ dX11_give_26 (⟨_, rfl⟩) (Nat.le_of_ble_eq_true rfl) (Nat.le_of_ble_eq_true rfl) ?_
    first | (constructor <;> ((try simp only [mo_give, c14, if_true, if_false, not_true_eq_false, not_false_eq_true, and_self, true_and, and_true, false_and, and_false, or_true, true_or, or_false, false_or, reduceCtorEq, ne_eq, va_us, pk_us]); (try with_reducible rfl); done)) | (clear RTN X; constructor <;> ((try simp_all only [mo_give, if_true, if_false, not_true_eq_false, not_false_eq_true, and_self, true_and, and_true, false_and, and_false, or_true, true_or, or_false, false_or, reduceCtorEq, ne_eq, va_us, pk_us]); (try with_reducible rfl); done)) | (constructor <;> ((try simp only [mo_give, c14, if_true, if_false, not_true_eq_false, not_false_eq_true, and_self, true_and, and_true, false_and, and_false, or_true, true_or, or_false, false_or, reduceCtorEq, ne_eq, va_us, pk_us]); (try rfl); done))
  · rw [bI_n0] at c14
    refine aw_iload_n X dX11_give_17 rfl rfl ?_
    refine aw_callS X (kX11_isRow _ _ _ _) okm_X11_isRow ml_X11_29 st_X11_isRow rfl rfl (Nat.le_of_ble_eq_true rfl) ⟨Nat.le_of_ble_eq_true rfl, Nat.le_of_ble_eq_true rfl, Nat.le_of_ble_eq_true rfl, Nat.le_of_ble_eq_true rfl⟩ dX11_give_18 (fun v w2 hp => ?_)
    obtain ⟨rfl, rfl⟩ := hp
    refine aw_if_ne (tgt := 27) X dX11_give_21 rfl (fun c21 => ?_) (fun c21 => ?_)
    · rw [bI_n0] at c21
      refine aw_aload_n X dX11_give_27 rfl rfl ?_
      refine am_get X 1 (Nat.le_of_ble_eq_true rfl) fl_X11_16 rfl rfl dX11_give_28 ?_
      refine aw_iload_n X dX11_give_31 rfl rfl ?_
      refine am_ald X 1 _ (M.2.2 1) hq (by decide) rfl rfl rfl (bt_vp (c21) (by decide) (by decide)) dX11_give_32 ?_
      refine aw_istore_n (lv' := [(3, _), (0, _), (1, _), (2, _)]) X dX11_give_33 rfl (by decide) rfl ?_
      refine aw_iload_n X dX11_give_34 rfl rfl ?_
      refine aw_if_eq (tgt := 48) X dX11_give_35 rfl (fun c35 => ?_) (fun c35 => ?_)
      · refine aw_aload_n X dX11_give_48 rfl rfl ?_
        refine aw_iload_n X dX11_give_49 rfl rfl ?_
        refine aw_if_ne (tgt := 57) X dX11_give_50 rfl (fun c50 => ?_) (fun c50 => ?_)
        · exact absurd c35 c50
        · refine aw_iconst X dX11_give_53 ci_1 ?_
          refine aw_goto (tgt := 58) X dX11_give_54 rfl ?_
          refine aw_callV X (kX11_fails _ _ _ _ hq _) okm_X11_fails okX11 mw_0 ml_X11_35 im_X11_fails se_X11_X11_fails rfl rfl (Nat.le_of_ble_eq_true rfl) ⟨Nat.le_of_ble_eq_true rfl, Nat.le_of_ble_eq_true rfl, Nat.le_of_ble_eq_true rfl, Nat.le_of_ble_eq_true rfl⟩ dX11_give_58 (fun v w2 hp => ?_)
          obtain ⟨rfl, rfl⟩ := hp
          refine RTN (some (.int _)) _ _ _ _ _ dX11_give_61 (⟨_, rfl⟩) (Nat.le_of_ble_eq_true rfl) (Nat.le_of_ble_eq_true rfl) ?_
          first | (constructor <;> ((try simp only [mo_give, c14, c21, (eq_true c35), (eq_true c50), if_true, if_false, not_true_eq_false, not_false_eq_true, and_self, true_and, and_true, false_and, and_false, or_true, true_or, or_false, false_or, reduceCtorEq, ne_eq, va_us, pk_us]); (try with_reducible rfl); done)) | (clear RTN X; constructor <;> ((try simp_all only [mo_give, if_true, if_false, not_true_eq_false, not_false_eq_true, and_self, true_and, and_true, false_and, and_false, or_true, true_or, or_false, false_or, reduceCtorEq, ne_eq, va_us, pk_us]); (try with_reducible rfl); done)) | (constructor <;> ((try simp only [mo_give, c14, c21, (eq_true c35), (eq_true c50), if_true, if_false, not_true_eq_false, not_false_eq_true, and_self, true_and, and_true, false_and, and_false, or_true, true_or, or_false, false_or, reduceCtorEq, ne_eq, va_us, pk_us]); (try rfl); done))
      · refine aw_aload_n X dX11_give_38 rfl rfl ?_
        refine am_get X 2 (Nat.le_of_ble_eq_true rfl) fl_X11_43 rfl rfl dX11_give_39 ?_
        refine aw_iload_n X dX11_give_42 rfl rfl ?_
        refine am_ald X 2 _ (M.2.2 2) hq (by decide) rfl rfl rfl (bt_vp (hR _ (cl_lt c21 (by decide) (by decide))) (by decide) (by decide)) dX11_give_43 ?_
        refine aw_iconst X dX11_give_44 ci_2 ?_
        refine aw_icmp_le (tgt := 62) X dX11_give_45 rfl (fun c45 => ?_) (fun c45 => ?_)
        · refine aw_aload_n X dX11_give_62 rfl rfl ?_
          refine am_get X 23 (Nat.le_of_ble_eq_true rfl) fl_X11_136 rfl rfl dX11_give_63 ?_
          refine aw_iload_n X dX11_give_66 rfl rfl ?_
          refine aw_aload_n X dX11_give_67 rfl rfl ?_
          refine am_get X 3 (Nat.le_of_ble_eq_true rfl) fl_X11_46 rfl rfl dX11_give_68 ?_
          refine aw_iload_n X dX11_give_71 rfl rfl ?_
          refine am_ald X 3 _ (M.2.2 3) hq (by decide) rfl rfl rfl (bt_vp (hR _ (cl_lt c21 (by decide) (by decide))) (by decide) (by decide)) dX11_give_72 ?_
          refine am_ast X 23 _ hq (by decide) rfl rfl (bt_vp (c14) (by decide) (by decide)) dX11_give_73 ?_
          refine aw_iconst X dX11_give_74 ci_0 ?_
          refine aw_istore (lv' := [(4, _), (3, _), (0, _), (1, _), (2, _)]) X dX11_give_75 (by decide) rfl ?_
          obtain ⟨N, hN, hNe, _⟩ := bt_nat (hi := 40) (hS _ (cl_lt (hR _ (cl_lt c21 (by decide) (by decide))) (by decide) (by decide)))
          have ha1 : bt (M.2.2 1 r.toNatClampNeg) 1 24 := by have h1 := bt_iff.mp (hR _ (cl_lt c21 (by decide) (by decide))); have h2 : (M.2.2 1 r.toNatClampNeg).toInt ≠ 0 := fun z => c35 ((i32_eq _ 0).mpr z); exact bt_iff.mpr ⟨by omega, by omega⟩
          have L : ∀ (nn j : Nat) (x : Int32), x = nI j → j ≤ N → N + 1 ≤ j + nn → AW G p l e ({ frames := 2, cells := 0, slots := 0, locals := 45 } : Room) s m args below meth c 6 A H0 Q (mw G q (mo_gl (sF (sI M 0 0) 23 n.toNatClampNeg (M.2.2 3 (M.2.2 1 r.toNatClampNeg).toNatClampNeg)) n (M.2.2 1 r.toNatClampNeg) j)) 0 0 77 [(4, .int x), (3, .int (M.2.2 1 r.toNatClampNeg)), (0, .ref (q 0)), (1, .int n), (2, .int r)] [] := by
            intro nn
            induction nn with
            | zero => intro j x hx h1 h2; exact absurd h2 (by omega)
            | succ nn ih =>
              intro j x hx h1 h2
              subst hx
              refine aw_iload X dX11_give_77 rfl ?_
              refine aw_aload_n X dX11_give_79 rfl rfl ?_
              refine am_get X 3 (Nat.le_of_ble_eq_true rfl) fl_X11_46 rfl rfl dX11_give_80 ?_
              refine aw_iload_n X dX11_give_83 rfl rfl ?_
              refine am_ald X 3 _ ((mo_gl (sF (sI M 0 0) 23 n.toNatClampNeg (M.2.2 3 (M.2.2 1 r.toNatClampNeg).toNatClampNeg)) n (M.2.2 1 r.toNatClampNeg) j).2.2 3) hq (by decide) rfl rfl rfl (bt_vp (hR _ (cl_lt c21 (by decide) (by decide))) (by decide) (by decide)) dX11_give_84 ?_
              refine aw_icmp_ge (tgt := 147) X dX11_give_85 rfl (fun c85 => ?_) (fun c85 => ?_)
              · have c85 : nI N ≤ nI j := by rw [← hNe]; rw [gl_f _ _ _ (by decide)] at c85; exact c85
                have h9 : j = N := by have := (nI_leI (a := N) (b := j) (by omega) (by omega)).mp c85; omega
                refine aw_aload_n X dX11_give_147 rfl rfl ?_
                refine am_get X 23 (Nat.le_of_ble_eq_true rfl) fl_X11_136 rfl rfl dX11_give_148 ?_
                refine aw_iload_n X dX11_give_151 rfl rfl ?_
                refine am_ald X 23 _ ((mo_gl (sF (sI M 0 0) 23 n.toNatClampNeg (M.2.2 3 (M.2.2 1 r.toNatClampNeg).toNatClampNeg)) n (M.2.2 1 r.toNatClampNeg) j).2.2 23) hq (by decide) rfl rfl rfl (bt_vp (c14) (by decide) (by decide)) dX11_give_152 ?_
                refine RTN (some (.int _)) _ _ _ _ _ dX11_give_153 (⟨_, rfl⟩) (Nat.le_of_ble_eq_true rfl) (Nat.le_of_ble_eq_true rfl) ?_
                have hN2 : (M.2.2 3 (M.2.2 1 r.toNatClampNeg).toNatClampNeg).toNatClampNeg = j := by rw [hNe, nI_clamp (by omega), h9]
                refine ⟨?_, ?_⟩
                · rw [gl_f _ _ _ (by decide)]; simp only [mo_give, c14, c21, c35, c45, and_self, if_true, if_false, va_us, pk_us]
                · simp only [mo_give, c14, c21, c35, c45, and_self, if_true, if_false, hN2]
              · have c85 : ¬ nI N ≤ nI j := by rw [← hNe]; rw [gl_f _ _ _ (by decide)] at c85; exact c85
                have h9 : j < N := Nat.lt_of_not_le (fun h => c85 ((nI_leI (a := N) (b := j) (by omega) (by omega)).mpr h))
                refine aw_aload_n X dX11_give_88 rfl rfl ?_
                refine am_get X 4 (Nat.le_of_ble_eq_true rfl) fl_X11_49 rfl rfl dX11_give_89 ?_
                refine aw_bipush X dX11_give_92 cb_40 ?_
                refine aw_iload_n X dX11_give_94 rfl rfl ?_
                refine aw_imul X dX11_give_95 ?_
                refine aw_iload X dX11_give_96 rfl ?_
                refine aw_iadd X dX11_give_98 ?_
                refine aw_bipush X dX11_give_99 cb_40 ?_
                refine aw_isub X dX11_give_101 ?_
                refine am_ald X 4 _ ((mo_gl (sF (sI M 0 0) 23 n.toNatClampNeg (M.2.2 3 (M.2.2 1 r.toNatClampNeg).toNatClampNeg)) n (M.2.2 1 r.toNatClampNeg) j).2.2 4) hq (by decide) rfl rfl rfl (ix_v ha1 ((bt_nI (n := j) (lo := 0) (hi := 39) (by omega)).mpr ⟨by omega, by omega⟩)) dX11_give_102 ?_
                refine aw_istore (lv' := [(5, _), (4, _), (3, _), (0, _), (1, _), (2, _)]) X dX11_give_103 (by decide) rfl ?_
                refine aw_aload_n X dX11_give_105 rfl rfl ?_
                refine am_get X 24 (Nat.le_of_ble_eq_true rfl) fl_X11_139 rfl rfl dX11_give_106 ?_
                refine aw_bipush X dX11_give_109 cb_40 ?_
                refine aw_iload_n X dX11_give_111 rfl rfl ?_
                refine aw_imul X dX11_give_112 ?_
                refine aw_iload X dX11_give_113 rfl ?_
                refine aw_iadd X dX11_give_115 ?_
                refine aw_aload_n X dX11_give_116 rfl rfl ?_
                refine am_get X 2 (Nat.le_of_ble_eq_true rfl) fl_X11_43 rfl rfl dX11_give_117 ?_
                refine aw_iload_n X dX11_give_120 rfl rfl ?_
                refine am_ald X 2 _ ((mo_gl (sF (sI M 0 0) 23 n.toNatClampNeg (M.2.2 3 (M.2.2 1 r.toNatClampNeg).toNatClampNeg)) n (M.2.2 1 r.toNatClampNeg) j).2.2 2) hq (by decide) rfl rfl rfl (bt_vp (hR _ (cl_lt c21 (by decide) (by decide))) (by decide) (by decide)) dX11_give_121 ?_
                refine aw_iconst X dX11_give_122 ci_1 ?_
                refine aw_icmp_ne (tgt := 135) X dX11_give_123 rfl (fun c123 => ?_) (fun c123 => ?_)
                · refine aw_iload X dX11_give_135 rfl ?_
                  refine aw_callS X (kX11_signOf _ _ _ _) okm_X11_signOf ml_X11_165 st_X11_signOf rfl rfl (Nat.le_of_ble_eq_true rfl) ⟨Nat.le_of_ble_eq_true rfl, Nat.le_of_ble_eq_true rfl, Nat.le_of_ble_eq_true rfl, Nat.le_of_ble_eq_true rfl⟩ dX11_give_137 (fun v w2 hp => ?_)
                  obtain ⟨rfl, rfl⟩ := hp
                  refine am_ast X 24 _ hq (by decide) rfl rfl (ix4 c14 ((bt_nI (n := j) (lo := 0) (hi := 39) (by omega)).mpr ⟨by omega, by omega⟩)) dX11_give_140 ?_
                  refine aw_iinc (lv' := [(4, _), (5, _), (3, _), (0, _), (1, _), (2, _)]) X dX11_give_141 rfl (iinc_1 _) (by decide) rfl ?_
                  refine aw_goto (tgt := 77) X dX11_give_144 rfl ?_
                  refine aw_lv [0, 2, 3, 4, 5] rfl ?_
                  have hM2 : ((sF (mo_gl (sF (sI M 0 0) 23 n.toNatClampNeg (M.2.2 3 (M.2.2 1 r.toNatClampNeg).toNatClampNeg)) n (M.2.2 1 r.toNatClampNeg) j) 24 ((40 * n) + (nI j)).toNatClampNeg (sgn ((mo_gl (sF (sI M 0 0) 23 n.toNatClampNeg (M.2.2 3 (M.2.2 1 r.toNatClampNeg).toNatClampNeg)) n (M.2.2 1 r.toNatClampNeg) j).2.2 4 (((40 * (M.2.2 1 r.toNatClampNeg)) + (nI j)) - 40).toNatClampNeg))) : MS) = mo_gl (sF (sI M 0 0) 23 n.toNatClampNeg (M.2.2 3 (M.2.2 1 r.toNatClampNeg).toNatClampNeg)) n (M.2.2 1 r.toNatClampNeg) (j + 1) := by simp only [mo_gl, c123, if_true, if_false]
                  rw [hM2]
                  exact ih (j + 1) _ (nI_1 j) (by omega) (by omega)
                · refine aw_iload X dX11_give_126 rfl ?_
                  refine aw_sipush X dX11_give_128 cs_255 ?_
                  refine aw_iand X dX11_give_131 ?_
                  refine aw_goto (tgt := 140) X dX11_give_132 rfl ?_
                  refine am_ast X 24 _ hq (by decide) rfl rfl (ix4 c14 ((bt_nI (n := j) (lo := 0) (hi := 39) (by omega)).mpr ⟨by omega, by omega⟩)) dX11_give_140 ?_
                  refine aw_iinc (lv' := [(4, _), (5, _), (3, _), (0, _), (1, _), (2, _)]) X dX11_give_141 rfl (iinc_1 _) (by decide) rfl ?_
                  refine aw_goto (tgt := 77) X dX11_give_144 rfl ?_
                  refine aw_lv [0, 2, 3, 4, 5] rfl ?_
                  have hM2 : ((sF (mo_gl (sF (sI M 0 0) 23 n.toNatClampNeg (M.2.2 3 (M.2.2 1 r.toNatClampNeg).toNatClampNeg)) n (M.2.2 1 r.toNatClampNeg) j) 24 ((40 * n) + (nI j)).toNatClampNeg (((mo_gl (sF (sI M 0 0) 23 n.toNatClampNeg (M.2.2 3 (M.2.2 1 r.toNatClampNeg).toNatClampNeg)) n (M.2.2 1 r.toNatClampNeg) j).2.2 4 (((40 * (M.2.2 1 r.toNatClampNeg)) + (nI j)) - 40).toNatClampNeg) &&& 255)) : MS) = mo_gl (sF (sI M 0 0) 23 n.toNatClampNeg (M.2.2 3 (M.2.2 1 r.toNatClampNeg).toNatClampNeg)) n (M.2.2 1 r.toNatClampNeg) (j + 1) := by simp only [mo_gl, c123, if_true, if_false]
                  rw [hM2]
                  exact ih (j + 1) _ (nI_1 j) (by omega) (by omega)
          refine aw_lv [0, 1, 2, 3, 4] rfl ?_
          exact L (N + 1) 0 _ rfl (by omega) (by omega)
        · refine aw_aload_n X dX11_give_48 rfl rfl ?_
          refine aw_iload_n X dX11_give_49 rfl rfl ?_
          refine aw_if_ne (tgt := 57) X dX11_give_50 rfl (fun c50 => ?_) (fun c50 => ?_)
          · refine aw_iconst X dX11_give_57 ci_2 ?_
            refine aw_callV X (kX11_fails _ _ _ _ hq _) okm_X11_fails okX11 mw_0 ml_X11_35 im_X11_fails se_X11_X11_fails rfl rfl (Nat.le_of_ble_eq_true rfl) ⟨Nat.le_of_ble_eq_true rfl, Nat.le_of_ble_eq_true rfl, Nat.le_of_ble_eq_true rfl, Nat.le_of_ble_eq_true rfl⟩ dX11_give_58 (fun v w2 hp => ?_)
            obtain ⟨rfl, rfl⟩ := hp
            refine RTN (some (.int _)) _ _ _ _ _ dX11_give_61 (⟨_, rfl⟩) (Nat.le_of_ble_eq_true rfl) (Nat.le_of_ble_eq_true rfl) ?_
            first | (constructor <;> ((try simp only [mo_give, c14, c21, c35, c45, c50, if_true, if_false, not_true_eq_false, not_false_eq_true, and_self, true_and, and_true, false_and, and_false, or_true, true_or, or_false, false_or, reduceCtorEq, ne_eq, va_us, pk_us]); (try with_reducible rfl); done)) | (clear RTN X; constructor <;> ((try simp_all only [mo_give, if_true, if_false, not_true_eq_false, not_false_eq_true, and_self, true_and, and_true, false_and, and_false, or_true, true_or, or_false, false_or, reduceCtorEq, ne_eq, va_us, pk_us]); (try with_reducible rfl); done)) | (constructor <;> ((try simp only [mo_give, c14, c21, c35, c45, c50, if_true, if_false, not_true_eq_false, not_false_eq_true, and_self, true_and, and_true, false_and, and_false, or_true, true_or, or_false, false_or, reduceCtorEq, ne_eq, va_us, pk_us]); (try rfl); done))
          · exact absurd c50 c35
    · rw [bI_0] at c21
      refine aw_bipush X dX11_give_24 cb_m2 ?_
      refine RTN (some (.int _)) _ _ _ _ _ dX11_give_26 (⟨_, rfl⟩) (Nat.le_of_ble_eq_true rfl) (Nat.le_of_ble_eq_true rfl) ?_
      first | (constructor <;> ((try simp only [mo_give, c14, c21, if_true, if_false, not_true_eq_false, not_false_eq_true, and_self, true_and, and_true, false_and, and_false, or_true, true_or, or_false, false_or, reduceCtorEq, ne_eq, va_us, pk_us]); (try with_reducible rfl); done)) | (clear RTN X; constructor <;> ((try simp_all only [mo_give, if_true, if_false, not_true_eq_false, not_false_eq_true, and_self, true_and, and_true, false_and, and_false, or_true, true_or, or_false, false_or, reduceCtorEq, ne_eq, va_us, pk_us]); (try with_reducible rfl); done)) | (constructor <;> ((try simp only [mo_give, c14, c21, if_true, if_false, not_true_eq_false, not_false_eq_true, and_self, true_and, and_true, false_and, and_false, or_true, true_or, or_false, false_or, reduceCtorEq, ne_eq, va_us, pk_us]); (try rfl); done))
