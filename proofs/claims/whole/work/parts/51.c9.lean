set_option maxRecDepth 100000 in
set_option maxHeartbeats 4000000 in
theorem kX10_row (G : GG) (l : Launch) (w : WM) (o aR aG aS aF aN aC : Nat) (cur : Option Nat) (ln rc ft sp sd lf : Int32) (hO : w o = some (.inr (11, [.ref aR, .ref aG, .ref aS, .ref aF, .ref aN, .ref aC, va_rf cur, .int ln, .int rc, .int ft, .int sp, .int sd, .int lf]))) (R : Nat → Option Nat) (hR : w aR = some (rA (gA G 4) 8 R)) (r sort n : Int32) : MC G l yX10_row cX10_row 4 ((Option.some .int)) ({ frames := 2, cells := 2, slots := 42, locals := 43 } : Room) [.ref o, .int r, .int sort, .int n] w (fun v w' => ((¬ bt r 0 7 = true ∧ v = some (.int (-2)) ∧ w' = w) ∨ (bt r 0 7 = true ∧ ((¬ bt sort 0 4 = true ∧ v = some (.int (-3)) ∧ w' = w) ∨ (bt sort 0 4 = true ∧ ((sort = 0 ∧ v = some (.int 1) ∧ w' = wm_up w aR (rA (gA G 4) 8 (va_up R r.toNatClampNeg none))) ∨ (¬ sort = 0 ∧ ((¬ n ≤ 40 ∧ v = some (.int (-3)) ∧ w' = w) ∨ (n ≤ 40 ∧ ((¬ 0 ≤ n ∧ v = some (.int ((-10) - 4)) ∧ w' = wm_up w o (oC aR aG aS aF aN aC cur ln rc ft sp sd 4)) ∨ (0 ≤ n ∧ v = some (.int 1) ∧ ∃ q va : Nat, w q = none ∧ w va = none ∧ q ≠ va ∧ w' aR = some (rA (gA G 4) 8 (va_up R r.toNatClampNeg (some q))) ∧ w' q = some (.inr (4, [.int sort, .ref va])) ∧ w' va = some (.inl (gA G 0, n.toNatClampNeg, .inl (it_new sort n.toNatClampNeg))) ∧ ∀ b, b ≠ aR → b ≠ q → b ≠ va → w' b = w b))))))))))) := by
  refine mc_int (by decide) (Nat.le_of_ble_eq_true rfl) rfl rfl ?_
  intro p e s m args below meth c A H0 Q X hnm RTN
  have X : Cx G p s m args meth c A H0 cX10_row 4 RX10 := X
  refine aw_iload_n X dX10_row_0 rfl rfl ?_
  refine aw_callS X (kX10_isRow _ _ _ _) okm_X10_isRow ml_X10_46 st_X10_isRow rfl rfl (Nat.le_of_ble_eq_true rfl) ⟨Nat.le_of_ble_eq_true rfl, Nat.le_of_ble_eq_true rfl, Nat.le_of_ble_eq_true rfl, Nat.le_of_ble_eq_true rfl⟩ dX10_row_1 (fun v w2 hp => ?_)
  obtain ⟨rfl, hw9⟩ := hp
  have hw9 := hw9.symm
  subst hw9
  refine aw_if_ne (tgt := 10) X dX10_row_4 rfl (fun c4 => ?_) (fun c4 => ?_)
  · rw [bI_n0] at c4
    refine aw_iload_n X dX10_row_10 rfl rfl ?_
    refine aw_iconst X dX10_row_11 ci_0 ?_
    refine aw_iconst X dX10_row_12 ci_4 ?_
    refine aw_callS X (kX10_within _ _ _ _ _ _ 0 4 rfl rfl) okm_X10_within ml_X10_50 st_X10_within rfl rfl (Nat.le_of_ble_eq_true rfl) ⟨Nat.le_of_ble_eq_true rfl, Nat.le_of_ble_eq_true rfl, Nat.le_of_ble_eq_true rfl, Nat.le_of_ble_eq_true rfl⟩ dX10_row_13 (fun v w2 hp => ?_)
    obtain ⟨rfl, hw9⟩ := hp
    have hw9 := hw9.symm
    subst hw9
    refine aw_if_ne (tgt := 22) X dX10_row_16 rfl (fun c16 => ?_) (fun c16 => ?_)
    · rw [bI_n0] at c16
      refine aw_iload_n X dX10_row_22 rfl rfl ?_
      refine aw_if_ne (tgt := 35) X dX10_row_23 rfl (fun c23 => ?_) (fun c23 => ?_)
      · refine aw_iload_n X dX10_row_35 rfl rfl ?_
        refine aw_bipush X dX10_row_36 cb_40 ?_
        refine aw_icmp_le (tgt := 44) X dX10_row_38 rfl (fun c38 => ?_) (fun c38 => ?_)
        · refine aw_iload_n X dX10_row_44 rfl rfl ?_
          refine aw_if_ge (tgt := 54) X dX10_row_45 rfl (fun c45 => ?_) (fun c45 => ?_)
          · obtain ⟨N, hNe, hNi⟩ : ∃ N : Nat, n = nI N ∧ (N : Int) = n.toInt := ⟨n.toNatClampNeg, (nI_cl (by rw [i32_le] at c45; exact c45)).symm, cl_toInt (by rw [i32_le] at c45; exact c45)⟩
            have hN40 : N ≤ 40 := by rw [i32_le] at c38; have e40 : (40 : Int32).toInt = 40 := rfl; omega
            have hNc : n.toNatClampNeg = N := by rw [hNe]; exact nI_clamp (by omega)
            rw [hNc] at RTN
            subst hNe
            refine aw_aload_n X dX10_row_54 rfl rfl ?_
            refine aw_get X okX10 (k := 0) hO (Nat.le_of_ble_eq_true rfl) fl_X10_13 (Or.inl rfl) rfl dX10_row_55 ?_
            refine aw_iload_n X dX10_row_58 rfl rfl ?_
            refine aw_new2 X okX2 cl_X10_11 is_X2 in_X2 rfl (Nat.le_of_ble_eq_true rfl) (Nat.le_of_ble_eq_true rfl) dX10_row_59 (fun q1 w2 hf3 hk4 hn5 he6 => ?_)
            have hk7 := (hn5 _ (ne_fr hO hf3)).trans hO
            have hk8 := (hn5 _ (ne_fr hR hf3)).trans hR
            refine aw_dup X dX10_row_62 rfl ?_
            refine aw_iload_n X dX10_row_63 rfl rfl ?_
            refine aw_iload_n X dX10_row_64 rfl rfl ?_
            refine aw_callI X (kX2_init _ _ _ q1 N _ hN40 hk4) okm_X2_init rfl ml_X10_58 im_X2_init rfl rfl (Nat.le_of_ble_eq_true rfl) ⟨Nat.le_of_ble_eq_true rfl, Nat.le_of_ble_eq_true rfl, Nat.le_of_ble_eq_true rfl, Nat.le_of_ble_eq_true rfl⟩ dX10_row_65 (fun v w2 hp => ?_)
            obtain ⟨rfl, va9, hf10, hk11, hk12, hb13⟩ := hp
            have hk14 := (hb13 o (ne_ci hk7 hk4 (by decide)) (ne_fr hk7 hf10)).trans hk7
            have hk15 := (hb13 aR (Ne.symm (ne_oa hk4 hk8)) (ne_fr hk8 hf10)).trans hk8
            refine aw_aast2 X 4 okX2 hk15 rfl hk11 (bt_vp c4 (by decide) (by decide)) dX10_row_68 (fun w16 hk17 hn18 he19 => ?_)
            have hk20 := (hn18 _ (ne_oa hk14 hk15)).trans hk14
            have hk21 := (hn18 _ (ne_oa hk11 hk15)).trans hk11
            have hk22 := (hn18 _ (ne_ar hk12 hk15)).trans hk12
            refine aw_iconst X dX10_row_69 ci_1 ?_
            refine RTN (some (.int _)) _ _ _ _ _ dX10_row_70 (⟨_, rfl⟩) (Nat.le_of_ble_eq_true rfl) (Nat.le_of_ble_eq_true rfl) ?_
            have hqv : q1 ≠ va9 := ne_fr hk4 hf10
            have hv0 : w va9 = none := by have h := hf10; rw [he6, wm_upn (Ne.symm hqv)] at h; exact h
            exact Or.inr ⟨c4, Or.inr ⟨c16, Or.inr ⟨c23, Or.inr ⟨c38, Or.inr ⟨c45, rfl, q1, va9, hf3, hv0, hqv, hk17, hk21, hk22, fun b h1 h2 h3 => by rw [he19, wm_upn h1, hb13 b h2 h3, he6, wm_upn h2]⟩⟩⟩⟩⟩
          · refine aw_aload_n X dX10_row_48 rfl rfl ?_
            refine aw_iconst X dX10_row_49 ci_4 ?_
            refine aw_callV X (kX10_faulted _ _ _ _ _ _ _ _ _ _ _ _ _ _ _ _ _ hO _) okm_X10_faulted okX10 hO ml_X10_54 im_X10_faulted se_X10_X10_faulted rfl rfl (Nat.le_of_ble_eq_true rfl) ⟨Nat.le_of_ble_eq_true rfl, Nat.le_of_ble_eq_true rfl, Nat.le_of_ble_eq_true rfl, Nat.le_of_ble_eq_true rfl⟩ dX10_row_50 (fun v w2 hp => ?_)
            obtain ⟨rfl, hw23⟩ := hp
            have hk24 := (congrFun hw23 o).trans wm_ups
            have hk25 := ((congrFun hw23 aR).trans (wm_upn (Ne.symm (ne_oa hO hR)))).trans hR
            refine RTN (some (.int _)) _ _ _ _ _ dX10_row_53 (⟨_, rfl⟩) (Nat.le_of_ble_eq_true rfl) (Nat.le_of_ble_eq_true rfl) ?_
            exact Or.inr ⟨c4, Or.inr ⟨c16, Or.inr ⟨c23, Or.inr ⟨c38, Or.inl ⟨c45, rfl, hw23⟩⟩⟩⟩⟩
        · refine aw_bipush X dX10_row_41 cb_m3 ?_
          refine RTN (some (.int _)) _ _ _ _ _ dX10_row_43 (⟨_, rfl⟩) (Nat.le_of_ble_eq_true rfl) (Nat.le_of_ble_eq_true rfl) ?_
          exact Or.inr ⟨c4, Or.inr ⟨c16, Or.inr ⟨c23, Or.inl ⟨c38, rfl, rfl⟩⟩⟩⟩
      · refine aw_aload_n X dX10_row_26 rfl rfl ?_
        refine aw_get X okX10 (k := 0) hO (Nat.le_of_ble_eq_true rfl) fl_X10_13 (Or.inl rfl) rfl dX10_row_27 ?_
        refine aw_iload_n X dX10_row_30 rfl rfl ?_
        refine aw_null X dX10_row_31 ?_
        refine aw_aastN2 X 4 hR rfl (bt_vp c4 (by decide) (by decide)) dX10_row_32 (fun w26 hk27 hn28 he29 => ?_)
        have hk30 := (hn28 _ (ne_oa hO hR)).trans hO
        refine aw_iconst X dX10_row_33 ci_1 ?_
        refine RTN (some (.int _)) _ _ _ _ _ dX10_row_34 (⟨_, rfl⟩) (Nat.le_of_ble_eq_true rfl) (Nat.le_of_ble_eq_true rfl) ?_
        exact Or.inr ⟨c4, Or.inr ⟨c16, Or.inl ⟨c23, rfl, he29⟩⟩⟩
    · rw [bI_0] at c16
      refine aw_bipush X dX10_row_19 cb_m3 ?_
      refine RTN (some (.int _)) _ _ _ _ _ dX10_row_21 (⟨_, rfl⟩) (Nat.le_of_ble_eq_true rfl) (Nat.le_of_ble_eq_true rfl) ?_
      exact Or.inr ⟨c4, Or.inl ⟨c16, rfl, rfl⟩⟩
  · rw [bI_0] at c4
    refine aw_bipush X dX10_row_7 cb_m2 ?_
    refine RTN (some (.int _)) _ _ _ _ _ dX10_row_9 (⟨_, rfl⟩) (Nat.le_of_ble_eq_true rfl) (Nat.le_of_ble_eq_true rfl) ?_
    exact Or.inl ⟨c4, rfl, rfl⟩
