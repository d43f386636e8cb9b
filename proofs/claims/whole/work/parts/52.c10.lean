def rw_hf (rc : Int32) (fT : Nat → Int32) (iS : Nat → Int32) (iN : Nat → Nat) (R : Nat → Option Nat) (r k ref : Int32) : Int32 :=
  if rw_fault iS iN (R r.toNatClampNeg) 3 k = 0 then (if ms_ rc fT (iS ((R r.toNatClampNeg).getD 0)) ref = 0 then 5 else 0) else rw_fault iS iN (R r.toNatClampNeg) 3 k
theorem i5n0 : ¬ (5 : Int32) = 0 := by decide
set_option maxRecDepth 100000 in
set_option maxHeartbeats 4000000 in
theorem kX10_hold (G : GG) (l : Launch) (w : WM) (o aR aG aS aF aN aC : Nat) (cur : Option Nat) (ln rc ft sp sd lf : Int32) (hO : w o = some (.inr (11, [.ref aR, .ref aG, .ref aS, .ref aF, .ref aN, .ref aC, va_rf cur, .int ln, .int rc, .int ft, .int sp, .int sd, .int lf]))) (R : Nat → Option Nat) (hR : w aR = some (rA (gA G 4) 8 R)) (iS : Nat → Int32) (iV iN : Nat → Nat) (iF : Nat → Nat → Int32) (hI : ∀ k a, k < 8 → R k = some a → isIt G w iS iV iN iF a) (hL : ∀ a, iN a ≤ 40) (F : Nat → Option Nat) (hF : w aF = some (rA (gA G 6) 20 F)) (fA fN fS : Nat → Nat) (fU fT : Nat → Int32) (hT : ∀ k, fT k = 0 ∨ fT k = 1) (hrc : bt rc 0 20) (hfr : ∀ k : Nat, (k : Int) < rc.toInt → F k = some (fA k) ∧ w (fA k) = some (.inr (8, [.int (fU k), .ref (fN k), .int (fT k), .ref (fS k)]))) (r k ref : Int32) : MC G l yX10_hold cX10_hold 6 ((Option.some .int)) ({ frames := 3, cells := 0, slots := 0, locals := 65 } : Room) [.ref o, .int r, .int k, .int ref] w (fun v w' => (¬ (bt r 0 7 = true ∧ (ref = -1 ∨ bt ref 0 (rc - 1).toInt = true)) ∧ v = some (.int (-2)) ∧ w' = w) ∨ ((bt r 0 7 = true ∧ (ref = -1 ∨ bt ref 0 (rc - 1).toInt = true)) ∧ ((¬ rw_hf rc fT iS iN R r k ref = 0 ∧ v = some (.int ((-10) - rw_hf rc fT iS iN R r k ref)) ∧ w' = wm_up w o (oC aR aG aS aF aN aC cur ln rc ft sp sd (rw_hf rc fT iS iN R r k ref))) ∨ (rw_hf rc fT iS iN R r k ref = 0 ∧ v = some (.int 1) ∧ ∃ a, R r.toNatClampNeg = some a ∧ w' = wm_up w (iV a) (.inl (gA G 0, iN a, .inl (upd (iF a) k.toNatClampNeg ref))))))) := by
  refine mc_int (by decide) (Nat.le_of_ble_eq_true rfl) rfl rfl ?_
  intro p e s m args below meth c A H0 Q X hnm RTN
  have X : Cx G p s m args meth c A H0 cX10_hold 6 RX10 := X
  refine aw_iload_n X dX10_hold_0 rfl rfl ?_
  refine aw_callS X (kX10_isRow _ _ _ _) okm_X10_isRow ml_X10_46 st_X10_isRow rfl rfl (Nat.le_of_ble_eq_true rfl) ⟨Nat.le_of_ble_eq_true rfl, Nat.le_of_ble_eq_true rfl, Nat.le_of_ble_eq_true rfl, Nat.le_of_ble_eq_true rfl⟩ dX10_hold_1 (fun v w2 hp => ?_)
  obtain ⟨rfl, hw9⟩ := hp
  have hw9 := hw9.symm
  subst hw9
  refine aw_if_eq (tgt := 20) X dX10_hold_4 rfl (fun c4 => ?_) (fun c4 => ?_)
  · rw [bI_0] at c4
    refine aw_bipush X dX10_hold_20 cb_m2 ?_
    refine RTN (some (.int _)) _ _ _ _ _ dX10_hold_22 (⟨_, rfl⟩) (Nat.le_of_ble_eq_true rfl) (Nat.le_of_ble_eq_true rfl) ?_
    exact Or.inl ⟨fun h => c4 h.1, rfl, rfl⟩
  · rw [bI_n0] at c4
    refine aw_iload_n X dX10_hold_7 rfl rfl ?_
    refine aw_iconst X dX10_hold_8 ci_m1 ?_
    refine aw_icmp_eq (tgt := 23) X dX10_hold_9 rfl (fun c9 => ?_) (fun c9 => ?_)
    · refine aw_aload_n X dX10_hold_23 rfl rfl ?_
      refine aw_get X okX10 (k := 0) hO (Nat.le_of_ble_eq_true rfl) fl_X10_13 (Or.inl rfl) rfl dX10_hold_24 ?_
      refine aw_iload_n X dX10_hold_27 rfl rfl ?_
      refine aw_aald X 4 hR rfl (bt_vp c4 (by decide) (by decide)) dX10_hold_28 ?_
      rcases hr1 : R r.toNatClampNeg with _ | a2
      · refine aw_astoreN (lv' := [(4, _), (0, _), (1, _), (2, _), (3, _)]) X dX10_hold_29 (by decide) rfl ?_
        refine aw_aloadN X dX10_hold_31 rfl ?_
        refine aw_iconst X dX10_hold_33 ci_3 ?_
        refine aw_iload_n X dX10_hold_34 rfl rfl ?_
        refine aw_callS X (kX10_faultAt0 _ _ _ _ _) okm_X10_faultAt ml_X10_74 st_X10_faultAt rfl rfl (Nat.le_of_ble_eq_true rfl) ⟨Nat.le_of_ble_eq_true rfl, Nat.le_of_ble_eq_true rfl, Nat.le_of_ble_eq_true rfl, Nat.le_of_ble_eq_true rfl⟩ dX10_hold_35 (fun v w2 hp => ?_)
        obtain ⟨rfl, hw9⟩ := hp
        have hw9 := hw9.symm
        subst hw9
        refine aw_istore (lv' := [(5, _), (4, _), (0, _), (1, _), (2, _), (3, _)]) X dX10_hold_38 (by decide) rfl ?_
        refine aw_iload X dX10_hold_40 rfl ?_
        refine aw_if_ne (tgt := 58) X dX10_hold_42 rfl (fun c42 => ?_) (fun c42 => ?_)
        · refine aw_iload X dX10_hold_58 rfl ?_
          refine aw_if_eq (tgt := 70) X dX10_hold_60 rfl (fun c60 => ?_) (fun c60 => ?_)
          · exact absurd c60 (by decide)
          · refine aw_aload_n X dX10_hold_63 rfl rfl ?_
            refine aw_iload X dX10_hold_64 rfl ?_
            refine aw_callV X (kX10_faulted _ _ _ _ _ _ _ _ _ _ _ _ _ _ _ _ _ hO _) okm_X10_faulted okX10 hO ml_X10_54 im_X10_faulted se_X10_X10_faulted rfl rfl (Nat.le_of_ble_eq_true rfl) ⟨Nat.le_of_ble_eq_true rfl, Nat.le_of_ble_eq_true rfl, Nat.le_of_ble_eq_true rfl, Nat.le_of_ble_eq_true rfl⟩ dX10_hold_66 (fun v w2 hp => ?_)
            obtain ⟨rfl, hw3⟩ := hp
            have hk4 := (congrFun hw3 o).trans wm_ups
            have hk5 := ((congrFun hw3 aR).trans (wm_upn (Ne.symm (ne_oa hO hR)))).trans hR
            have hk6 := ((congrFun hw3 aF).trans (wm_upn (Ne.symm (ne_oa hO hF)))).trans hF
            refine RTN (some (.int _)) _ _ _ _ _ dX10_hold_69 (⟨_, rfl⟩) (Nat.le_of_ble_eq_true rfl) (Nat.le_of_ble_eq_true rfl) ?_
            have hz : rw_hf rc fT iS iN R r k ref = 1 := by simp only [rw_hf, rw_fault, i1n0, i5n0, Option.getD_some, hr1, if_true, if_false, not_true_eq_false, not_false_eq_true, and_self, true_and, and_true, false_and, and_false, or_true, true_or, or_false, false_or, reduceCtorEq, ne_eq, va_us, pk_us]
            exact Or.inr ⟨⟨c4, Or.inl c9⟩, Or.inl ⟨by rw [hz]; decide, by rw [hz], by rw [hz]; exact hw3⟩⟩
        · exact absurd c42 (by decide)
      · have hk7 := hI _ a2 (cl_lt c4 (by decide) (by decide)) hr1
        refine aw_astore (lv' := [(4, _), (0, _), (1, _), (2, _), (3, _)]) X dX10_hold_29 (by decide) rfl ?_
        refine aw_aload X dX10_hold_31 rfl ?_
        refine aw_iconst X dX10_hold_33 ci_3 ?_
        refine aw_iload_n X dX10_hold_34 rfl rfl ?_
        refine aw_callS X (kX10_faultAt _ _ _ _ _ _ _ _ hk7.1 hk7.2 _ _) okm_X10_faultAt ml_X10_74 st_X10_faultAt rfl rfl (Nat.le_of_ble_eq_true rfl) ⟨Nat.le_of_ble_eq_true rfl, Nat.le_of_ble_eq_true rfl, Nat.le_of_ble_eq_true rfl, Nat.le_of_ble_eq_true rfl⟩ dX10_hold_35 (fun v w2 hp => ?_)
        obtain ⟨rfl, hw9⟩ := hp
        have hw9 := hw9.symm
        subst hw9
        refine aw_istore (lv' := [(5, _), (4, _), (0, _), (1, _), (2, _), (3, _)]) X dX10_hold_38 (by decide) rfl ?_
        refine aw_iload X dX10_hold_40 rfl ?_
        refine aw_if_ne (tgt := 58) X dX10_hold_42 rfl (fun c42 => ?_) (fun c42 => ?_)
        · refine aw_iload X dX10_hold_58 rfl ?_
          refine aw_if_eq (tgt := 70) X dX10_hold_60 rfl (fun c60 => ?_) (fun c60 => ?_)
          · exact absurd c60 c42
          · refine aw_aload_n X dX10_hold_63 rfl rfl ?_
            refine aw_iload X dX10_hold_64 rfl ?_
            refine aw_callV X (kX10_faulted _ _ _ _ _ _ _ _ _ _ _ _ _ _ _ _ _ hO _) okm_X10_faulted okX10 hO ml_X10_54 im_X10_faulted se_X10_X10_faulted rfl rfl (Nat.le_of_ble_eq_true rfl) ⟨Nat.le_of_ble_eq_true rfl, Nat.le_of_ble_eq_true rfl, Nat.le_of_ble_eq_true rfl, Nat.le_of_ble_eq_true rfl⟩ dX10_hold_66 (fun v w2 hp => ?_)
            obtain ⟨rfl, hw8⟩ := hp
            have hk9 := (congrFun hw8 o).trans wm_ups
            have hk10 := ((congrFun hw8 aR).trans (wm_upn (Ne.symm (ne_oa hO hR)))).trans hR
            have hk11 := ((congrFun hw8 aF).trans (wm_upn (Ne.symm (ne_oa hO hF)))).trans hF
            have hk12 := ((congrFun hw8 a2).trans (wm_upn (ne_ci hk7.1 hO (by decide)))).trans hk7.1
            have hk13 := ((congrFun hw8 (iV a2)).trans (wm_upn (Ne.symm (ne_oa hO hk7.2)))).trans hk7.2
            refine RTN (some (.int _)) _ _ _ _ _ dX10_hold_69 (⟨_, rfl⟩) (Nat.le_of_ble_eq_true rfl) (Nat.le_of_ble_eq_true rfl) ?_
            have hz : rw_hf rc fT iS iN R r k ref = it_fault (iS a2) (iN a2) 3 k := by simp only [rw_hf, rw_fault, i1n0, i5n0, Option.getD_some, hr1, c42, if_true, if_false, not_true_eq_false, not_false_eq_true, and_self, true_and, and_true, false_and, and_false, or_true, true_or, or_false, false_or, reduceCtorEq, ne_eq, va_us, pk_us]
            exact Or.inr ⟨⟨c4, Or.inl c9⟩, Or.inl ⟨by rw [hz]; exact c42, by rw [hz], by rw [hz]; exact hw8⟩⟩
        · refine aw_aload_n X dX10_hold_45 rfl rfl ?_
          refine aw_aload X dX10_hold_46 rfl ?_
          refine aw_iload_n X dX10_hold_48 rfl rfl ?_
          refine aw_callV X (kX10_mayStore _ _ _ _ _ _ _ _ _ _ _ _ _ _ _ _ _ hO _ hF _ _ _ _ _ hT hrc hfr _ _ 0 _ (fun _ => 0) hk7.1 _) okm_X10_mayStore okX10 hO ml_X10_78 im_X10_mayStore se_X10_X10_mayStore rfl rfl (Nat.le_of_ble_eq_true rfl) ⟨Nat.le_of_ble_eq_true rfl, Nat.le_of_ble_eq_true rfl, Nat.le_of_ble_eq_true rfl, Nat.le_of_ble_eq_true rfl⟩ dX10_hold_49 (fun v w2 hp => ?_)
          obtain ⟨rfl, hw9⟩ := hp
          have hw9 := hw9.symm
          subst hw9
          refine aw_if_ne (tgt := 58) X dX10_hold_52 rfl (fun c52 => ?_) (fun c52 => ?_)
          · refine aw_iload X dX10_hold_58 rfl ?_
            refine aw_if_eq (tgt := 70) X dX10_hold_60 rfl (fun c60 => ?_) (fun c60 => ?_)
            · refine aw_aload X dX10_hold_70 rfl ?_
              refine aw_get X okX2 (k := 1) hk7.1 (Nat.le_of_ble_eq_true rfl) fl_X10_65 (Or.inl rfl) rfl dX10_hold_72 ?_
              refine aw_iload_n X dX10_hold_75 rfl rfl ?_
              refine aw_iload_n X dX10_hold_76 rfl rfl ?_
              refine aw_iast2 X hk7.2 (has_vp (show iN a2 < 2 ^ 31 by have := hL a2; omega) (fault_has c42).2) dX10_hold_77 (fun w14 hk15 hn16 he17 => ?_)
              refine aw_iconst X dX10_hold_78 ci_1 ?_
              refine RTN (some (.int _)) _ _ _ _ _ dX10_hold_79 (⟨_, rfl⟩) (Nat.le_of_ble_eq_true rfl) (Nat.le_of_ble_eq_true rfl) ?_
              have hz : rw_hf rc fT iS iN R r k ref = 0 := by simp only [rw_hf, rw_fault, i1n0, i5n0, Option.getD_some, hr1, (eq_true c42), c52, if_true, if_false, not_true_eq_false, not_false_eq_true, and_self, true_and, and_true, false_and, and_false, or_true, true_or, or_false, false_or, reduceCtorEq, ne_eq, va_us, pk_us]
              exact Or.inr ⟨⟨c4, Or.inl c9⟩, Or.inr ⟨hz, rfl, _, hr1, he17⟩⟩
            · exact absurd c42 c60
          · refine aw_iconst X dX10_hold_55 ci_5 ?_
            refine aw_istore (lv' := [(5, _), (4, _), (0, _), (1, _), (2, _), (3, _)]) X dX10_hold_56 (by decide) rfl ?_
            refine aw_iload X dX10_hold_58 rfl ?_
            refine aw_if_eq (tgt := 70) X dX10_hold_60 rfl (fun c60 => ?_) (fun c60 => ?_)
            · exact absurd c60 (by decide)
            · refine aw_aload_n X dX10_hold_63 rfl rfl ?_
              refine aw_iload X dX10_hold_64 rfl ?_
              refine aw_callV X (kX10_faulted _ _ _ _ _ _ _ _ _ _ _ _ _ _ _ _ _ hO _) okm_X10_faulted okX10 hO ml_X10_54 im_X10_faulted se_X10_X10_faulted rfl rfl (Nat.le_of_ble_eq_true rfl) ⟨Nat.le_of_ble_eq_true rfl, Nat.le_of_ble_eq_true rfl, Nat.le_of_ble_eq_true rfl, Nat.le_of_ble_eq_true rfl⟩ dX10_hold_66 (fun v w2 hp => ?_)
              obtain ⟨rfl, hw18⟩ := hp
              have hk19 := (congrFun hw18 o).trans wm_ups
              have hk20 := ((congrFun hw18 aR).trans (wm_upn (Ne.symm (ne_oa hO hR)))).trans hR
              have hk21 := ((congrFun hw18 aF).trans (wm_upn (Ne.symm (ne_oa hO hF)))).trans hF
              have hk22 := ((congrFun hw18 a2).trans (wm_upn (ne_ci hk7.1 hO (by decide)))).trans hk7.1
              have hk23 := ((congrFun hw18 (iV a2)).trans (wm_upn (Ne.symm (ne_oa hO hk7.2)))).trans hk7.2
              refine RTN (some (.int _)) _ _ _ _ _ dX10_hold_69 (⟨_, rfl⟩) (Nat.le_of_ble_eq_true rfl) (Nat.le_of_ble_eq_true rfl) ?_
              have hz : rw_hf rc fT iS iN R r k ref = 5 := by simp only [rw_hf, rw_fault, i1n0, i5n0, Option.getD_some, hr1, (eq_true c42), (eq_true c52), if_true, if_false, not_true_eq_false, not_false_eq_true, and_self, true_and, and_true, false_and, and_false, or_true, true_or, or_false, false_or, reduceCtorEq, ne_eq, va_us, pk_us]
              exact Or.inr ⟨⟨c4, Or.inl c9⟩, Or.inl ⟨by rw [hz]; decide, by rw [hz], by rw [hz]; exact hw18⟩⟩
    · refine aw_aload_n X dX10_hold_12 rfl rfl ?_
      refine aw_iload_n X dX10_hold_13 rfl rfl ?_
      refine aw_callV X (kX10_isReference _ _ _ _ _ _ _ _ _ _ _ _ _ _ _ _ _ hO _) okm_X10_isReference okX10 hO ml_X10_71 im_X10_isReference se_X10_X10_isReference rfl rfl (Nat.le_of_ble_eq_true rfl) ⟨Nat.le_of_ble_eq_true rfl, Nat.le_of_ble_eq_true rfl, Nat.le_of_ble_eq_true rfl, Nat.le_of_ble_eq_true rfl⟩ dX10_hold_14 (fun v w2 hp => ?_)
      obtain ⟨rfl, hw9⟩ := hp
      have hw9 := hw9.symm
      subst hw9
      refine aw_if_ne (tgt := 23) X dX10_hold_17 rfl (fun c17 => ?_) (fun c17 => ?_)
      · rw [bI_n0] at c17
        refine aw_aload_n X dX10_hold_23 rfl rfl ?_
        refine aw_get X okX10 (k := 0) hO (Nat.le_of_ble_eq_true rfl) fl_X10_13 (Or.inl rfl) rfl dX10_hold_24 ?_
        refine aw_iload_n X dX10_hold_27 rfl rfl ?_
        refine aw_aald X 4 hR rfl (bt_vp c4 (by decide) (by decide)) dX10_hold_28 ?_
        rcases hr24 : R r.toNatClampNeg with _ | a25
        · refine aw_astoreN (lv' := [(4, _), (0, _), (1, _), (2, _), (3, _)]) X dX10_hold_29 (by decide) rfl ?_
          refine aw_aloadN X dX10_hold_31 rfl ?_
          refine aw_iconst X dX10_hold_33 ci_3 ?_
          refine aw_iload_n X dX10_hold_34 rfl rfl ?_
          refine aw_callS X (kX10_faultAt0 _ _ _ _ _) okm_X10_faultAt ml_X10_74 st_X10_faultAt rfl rfl (Nat.le_of_ble_eq_true rfl) ⟨Nat.le_of_ble_eq_true rfl, Nat.le_of_ble_eq_true rfl, Nat.le_of_ble_eq_true rfl, Nat.le_of_ble_eq_true rfl⟩ dX10_hold_35 (fun v w2 hp => ?_)
          obtain ⟨rfl, hw9⟩ := hp
          have hw9 := hw9.symm
          subst hw9
          refine aw_istore (lv' := [(5, _), (4, _), (0, _), (1, _), (2, _), (3, _)]) X dX10_hold_38 (by decide) rfl ?_
          refine aw_iload X dX10_hold_40 rfl ?_
          refine aw_if_ne (tgt := 58) X dX10_hold_42 rfl (fun c42 => ?_) (fun c42 => ?_)
          · refine aw_iload X dX10_hold_58 rfl ?_
            refine aw_if_eq (tgt := 70) X dX10_hold_60 rfl (fun c60 => ?_) (fun c60 => ?_)
            · exact absurd c60 (by decide)
            · refine aw_aload_n X dX10_hold_63 rfl rfl ?_
              refine aw_iload X dX10_hold_64 rfl ?_
              refine aw_callV X (kX10_faulted _ _ _ _ _ _ _ _ _ _ _ _ _ _ _ _ _ hO _) okm_X10_faulted okX10 hO ml_X10_54 im_X10_faulted se_X10_X10_faulted rfl rfl (Nat.le_of_ble_eq_true rfl) ⟨Nat.le_of_ble_eq_true rfl, Nat.le_of_ble_eq_true rfl, Nat.le_of_ble_eq_true rfl, Nat.le_of_ble_eq_true rfl⟩ dX10_hold_66 (fun v w2 hp => ?_)
              obtain ⟨rfl, hw26⟩ := hp
              have hk27 := (congrFun hw26 o).trans wm_ups
              have hk28 := ((congrFun hw26 aR).trans (wm_upn (Ne.symm (ne_oa hO hR)))).trans hR
              have hk29 := ((congrFun hw26 aF).trans (wm_upn (Ne.symm (ne_oa hO hF)))).trans hF
              refine RTN (some (.int _)) _ _ _ _ _ dX10_hold_69 (⟨_, rfl⟩) (Nat.le_of_ble_eq_true rfl) (Nat.le_of_ble_eq_true rfl) ?_
              have hz : rw_hf rc fT iS iN R r k ref = 1 := by simp only [rw_hf, rw_fault, i1n0, i5n0, Option.getD_some, hr24, if_true, if_false, not_true_eq_false, not_false_eq_true, and_self, true_and, and_true, false_and, and_false, or_true, true_or, or_false, false_or, reduceCtorEq, ne_eq, va_us, pk_us]
              exact Or.inr ⟨⟨c4, Or.inr c17⟩, Or.inl ⟨by rw [hz]; decide, by rw [hz], by rw [hz]; exact hw26⟩⟩
          · exact absurd c42 (by decide)
        · have hk30 := hI _ a25 (cl_lt c4 (by decide) (by decide)) hr24
          refine aw_astore (lv' := [(4, _), (0, _), (1, _), (2, _), (3, _)]) X dX10_hold_29 (by decide) rfl ?_
          refine aw_aload X dX10_hold_31 rfl ?_
          refine aw_iconst X dX10_hold_33 ci_3 ?_
          refine aw_iload_n X dX10_hold_34 rfl rfl ?_
          refine aw_callS X (kX10_faultAt _ _ _ _ _ _ _ _ hk30.1 hk30.2 _ _) okm_X10_faultAt ml_X10_74 st_X10_faultAt rfl rfl (Nat.le_of_ble_eq_true rfl) ⟨Nat.le_of_ble_eq_true rfl, Nat.le_of_ble_eq_true rfl, Nat.le_of_ble_eq_true rfl, Nat.le_of_ble_eq_true rfl⟩ dX10_hold_35 (fun v w2 hp => ?_)
          obtain ⟨rfl, hw9⟩ := hp
          have hw9 := hw9.symm
          subst hw9
          refine aw_istore (lv' := [(5, _), (4, _), (0, _), (1, _), (2, _), (3, _)]) X dX10_hold_38 (by decide) rfl ?_
          refine aw_iload X dX10_hold_40 rfl ?_
          refine aw_if_ne (tgt := 58) X dX10_hold_42 rfl (fun c42 => ?_) (fun c42 => ?_)
          · refine aw_iload X dX10_hold_58 rfl ?_
            refine aw_if_eq (tgt := 70) X dX10_hold_60 rfl (fun c60 => ?_) (fun c60 => ?_)
            · exact absurd c60 c42
            · refine aw_aload_n X dX10_hold_63 rfl rfl ?_
              refine aw_iload X dX10_hold_64 rfl ?_
              refine aw_callV X (kX10_faulted _ _ _ _ _ _ _ _ _ _ _ _ _ _ _ _ _ hO _) okm_X10_faulted okX10 hO ml_X10_54 im_X10_faulted se_X10_X10_faulted rfl rfl (Nat.le_of_ble_eq_true rfl) ⟨Nat.le_of_ble_eq_true rfl, Nat.le_of_ble_eq_true rfl, Nat.le_of_ble_eq_true rfl, Nat.le_of_ble_eq_true rfl⟩ dX10_hold_66 (fun v w2 hp => ?_)
              obtain ⟨rfl, hw31⟩ := hp
              have hk32 := (congrFun hw31 o).trans wm_ups
              have hk33 := ((congrFun hw31 aR).trans (wm_upn (Ne.symm (ne_oa hO hR)))).trans hR
              have hk34 := ((congrFun hw31 aF).trans (wm_upn (Ne.symm (ne_oa hO hF)))).trans hF
              have hk35 := ((congrFun hw31 a25).trans (wm_upn (ne_ci hk30.1 hO (by decide)))).trans hk30.1
              have hk36 := ((congrFun hw31 (iV a25)).trans (wm_upn (Ne.symm (ne_oa hO hk30.2)))).trans hk30.2
              refine RTN (some (.int _)) _ _ _ _ _ dX10_hold_69 (⟨_, rfl⟩) (Nat.le_of_ble_eq_true rfl) (Nat.le_of_ble_eq_true rfl) ?_
              have hz : rw_hf rc fT iS iN R r k ref = it_fault (iS a25) (iN a25) 3 k := by simp only [rw_hf, rw_fault, i1n0, i5n0, Option.getD_some, hr24, c42, if_true, if_false, not_true_eq_false, not_false_eq_true, and_self, true_and, and_true, false_and, and_false, or_true, true_or, or_false, false_or, reduceCtorEq, ne_eq, va_us, pk_us]
              exact Or.inr ⟨⟨c4, Or.inr c17⟩, Or.inl ⟨by rw [hz]; exact c42, by rw [hz], by rw [hz]; exact hw31⟩⟩
          · refine aw_aload_n X dX10_hold_45 rfl rfl ?_
            refine aw_aload X dX10_hold_46 rfl ?_
            refine aw_iload_n X dX10_hold_48 rfl rfl ?_
            refine aw_callV X (kX10_mayStore _ _ _ _ _ _ _ _ _ _ _ _ _ _ _ _ _ hO _ hF _ _ _ _ _ hT hrc hfr _ _ 0 _ (fun _ => 0) hk30.1 _) okm_X10_mayStore okX10 hO ml_X10_78 im_X10_mayStore se_X10_X10_mayStore rfl rfl (Nat.le_of_ble_eq_true rfl) ⟨Nat.le_of_ble_eq_true rfl, Nat.le_of_ble_eq_true rfl, Nat.le_of_ble_eq_true rfl, Nat.le_of_ble_eq_true rfl⟩ dX10_hold_49 (fun v w2 hp => ?_)
            obtain ⟨rfl, hw9⟩ := hp
            have hw9 := hw9.symm
            subst hw9
            refine aw_if_ne (tgt := 58) X dX10_hold_52 rfl (fun c52 => ?_) (fun c52 => ?_)
            · refine aw_iload X dX10_hold_58 rfl ?_
              refine aw_if_eq (tgt := 70) X dX10_hold_60 rfl (fun c60 => ?_) (fun c60 => ?_)
              · refine aw_aload X dX10_hold_70 rfl ?_
                refine aw_get X okX2 (k := 1) hk30.1 (Nat.le_of_ble_eq_true rfl) fl_X10_65 (Or.inl rfl) rfl dX10_hold_72 ?_
                refine aw_iload_n X dX10_hold_75 rfl rfl ?_
                refine aw_iload_n X dX10_hold_76 rfl rfl ?_
                refine aw_iast2 X hk30.2 (has_vp (show iN a25 < 2 ^ 31 by have := hL a25; omega) (fault_has c42).2) dX10_hold_77 (fun w37 hk38 hn39 he40 => ?_)
                refine aw_iconst X dX10_hold_78 ci_1 ?_
                refine RTN (some (.int _)) _ _ _ _ _ dX10_hold_79 (⟨_, rfl⟩) (Nat.le_of_ble_eq_true rfl) (Nat.le_of_ble_eq_true rfl) ?_
                have hz : rw_hf rc fT iS iN R r k ref = 0 := by simp only [rw_hf, rw_fault, i1n0, i5n0, Option.getD_some, hr24, (eq_true c42), c52, if_true, if_false, not_true_eq_false, not_false_eq_true, and_self, true_and, and_true, false_and, and_false, or_true, true_or, or_false, false_or, reduceCtorEq, ne_eq, va_us, pk_us]
                exact Or.inr ⟨⟨c4, Or.inr c17⟩, Or.inr ⟨hz, rfl, _, hr24, he40⟩⟩
              · exact absurd c42 c60
            · refine aw_iconst X dX10_hold_55 ci_5 ?_
              refine aw_istore (lv' := [(5, _), (4, _), (0, _), (1, _), (2, _), (3, _)]) X dX10_hold_56 (by decide) rfl ?_
              refine aw_iload X dX10_hold_58 rfl ?_
              refine aw_if_eq (tgt := 70) X dX10_hold_60 rfl (fun c60 => ?_) (fun c60 => ?_)
              · exact absurd c60 (by decide)
              · refine aw_aload_n X dX10_hold_63 rfl rfl ?_
                refine aw_iload X dX10_hold_64 rfl ?_
                refine aw_callV X (kX10_faulted _ _ _ _ _ _ _ _ _ _ _ _ _ _ _ _ _ hO _) okm_X10_faulted okX10 hO ml_X10_54 im_X10_faulted se_X10_X10_faulted rfl rfl (Nat.le_of_ble_eq_true rfl) ⟨Nat.le_of_ble_eq_true rfl, Nat.le_of_ble_eq_true rfl, Nat.le_of_ble_eq_true rfl, Nat.le_of_ble_eq_true rfl⟩ dX10_hold_66 (fun v w2 hp => ?_)
                obtain ⟨rfl, hw41⟩ := hp
                have hk42 := (congrFun hw41 o).trans wm_ups
                have hk43 := ((congrFun hw41 aR).trans (wm_upn (Ne.symm (ne_oa hO hR)))).trans hR
                have hk44 := ((congrFun hw41 aF).trans (wm_upn (Ne.symm (ne_oa hO hF)))).trans hF
                have hk45 := ((congrFun hw41 a25).trans (wm_upn (ne_ci hk30.1 hO (by decide)))).trans hk30.1
                have hk46 := ((congrFun hw41 (iV a25)).trans (wm_upn (Ne.symm (ne_oa hO hk30.2)))).trans hk30.2
                refine RTN (some (.int _)) _ _ _ _ _ dX10_hold_69 (⟨_, rfl⟩) (Nat.le_of_ble_eq_true rfl) (Nat.le_of_ble_eq_true rfl) ?_
                have hz : rw_hf rc fT iS iN R r k ref = 5 := by simp only [rw_hf, rw_fault, i1n0, i5n0, Option.getD_some, hr24, (eq_true c42), (eq_true c52), if_true, if_false, not_true_eq_false, not_false_eq_true, and_self, true_and, and_true, false_and, and_false, or_true, true_or, or_false, false_or, reduceCtorEq, ne_eq, va_us, pk_us]
                exact Or.inr ⟨⟨c4, Or.inr c17⟩, Or.inl ⟨by rw [hz]; decide, by rw [hz], by rw [hz]; exact hw41⟩⟩
      · rw [bI_0] at c17
        refine aw_bipush X dX10_hold_20 cb_m2 ?_
        refine RTN (some (.int _)) _ _ _ _ _ dX10_hold_22 (⟨_, rfl⟩) (Nat.le_of_ble_eq_true rfl) (Nat.le_of_ble_eq_true rfl) ?_
        exact Or.inl ⟨fun h => h.2.elim c9 c17, rfl, rfl⟩
