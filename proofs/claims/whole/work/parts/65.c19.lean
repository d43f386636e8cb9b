/-! pane, memory, resource -/
theorem fn_match {f g : Nat → Int32} (h : ∀ j, j < 11 → f j = g j) (h2 : ∀ j, f (j + 11) = g (j + 11)) : f = g := by
  funext j
  by_cases hj : j < 11
  · exact h j hj
  · have := h2 (j - 11)
    rwa [Nat.sub_add_cancel (by omega)] at this
theorem pF {x : Int32} {G0 : Nat → Int32} (h : ∀ j, G0 j = (match j with | 0 => 0 | 1 => 1 | 2 => 1 | 3 => x | _ => 0)) : upd (fun k => if k = 1 then 1 else if k = 2 then 1 else 0) 3 x = G0 := by
  funext j
  rw [h j]
  match j with
  | 0 => rfl
  | 1 => rfl
  | 2 => rfl
  | 3 => rfl
  | j + 4 =>
    rw [upd_n (by omega)]
    show (if j + 4 = 1 then (1 : Int32) else if j + 4 = 2 then 1 else 0) = 0
    rw [if_neg (by omega), if_neg (by omega)]
theorem mF {md wd n x : Int32} {G0 : Nat → Int32} (h : ∀ j, G0 j = (match j with | 0 => 1 | 1 => md | 2 => wd | 3 => x | 9 => n | _ => 0)) : upd (fun k => if k = 0 then 1 else if k = 1 then md else if k = 2 then wd else if k = 9 then n else 0) 3 x = G0 := by
  funext j
  rw [h j]
  match j with
  | 0 => rfl
  | 1 => rfl
  | 2 => rfl
  | 3 => rfl
  | 4 => rfl
  | 5 => rfl
  | 6 => rfl
  | 7 => rfl
  | 8 => rfl
  | 9 => rfl
  | j + 10 =>
    rw [upd_n (by omega)]
    show (if j + 10 = 0 then (1 : Int32) else if j + 10 = 1 then md else if j + 10 = 2 then wd else if j + 10 = 9 then n else 0) = 0
    rw [if_neg (by omega), if_neg (by omega), if_neg (by omega), if_neg (by omega)]
theorem rF {wd x : Int32} {G0 : Nat → Int32} (h : ∀ j, G0 j = (match j with | 0 => 3 | 1 => 2 | 2 => wd | 3 => x | _ => 0)) : upd (fun k => if k = 0 then 3 else if k = 1 then 2 else if k = 2 then wd else 0) 3 x = G0 := by
  funext j
  rw [h j]
  match j with
  | 0 => rfl
  | 1 => rfl
  | 2 => rfl
  | 3 => rfl
  | j + 4 =>
    rw [upd_n (by omega)]
    show (if j + 4 = 0 then (3 : Int32) else if j + 4 = 1 then 2 else if j + 4 = 2 then wd else 0) = 0
    rw [if_neg (by omega), if_neg (by omega), if_neg (by omega)]
theorem mt_rest {kd md wd x pl y0 z9 : Int32} {F0 : Nat → Int32} (h : ∀ j, F0 j = (match j with | 0 => kd | 1 => md | 2 => wd | 3 => x | 4 => pl | 9 => z9 | _ => 0)) : (fun j => match j with
  | 0 => kd
  | 1 => md
  | 2 => wd
  | 3 => x
  | 4 => pl
  | 5 => 0
  | 6 => 0
  | 9 => z9
  | 10 => 0
  | _ => 0) = F0 := by
  funext j
  rw [h j]
  match j with
  | 0 => rfl
  | 1 => rfl
  | 2 => rfl
  | 3 => rfl
  | 4 => rfl
  | 5 => rfl
  | 6 => rfl
  | 7 => rfl
  | 8 => rfl
  | 9 => rfl
  | 10 => rfl
  | j + 11 => rfl
set_option maxRecDepth 100000 in
set_option maxHeartbeats 4000000 in
theorem kX10_pane (G : GG) (l : Launch) (M : MS) (ad : AD) (gi : GI) (w : WM) (hL : RLa G M ad gi w) (hN : mi_nn M) (hn : mi_num M) (hsg : mi_signs M) (hls : mi_last M) : MC G l yX10_pane cX10_pane 1 ((Option.some .int)) ({ frames := 3, cells := 2, slots := 31, locals := 63 } : Room) [.ref (ad 0 0)] w (fun v w' => v = some (.int (mo_pane M ).1) ∧ ∃ ad' gi', RLa G (mo_pane M ).2 ad' gi' w' ∧ ad' 0 0 = ad 0 0) := by
  refine mc_int (by decide) (Nat.le_of_ble_eq_true rfl) rfl rfl ?_
  intro p e s m args below meth c A H0 Q X hnm RTN
  have X : Cx G p s m args meth c A H0 cX10_pane 1 RX10 := X
  have k0_ : w (ad 0 0) = some (.inr (11, [.ref (ad 1 0), .ref (ad 2 0), .ref (ad 3 0), .ref (ad 4 0), .ref (ad 5 0), .ref (ad 6 0), va_rf (sAd M ad (M.1 20)), .int (M.1 7), .int (M.1 29), .int (M.1 38), .int ((M.2.1 21).toInt32), .int ((M.2.1 22).toInt32), .int (M.1 5)])) := hL.1 0 0 (lvf 0 (by decide))
  have k3_ : w (ad 3 0) = some (rA (gA G 5) 8 (cS M ad)) := hL.1 3 0 (lvf 3 (by decide))
  refine aw_aload_n X dX10_pane_0 rfl rfl ?_
  refine aw_new2 X okX5 cl_X10_117 is_X5 in_X5 rfl (Nat.le_of_ble_eq_true rfl) (Nat.le_of_ble_eq_true rfl) dX10_pane_1 (fun q101 w102 hf103 hk104 hn105 he106 => ?_)
  have hk107 := (hn105 _ (ne_fr k0_ hf103)).trans k0_
  have hk108 := (hn105 _ (ne_fr k3_ hf103)).trans k3_
  refine aw_dup X dX10_pane_4 rfl ?_
  refine aw_callI X (kX5_init _ _ _ q101 hk104) okm_X5_init rfl ml_X10_119 im_X5_init rfl rfl (Nat.le_of_ble_eq_true rfl) ⟨Nat.le_of_ble_eq_true rfl, Nat.le_of_ble_eq_true rfl, Nat.le_of_ble_eq_true rfl, Nat.le_of_ble_eq_true rfl⟩ dX10_pane_5 (fun v w2 hp => ?_)
  obtain ⟨rfl, va109, hf110, hk111, hk112, hb113⟩ := hp
  have hk114 := (hb113 (ad 0 0) (ne_ci hk107 hk104 (by decide)) (ne_fr hk107 hf110)).trans hk107
  have hk115 := (hb113 (ad 3 0) (Ne.symm (ne_oa hk104 hk108)) (ne_fr hk108 hf110)).trans hk108
  have hpn : w va109 = none := by have h := hf110; rw [he106, wm_upn (Ne.symm (ne_fr hk104 hf110))] at h; exact h
  have hL2 : RLa G M ad gi w2 := rl_ext hL (fun c hc => by rw [hb113 c (fun z => hc (by rw [z]; exact hf103)) (fun z => hc (by rw [z]; exact hpn)), he106, wm_upn (fun z => hc (by rw [z]; exact hf103))])
  refine aw_callV X (kX10_admit _ _ _ _ _ _ hL2 hN _ _ _ _ hk111) okm_X10_admit okX10 hk114 ml_X10_120 im_X10_admit se_X10_X10_admit rfl rfl (Nat.le_of_ble_eq_true rfl) ⟨Nat.le_of_ble_eq_true rfl, Nat.le_of_ble_eq_true rfl, Nat.le_of_ble_eq_true rfl, Nat.le_of_ble_eq_true rfl⟩ dX10_pane_8 (fun v w2 hp => ?_)
  obtain ⟨rfl, hA9⟩ := hp
  refine RTN (some (.int _)) _ _ _ _ _ dX10_pane_11 (⟨_, rfl⟩) (Nat.le_of_ble_eq_true rfl) (Nat.le_of_ble_eq_true rfl) ?_
  rcases hA9 with ⟨hf9, hw9⟩ | ⟨k, hf9, hO9, hB9, hT9, hR9⟩
  · have hm : mo_pane M = (-5, sI M 0 0) := by unfold mo_pane; rw [if_neg (fp_ng hf9)]
    rw [hm]
    exact ⟨by rw [adm_n hf9], ad, gi, by rw [hw9]; exact rl_0 hL2, rfl⟩
  · have hm : mo_pane M = (M.1 7 + 1, BG (sI M 0 0) k (M.2.2 18) 0 1 1 0 0 0 (-1)) := by unfold mo_pane; rw [if_pos (fp_ge hf9), bg_0, fp_cl hf9]
    rw [hm]
    exact ⟨by rw [adm_s hf9], _, _, rl_bg (M := sI M 0 0) (b := q101) (pa := va109) (it := 0) (iv := 0) (g6 := fun _ => 0) (rl_0 hL) (fp_some hf9).1 (fp_some hf9).2 hn hsg hls (fun x _ => rfl) (fr_ad hL hf103) (fun _ => ⟨fr_ad hL hpn, Ne.symm (ne_fr hk104 hf110), (hR9 _ (fun z => by have h := hL.1 0 0 (lvf 0 (by decide)); rw [← z, hpn] at h; cases h) (Ne.symm (ne_fr hk104 hf110)) (fun z => by have h := hL.1 3 0 (lvf 3 (by decide)); rw [← z, hpn] at h; cases h)).trans hk112⟩) (fun z => absurd z (by decide)) (fun z => absurd z (by decide)) hB9 (by rw [bg_SI]; refine pF (fun j => ?_); rw [gu_0]; match j with | 0 => rfl | 1 => rfl | 2 => rfl | 3 => rfl | 4 => rfl | 5 => rfl | 6 => rfl | 7 => rfl | 8 => rfl | 9 => rfl | 10 => rfl | n + 11 => rfl) (by rw [bg_X]; exact congrArg some (adu_s : adu (adu ad 13 k q101) 14 k va109 14 k = va109).symm) hO9 hT9 (fun c h1 h2 h3 h4 => by rw [hR9 c h1 h2 h3, hb113 c h2 (h4 rfl), he106, wm_upn h2]), rfl⟩
set_option maxRecDepth 100000 in
set_option maxHeartbeats 4000000 in
theorem kX10_memory (G : GG) (l : Launch) (M : MS) (ad : AD) (gi : GI) (w : WM) (hL : RLa G M ad gi w) (hN : mi_nn M) (hn : mi_num M) (hsg : mi_signs M) (hls : mi_last M) (r n mode wide : Int32) (hwd : wide = 0 ∨ wide = 1) : MC G l yX10_memory cX10_memory 5 ((Option.some .int)) ({ frames := 3, cells := 1, slots := 10, locals := 67 } : Room) [.ref (ad 0 0), .int r, .int n, .int mode, .int wide] w (fun v w' => v = some (.int (mo_memory M r n mode wide).1) ∧ ∃ ad' gi', RLa G (mo_memory M r n mode wide).2 ad' gi' w' ∧ ad' 0 0 = ad 0 0) := by
  refine mc_int (by decide) (Nat.le_of_ble_eq_true rfl) rfl rfl ?_
  intro p e s m args below meth c A H0 Q X hnm RTN
  have X : Cx G p s m args meth c A H0 cX10_memory 5 RX10 := X
  have k0_ : w (ad 0 0) = some (.inr (11, [.ref (ad 1 0), .ref (ad 2 0), .ref (ad 3 0), .ref (ad 4 0), .ref (ad 5 0), .ref (ad 6 0), va_rf (sAd M ad (M.1 20)), .int (M.1 7), .int (M.1 29), .int (M.1 38), .int ((M.2.1 21).toInt32), .int ((M.2.1 22).toInt32), .int (M.1 5)])) := hL.1 0 0 (lvf 0 (by decide))
  have k1_ : w (ad 1 0) = some (rA (gA G 4) 8 (cR M ad)) := hL.1 1 0 (lvf 1 (by decide))
  have k3_ : w (ad 3 0) = some (rA (gA G 5) 8 (cS M ad)) := hL.1 3 0 (lvf 3 (by decide))
  refine aw_iload_n X dX10_memory_0 rfl rfl ?_
  refine aw_callS X (kX10_isRow _ _ _ _) okm_X10_isRow ml_X10_46 st_X10_isRow rfl rfl (Nat.le_of_ble_eq_true rfl) ⟨Nat.le_of_ble_eq_true rfl, Nat.le_of_ble_eq_true rfl, Nat.le_of_ble_eq_true rfl, Nat.le_of_ble_eq_true rfl⟩ dX10_memory_1 (fun v w2 hp => ?_)
  obtain ⟨rfl, hw9⟩ := hp
  have hw9 := hw9.symm
  subst hw9
  refine aw_if_ne (tgt := 10) X dX10_memory_4 rfl (fun c4 => ?_) (fun c4 => ?_)
  · rw [bI_n0] at c4
    refine aw_iload_n X dX10_memory_10 rfl rfl ?_
    refine aw_iconst X dX10_memory_11 ci_1 ?_
    refine aw_iconst X dX10_memory_12 ci_3 ?_
    refine aw_callS X (kX10_within _ _ _ _ _ _ 1 3 rfl rfl) okm_X10_within ml_X10_50 st_X10_within rfl rfl (Nat.le_of_ble_eq_true rfl) ⟨Nat.le_of_ble_eq_true rfl, Nat.le_of_ble_eq_true rfl, Nat.le_of_ble_eq_true rfl, Nat.le_of_ble_eq_true rfl⟩ dX10_memory_13 (fun v w2 hp => ?_)
    obtain ⟨rfl, hw9⟩ := hp
    have hw9 := hw9.symm
    subst hw9
    refine aw_if_eq (tgt := 29) X dX10_memory_16 rfl (fun c16 => ?_) (fun c16 => ?_)
    · rw [bI_0] at c16
      refine aw_bipush X dX10_memory_29 cb_m3 ?_
      refine RTN (some (.int _)) _ _ _ _ _ dX10_memory_31 (⟨_, rfl⟩) (Nat.le_of_ble_eq_true rfl) (Nat.le_of_ble_eq_true rfl) ?_
      have hm : mo_memory M r n mode wide = (-3, sI M 0 0) := by simp only [mo_memory, c4, c16, if_true, if_false, not_true_eq_false, not_false_eq_true, and_self, true_and, and_true, false_and, and_false, or_true, true_or, or_false, false_or, reduceCtorEq, ne_eq, va_us, pk_us]
      rw [hm]
      exact ⟨rfl, ad, gi, rl_0 hL, rfl⟩
    · rw [bI_n0] at c16
      refine aw_iload_n X dX10_memory_19 rfl rfl ?_
      refine aw_iconst X dX10_memory_20 ci_0 ?_
      refine aw_bipush X dX10_memory_21 cb_40 ?_
      refine aw_callS X (kX10_within _ _ _ _ _ _ 0 40 rfl rfl) okm_X10_within ml_X10_50 st_X10_within rfl rfl (Nat.le_of_ble_eq_true rfl) ⟨Nat.le_of_ble_eq_true rfl, Nat.le_of_ble_eq_true rfl, Nat.le_of_ble_eq_true rfl, Nat.le_of_ble_eq_true rfl⟩ dX10_memory_23 (fun v w2 hp => ?_)
      obtain ⟨rfl, hw9⟩ := hp
      have hw9 := hw9.symm
      subst hw9
      refine aw_if_ne (tgt := 32) X dX10_memory_26 rfl (fun c26 => ?_) (fun c26 => ?_)
      · rw [bI_n0] at c26
        refine aw_aload_n X dX10_memory_32 rfl rfl ?_
        refine aw_new2 X okX3 cl_X10_124 is_X3 in_X3 rfl (Nat.le_of_ble_eq_true rfl) (Nat.le_of_ble_eq_true rfl) dX10_memory_33 (fun q116 w117 hf118 hk119 hn120 he121 => ?_)
        have hk122 := (hn120 _ (ne_fr k0_ hf118)).trans k0_
        have hk123 := (hn120 _ (ne_fr k1_ hf118)).trans k1_
        have hk124 := (hn120 _ (ne_fr k3_ hf118)).trans k3_
        refine aw_dup X dX10_memory_36 rfl ?_
        refine aw_aload_n X dX10_memory_37 rfl rfl ?_
        refine aw_get X okX10 (k := 0) hk122 (Nat.le_of_ble_eq_true rfl) fl_X10_13 (Or.inl rfl) rfl dX10_memory_38 ?_
        refine aw_iload_n X dX10_memory_41 rfl rfl ?_
        refine aw_aald X 4 hk123 rfl (bt_vp c4 (by decide) (by decide)) dX10_memory_42 ?_
        rcases hr125 : (cR M ad) r.toNatClampNeg with _ | a126
        · refine aw_iload_n X dX10_memory_43 rfl rfl ?_
          refine aw_iload_n X dX10_memory_44 rfl rfl ?_
          refine aw_iload X dX10_memory_45 rfl ?_
          refine aw_callI X (kX3_init0 _ _ _ q116 _ _ _ hwd hk119) okm_X3_init rfl ml_X10_126 im_X3_init rfl rfl (Nat.le_of_ble_eq_true rfl) ⟨Nat.le_of_ble_eq_true rfl, Nat.le_of_ble_eq_true rfl, Nat.le_of_ble_eq_true rfl, Nat.le_of_ble_eq_true rfl⟩ dX10_memory_47 (fun v w2 hp => ?_)
          obtain ⟨rfl, hw127⟩ := hp
          have hk128 := (congrFun hw127 q116).trans wm_ups
          have hk129 := ((congrFun hw127 (ad 0 0)).trans (wm_upn (ne_ci hk122 hk119 (by decide)))).trans hk122
          have hk130 := ((congrFun hw127 (ad 1 0)).trans (wm_upn (Ne.symm (ne_oa hk119 hk123)))).trans hk123
          have hk131 := ((congrFun hw127 (ad 3 0)).trans (wm_upn (Ne.symm (ne_oa hk119 hk124)))).trans hk124
          have hL2 : RLa G M ad gi w2 := rl_ext hL (fun c hc => by rw [hw127, wm_upn (fun z => hc (by rw [z]; exact hf118)), he121, wm_upn (fun z => hc (by rw [z]; exact hf118))])
          refine aw_callV X (kX10_admit _ _ _ _ _ _ hL2 hN _ _ _ _ hk128) okm_X10_admit okX10 hk129 ml_X10_120 im_X10_admit se_X10_X10_admit rfl rfl (Nat.le_of_ble_eq_true rfl) ⟨Nat.le_of_ble_eq_true rfl, Nat.le_of_ble_eq_true rfl, Nat.le_of_ble_eq_true rfl, Nat.le_of_ble_eq_true rfl⟩ dX10_memory_50 (fun v w2 hp => ?_)
          obtain ⟨rfl, hA9⟩ := hp
          refine RTN (some (.int _)) _ _ _ _ _ dX10_memory_53 (⟨_, rfl⟩) (Nat.le_of_ble_eq_true rfl) (Nat.le_of_ble_eq_true rfl) ?_
          have hr8 : r.toNatClampNeg < 8 := cl_lt c4 (by decide) (by decide)
          rcases hA9 with ⟨hf9, hw9⟩ | ⟨k, hf9, hO9, hB9, hT9, hR9⟩
          · have hm : mo_memory M r n mode wide = (-5, sI M 0 0) := by unfold mo_memory; rw [if_pos c4, if_pos ⟨c16, c26⟩, if_neg (fp_ng hf9)]
            rw [hm]
            exact ⟨by rw [adm_n hf9], ad, gi, by rw [hw9]; exact rl_0 hL2, rfl⟩
          · have hm : mo_memory M r n mode wide = (M.1 7 + 1, BG (sI M 0 0) k (M.2.2 18) 1 wide mode 0 n (M.2.2 1 r.toNatClampNeg) (-1)) := by unfold mo_memory; rw [if_pos c4, if_pos ⟨c16, c26⟩, if_pos (fp_ge hf9), bg_0, fp_cl hf9, bg_15, bg_12]
            rw [hm]
            exact ⟨by rw [adm_s hf9], _, _, rl_bg (M := sI M 0 0) (b := q116) (pa := 0) (it := 0) (iv := 0) (g6 := fun _ => 0) (rl_0 hL) (fp_some hf9).1 (fp_some hf9).2 hn hsg hls (fun x _ => rfl) (fr_ad hL hf118) (fun z => absurd z (by decide)) (fun _ => Or.inr ⟨_, hr8, rfl⟩) (fun z => absurd z (by decide)) hB9 (by rw [bg_SI]; refine mF (fun j => ?_); match j with | 0 => rfl | 1 => rfl | 2 => rfl | 3 => rfl | 4 => rfl | 5 => rfl | 6 => rfl | 7 => rfl | 8 => rfl | 9 => rfl | 10 => rfl | n + 11 => rfl) (by rw [bg_X]; show _ = rIA ad (M.2.2 1 r.toNatClampNeg); rw [← cR_k hr8, hr125]) hO9 hT9 (fun c h1 h2 h3 _ => by rw [hR9 c h1 h2 h3, hw127, wm_upn h2, he121, wm_upn h2]), rfl⟩
        · refine aw_iload_n X dX10_memory_43 rfl rfl ?_
          refine aw_iload_n X dX10_memory_44 rfl rfl ?_
          refine aw_iload X dX10_memory_45 rfl ?_
          refine aw_callI X (kX3_init _ _ _ q116 a126 _ _ _ hwd hk119) okm_X3_init rfl ml_X10_126 im_X3_init rfl rfl (Nat.le_of_ble_eq_true rfl) ⟨Nat.le_of_ble_eq_true rfl, Nat.le_of_ble_eq_true rfl, Nat.le_of_ble_eq_true rfl, Nat.le_of_ble_eq_true rfl⟩ dX10_memory_47 (fun v w2 hp => ?_)
          obtain ⟨rfl, hw132⟩ := hp
          have hk133 := (congrFun hw132 q116).trans wm_ups
          have hk134 := ((congrFun hw132 (ad 0 0)).trans (wm_upn (ne_ci hk122 hk119 (by decide)))).trans hk122
          have hk135 := ((congrFun hw132 (ad 1 0)).trans (wm_upn (Ne.symm (ne_oa hk119 hk123)))).trans hk123
          have hk136 := ((congrFun hw132 (ad 3 0)).trans (wm_upn (Ne.symm (ne_oa hk119 hk124)))).trans hk124
          have hL2 : RLa G M ad gi w2 := rl_ext hL (fun c hc => by rw [hw132, wm_upn (fun z => hc (by rw [z]; exact hf118)), he121, wm_upn (fun z => hc (by rw [z]; exact hf118))])
          refine aw_callV X (kX10_admit _ _ _ _ _ _ hL2 hN _ _ _ _ hk133) okm_X10_admit okX10 hk134 ml_X10_120 im_X10_admit se_X10_X10_admit rfl rfl (Nat.le_of_ble_eq_true rfl) ⟨Nat.le_of_ble_eq_true rfl, Nat.le_of_ble_eq_true rfl, Nat.le_of_ble_eq_true rfl, Nat.le_of_ble_eq_true rfl⟩ dX10_memory_50 (fun v w2 hp => ?_)
          obtain ⟨rfl, hA9⟩ := hp
          refine RTN (some (.int _)) _ _ _ _ _ dX10_memory_53 (⟨_, rfl⟩) (Nat.le_of_ble_eq_true rfl) (Nat.le_of_ble_eq_true rfl) ?_
          have hr8 : r.toNatClampNeg < 8 := cl_lt c4 (by decide) (by decide)
          rcases hA9 with ⟨hf9, hw9⟩ | ⟨k, hf9, hO9, hB9, hT9, hR9⟩
          · have hm : mo_memory M r n mode wide = (-5, sI M 0 0) := by unfold mo_memory; rw [if_pos c4, if_pos ⟨c16, c26⟩, if_neg (fp_ng hf9)]
            rw [hm]
            exact ⟨by rw [adm_n hf9], ad, gi, by rw [hw9]; exact rl_0 hL2, rfl⟩
          · have hm : mo_memory M r n mode wide = (M.1 7 + 1, BG (sI M 0 0) k (M.2.2 18) 1 wide mode 0 n (M.2.2 1 r.toNatClampNeg) (-1)) := by unfold mo_memory; rw [if_pos c4, if_pos ⟨c16, c26⟩, if_pos (fp_ge hf9), bg_0, fp_cl hf9, bg_15, bg_12]
            rw [hm]
            exact ⟨by rw [adm_s hf9], _, _, rl_bg (M := sI M 0 0) (b := q116) (pa := 0) (it := 0) (iv := 0) (g6 := fun _ => 0) (rl_0 hL) (fp_some hf9).1 (fp_some hf9).2 hn hsg hls (fun x _ => rfl) (fr_ad hL hf118) (fun z => absurd z (by decide)) (fun _ => Or.inr ⟨_, hr8, rfl⟩) (fun z => absurd z (by decide)) hB9 (by rw [bg_SI]; refine mF (fun j => ?_); match j with | 0 => rfl | 1 => rfl | 2 => rfl | 3 => rfl | 4 => rfl | 5 => rfl | 6 => rfl | 7 => rfl | 8 => rfl | 9 => rfl | 10 => rfl | n + 11 => rfl) (by rw [bg_X]; show _ = rIA ad (M.2.2 1 r.toNatClampNeg); rw [← cR_k hr8, hr125]) hO9 hT9 (fun c h1 h2 h3 _ => by rw [hR9 c h1 h2 h3, hw132, wm_upn h2, he121, wm_upn h2]), rfl⟩
      · rw [bI_0] at c26
        refine aw_bipush X dX10_memory_29 cb_m3 ?_
        refine RTN (some (.int _)) _ _ _ _ _ dX10_memory_31 (⟨_, rfl⟩) (Nat.le_of_ble_eq_true rfl) (Nat.le_of_ble_eq_true rfl) ?_
        have hm : mo_memory M r n mode wide = (-3, sI M 0 0) := by simp only [mo_memory, c4, c16, c26, if_true, if_false, not_true_eq_false, not_false_eq_true, and_self, true_and, and_true, false_and, and_false, or_true, true_or, or_false, false_or, reduceCtorEq, ne_eq, va_us, pk_us]
        rw [hm]
        exact ⟨rfl, ad, gi, rl_0 hL, rfl⟩
  · rw [bI_0] at c4
    refine aw_bipush X dX10_memory_7 cb_m2 ?_
    refine RTN (some (.int _)) _ _ _ _ _ dX10_memory_9 (⟨_, rfl⟩) (Nat.le_of_ble_eq_true rfl) (Nat.le_of_ble_eq_true rfl) ?_
    have hm : mo_memory M r n mode wide = (-2, sI M 0 0) := by simp only [mo_memory, c4, if_true, if_false, not_true_eq_false, not_false_eq_true, and_self, true_and, and_true, false_and, and_false, or_true, true_or, or_false, false_or, reduceCtorEq, ne_eq, va_us, pk_us]
    rw [hm]
    exact ⟨rfl, ad, gi, rl_0 hL, rfl⟩
theorem cG_some {M : MS} {ad : AD} {k a : Nat} (h : cG M ad k = some a) : a = ad 20 k ∧ (k < 4 ∧ 0 ≤ M.2.2 23 k) := by
  unfold cG at h
  split at h
  · rename_i h1; exact ⟨(Option.some.inj h).symm, h1⟩
  · cases h
theorem cG_none {M : MS} {ad : AD} {k : Nat} (h : cG M ad k = none) (hk : k < 4) : ¬ 0 ≤ M.2.2 23 k := by
  unfold cG at h
  split at h
  · cases h
  · rename_i h1; exact fun z => h1 ⟨hk, z⟩
theorem ix_k {k j : Nat} (hk : k < 100) (hj : j < 100) : ((40 : Int32) * nI k + nI j).toNatClampNeg = 40 * k + j := by
  have h1 := ti_mul (a := 40) (b := nI k) (x := 40) rfl (nI_toInt (by omega)) (by omega)
  have h2 := ti_add h1 (b := nI j) (nI_toInt (by omega)) (by omega)
  have h3 := cl_toInt (x := (40 : Int32) * nI k + nI j) (by omega)
  omega
def rsg (M : MS) (k n : Nat) (wide : Int32) (j : Nat) : Nat → Int32 := fun x => if 40 * k ≤ x ∧ x < 40 * k + j then nrw wide (M.2.2 24 (40 * n + (x - 40 * k))) else M.2.2 18 x
theorem rs_eq {N : MS} {k n : Nat} {wide : Int32} (hk : k < 8) (hn : n < 4) : ∀ j, j ≤ 40 → mo_rs N (nI k) (nI n) wide j = sA N 18 (rsg N k n wide j)
  | 0, _ => by
    have e : rsg N k n wide 0 = N.2.2 18 := by
      funext x
      unfold rsg
      rw [if_neg (by omega)]
    rw [e]
    exact sA_self.symm
  | j + 1, h => by
    show sF (mo_rs N (nI k) (nI n) wide j) 18 _ (nrw wide ((mo_rs N (nI k) (nI n) wide j).2.2 24 _)) = _
    rw [rs_eq hk hn j (by omega), ix_k (by omega) (by omega), ix_k (by omega) (by omega)]
    refine Prod.ext rfl (Prod.ext rfl (funext fun t => ?_))
    show va_up (va_up N.2.2 18 (rsg N k n wide j)) 18 (upd (rsg N k n wide j) (40 * k + j) (nrw wide (N.2.2 24 (40 * n + j)))) t = va_up N.2.2 18 (rsg N k n wide (j + 1)) t
    unfold va_up
    by_cases ht : t = 18
    · rw [if_pos ht, if_pos ht]
      funext x
      unfold upd rsg
      by_cases hx : x = 40 * k + j
      · rw [if_pos hx, if_pos (by omega), hx, show 40 * k + j - 40 * k = j by omega]
      · rw [if_neg hx]
        by_cases hy : 40 * k ≤ x ∧ x < 40 * k + j
        · rw [if_pos hy, if_pos (by omega)]
        · rw [if_neg hy, if_neg (by omega)]
    · rw [if_neg ht, if_neg ht, if_neg ht]
theorem nrw_eq {wide c : Int32} : nrw wide c = if wide = 0 ∧ 255 < c then 63 else c := by
  unfold nrw
  by_cases h : wide = 0
  · rw [if_pos h]
    by_cases hc : c ≤ 255
    · rw [if_pos hc, if_neg (fun z => by have := z.2; rw [i32_lt] at this; rw [i32_le] at hc; omega)]
    · rw [if_neg hc, if_pos ⟨h, by rw [i32_lt]; rw [i32_le] at hc; omega⟩]
  · rw [if_neg h, if_neg (fun z => h z.1)]
set_option maxRecDepth 100000 in
set_option maxHeartbeats 4000000 in
theorem kX10_resource (G : GG) (l : Launch) (M : MS) (ad : AD) (gi : GI) (w : WM) (hL : RLa G M ad gi w) (hN : mi_nn M) (hn : mi_num M) (hsg : mi_signs M) (hls : mi_last M) (hgv : mi_given M) (num wide : Int32) (hwd : wide = 0 ∨ wide = 1) : MC G l yX10_resource cX10_resource 3 ((Option.some .int)) ({ frames := 3, cells := 1, slots := 9, locals := 65 } : Room) [.ref (ad 0 0), .int num, .int wide] w (fun v w' => v = some (.int (mo_resource M num wide).1) ∧ ∃ ad' gi', RLa G (mo_resource M num wide).2 ad' gi' w' ∧ ad' 0 0 = ad 0 0) := by
  refine mc_int (by decide) (Nat.le_of_ble_eq_true rfl) rfl rfl ?_
  intro p e s m args below meth c A H0 Q X hnm RTN
  have X : Cx G p s m args meth c A H0 cX10_resource 3 RX10 := X
  have k0_ : w (ad 0 0) = some (.inr (11, [.ref (ad 1 0), .ref (ad 2 0), .ref (ad 3 0), .ref (ad 4 0), .ref (ad 5 0), .ref (ad 6 0), va_rf (sAd M ad (M.1 20)), .int (M.1 7), .int (M.1 29), .int (M.1 38), .int ((M.2.1 21).toInt32), .int ((M.2.1 22).toInt32), .int (M.1 5)])) := hL.1 0 0 (lvf 0 (by decide))
  have k2_ : w (ad 2 0) = some (rA (gA G 4) 4 (cG M ad)) := hL.1 2 0 (lvf 2 (by decide))
  have k3_ : w (ad 3 0) = some (rA (gA G 5) 8 (cS M ad)) := hL.1 3 0 (lvf 3 (by decide))
  refine aw_iload_n X dX10_resource_0 rfl rfl ?_
  refine aw_callS X (kX10_isResource _ _ _ _) okm_X10_isResource ml_X10_157 st_X10_isResource rfl rfl (Nat.le_of_ble_eq_true rfl) ⟨Nat.le_of_ble_eq_true rfl, Nat.le_of_ble_eq_true rfl, Nat.le_of_ble_eq_true rfl, Nat.le_of_ble_eq_true rfl⟩ dX10_resource_1 (fun v w2 hp => ?_)
  obtain ⟨rfl, hw9⟩ := hp
  have hw9 := hw9.symm
  subst hw9
  refine aw_if_eq (tgt := 16) X dX10_resource_4 rfl (fun c4 => ?_) (fun c4 => ?_)
  · rw [bI_0] at c4
    refine aw_bipush X dX10_resource_16 cb_m2 ?_
    refine RTN (some (.int _)) _ _ _ _ _ dX10_resource_18 (⟨_, rfl⟩) (Nat.le_of_ble_eq_true rfl) (Nat.le_of_ble_eq_true rfl) ?_
    have hm : mo_resource M num wide = (-2, sI M 0 0) := by simp only [mo_resource, c4, if_true, if_false, not_true_eq_false, not_false_eq_true, and_self, true_and, and_true, false_and, and_false, or_true, true_or, or_false, false_or, reduceCtorEq, ne_eq, va_us, pk_us]
    rw [hm]
    exact ⟨rfl, ad, gi, rl_0 hL, rfl⟩
  · rw [bI_n0] at c4
    refine aw_aload_n X dX10_resource_7 rfl rfl ?_
    refine aw_get X okX10 (k := 1) k0_ (Nat.le_of_ble_eq_true rfl) fl_X10_17 (Or.inl rfl) rfl dX10_resource_8 ?_
    refine aw_iload_n X dX10_resource_11 rfl rfl ?_
    refine aw_aald X 4 k2_ rfl (bt_vp c4 (by decide) (by decide)) dX10_resource_12 ?_
    rcases hr137 : (cG M ad) num.toNatClampNeg with _ | a138
    · refine aw_ifnonnullN X dX10_resource_13 ?_
      refine aw_bipush X dX10_resource_16 cb_m2 ?_
      refine RTN (some (.int _)) _ _ _ _ _ dX10_resource_18 (⟨_, rfl⟩) (Nat.le_of_ble_eq_true rfl) (Nat.le_of_ble_eq_true rfl) ?_
      have hz := cG_none hr137 (cl_lt c4 (by decide) (by decide))
      have hm : mo_resource M num wide = (-2, sI M 0 0) := by unfold mo_resource; rw [if_neg (fun z => hz z.2)]
      rw [hm]
      exact ⟨rfl, ad, gi, rl_0 hL, rfl⟩
    · obtain ⟨he139, ho140⟩ := cG_some hr137
      subst he139
      refine aw_ifnonnull (tgt := 19) X dX10_resource_13 rfl ?_
      refine aw_aload_n X dX10_resource_19 rfl rfl ?_
      refine aw_new2 X okX7 cl_X10_160 is_X7 in_X7 rfl (Nat.le_of_ble_eq_true rfl) (Nat.le_of_ble_eq_true rfl) dX10_resource_20 (fun q141 w142 hf143 hk144 hn145 he146 => ?_)
      have hk147 := (hn145 _ (ne_fr k0_ hf143)).trans k0_
      have hk148 := (hn145 _ (ne_fr k2_ hf143)).trans k2_
      have hk149 := (hn145 _ (ne_fr k3_ hf143)).trans k3_
      refine aw_dup X dX10_resource_23 rfl ?_
      refine aw_aload_n X dX10_resource_24 rfl rfl ?_
      refine aw_get X okX10 (k := 1) hk147 (Nat.le_of_ble_eq_true rfl) fl_X10_17 (Or.inl rfl) rfl dX10_resource_25 ?_
      refine aw_iload_n X dX10_resource_28 rfl rfl ?_
      refine aw_aald X 4 hk148 rfl (bt_vp c4 (by decide) (by decide)) dX10_resource_29 ?_
      rw [hr137]
      refine aw_iload_n X dX10_resource_30 rfl rfl ?_
      refine aw_callI X (kX7_init _ _ _ q141 (ad 20 num.toNatClampNeg) _ hwd hk144) okm_X7_init rfl ml_X10_162 im_X7_init rfl rfl (Nat.le_of_ble_eq_true rfl) ⟨Nat.le_of_ble_eq_true rfl, Nat.le_of_ble_eq_true rfl, Nat.le_of_ble_eq_true rfl, Nat.le_of_ble_eq_true rfl⟩ dX10_resource_31 (fun v w2 hp => ?_)
      obtain ⟨rfl, hw150⟩ := hp
      have hk151 := (congrFun hw150 q141).trans wm_ups
      have hk152 := ((congrFun hw150 (ad 0 0)).trans (wm_upn (ne_ci hk147 hk144 (by decide)))).trans hk147
      have hk153 := ((congrFun hw150 (ad 2 0)).trans (wm_upn (Ne.symm (ne_oa hk144 hk148)))).trans hk148
      have hk154 := ((congrFun hw150 (ad 3 0)).trans (wm_upn (Ne.symm (ne_oa hk144 hk149)))).trans hk149
      have hL2 : RLa G M ad gi w2 := rl_ext hL (fun c hc => by rw [hw150, wm_upn (fun z => hc (by rw [z]; exact hf143)), he146, wm_upn (fun z => hc (by rw [z]; exact hf143))])
      refine aw_callV X (kX10_admit _ _ _ _ _ _ hL2 hN _ _ _ _ hk151) okm_X10_admit okX10 hk152 ml_X10_120 im_X10_admit se_X10_X10_admit rfl rfl (Nat.le_of_ble_eq_true rfl) ⟨Nat.le_of_ble_eq_true rfl, Nat.le_of_ble_eq_true rfl, Nat.le_of_ble_eq_true rfl, Nat.le_of_ble_eq_true rfl⟩ dX10_resource_34 (fun v w2 hp => ?_)
      obtain ⟨rfl, hA9⟩ := hp
      refine RTN (some (.int _)) _ _ _ _ _ dX10_resource_37 (⟨_, rfl⟩) (Nat.le_of_ble_eq_true rfl) (Nat.le_of_ble_eq_true rfl) ?_
      rcases hA9 with ⟨hf9, hw9⟩ | ⟨k, hf9, hO9, hB9, hT9, hR9⟩
      · have hm : mo_resource M num wide = (-5, sI M 0 0) := by unfold mo_resource; rw [if_pos ⟨c4, ho140.2⟩, if_neg (fp_ng hf9)]
        rw [hm]
        exact ⟨by rw [adm_n hf9], ad, gi, by rw [hw9]; exact rl_0 hL2, rfl⟩
      · have b4 := bt_iff.mp c4
        have en : nI num.toNatClampNeg = num := nI_cl b4.1
        have g23 := bt_iff.mp (hgv num.toNatClampNeg ho140.1)
        have g0 := (i32_le _ _).mp ho140.2
        have e0 : (0 : Int32).toInt = 0 := rfl
        have ec := cl_toInt (x := M.2.2 23 num.toNatClampNeg) (by omega)
        have hm : mo_resource M num wide = (M.1 7 + 1, BG (sI M 0 0) k (rsg M k num.toNatClampNeg wide (M.2.2 23 num.toNatClampNeg).toNatClampNeg) 3 wide 2 0 (M.2.2 23 num.toNatClampNeg) 0 (-1)) := by
          unfold mo_resource
          rw [if_pos ⟨c4, ho140.2⟩, if_pos (fp_ge hf9), bg_0, fp_cl hf9, bg_12, fp_oI hf9]
          conv => lhs; rw [show mo_rs (BG (sI M 0 0) k ((sI M 0 0).2.2 18) 3 wide 2 0 (M.2.2 23 num.toNatClampNeg) 0 (-1)) (nI k) num wide (M.2.2 23 num.toNatClampNeg).toNatClampNeg = mo_rs (BG (sI M 0 0) k ((sI M 0 0).2.2 18) 3 wide 2 0 (M.2.2 23 num.toNatClampNeg) 0 (-1)) (nI k) (nI num.toNatClampNeg) wide (M.2.2 23 num.toNatClampNeg).toNatClampNeg by rw [en]]
          rw [rs_eq (fp_some hf9).1 ho140.1 _ (by omega), bg_18]
          rfl
        rw [hm]
        refine ⟨by rw [adm_s hf9], _, _, rl_bg (M := sI M 0 0) (b := q141) (pa := 0) (it := ad 20 num.toNatClampNeg) (iv := ad 21 num.toNatClampNeg) (g6 := cGiv M num.toNatClampNeg) (rl_0 hL) (fp_some hf9).1 (fp_some hf9).2 hn hsg hls (fun x hx => if_neg (by omega)) (fr_ad hL hf143) (fun z => absurd z (by decide)) (fun z => absurd z (by decide)) (fun _ => ⟨num.toNatClampNeg, ho140, rfl, rfl, rfl, rfl, fun j hj => ?_⟩) hB9 (by rw [bg_SI]; refine rF (fun j => ?_); match j with | 0 => rfl | 1 => rfl | 2 => rfl | 3 => rfl | 4 => rfl | 5 => rfl | 6 => rfl | 7 => rfl | 8 => rfl | 9 => rfl | 10 => rfl | n + 11 => rfl) (by rw [bg_X]; exact congrArg some (adu_s : adu (adu (adu ad 13 k q141) 14 k 0) 22 k (ad 20 num.toNatClampNeg) 22 k = ad 20 num.toNatClampNeg).symm) hO9 hT9 (fun c h1 h2 h3 _ => by rw [hR9 c h1 h2 h3, hw150, wm_upn h2, he146, wm_upn h2]), rfl⟩
        have ej : cGiv M num.toNatClampNeg j = M.2.2 24 (40 * num.toNatClampNeg + j) := if_pos (by omega)
        rw [ej]
        show (if 40 * k ≤ 40 * k + j ∧ 40 * k + j < 40 * k + (M.2.2 23 num.toNatClampNeg).toNatClampNeg then nrw wide (M.2.2 24 (40 * num.toNatClampNeg + (40 * k + j - 40 * k))) else M.2.2 18 (40 * k + j)) = _
        rw [if_pos (by omega), show 40 * k + j - 40 * k = j by omega, nrw_eq]
