/-! about, shown, seek, get -/
theorem cSI_u4 {M : MS} {gi : GI} {k : Nat} {x : Int32} : cSI (sF (sI M 0 0) 11 k x) gi k = upd (cSI M gi k) 4 x := by
  funext j
  match j with
  | 0 => rfl
  | 1 => rfl
  | 2 => rfl
  | 3 => rfl
  | 4 => exact (upd_s : upd (M.2.2 11) k x k = x)
  | 5 => rfl
  | 6 => rfl
  | 7 => rfl
  | 8 => rfl
  | 9 => rfl
  | 10 => rfl
  | j + 11 => exact (upd_n (by omega) : upd (cSI M gi k) 4 x (j + 11) = 0).symm
theorem cSI_u46 {M : MS} {gi : GI} {k : Nat} {x y : Int32} : cSI (sF (sF (sI M 0 0) 11 k x) 14 k y) gi k = upd (upd (cSI M gi k) 4 x) 6 y := by
  funext j
  match j with
  | 0 => rfl
  | 1 => rfl
  | 2 => rfl
  | 3 => rfl
  | 4 => exact (upd_s : upd (M.2.2 11) k x k = x)
  | 5 => rfl
  | 6 => exact (upd_s : upd (M.2.2 14) k y k = y)
  | 7 => rfl
  | 8 => rfl
  | 9 => rfl
  | 10 => rfl
  | j + 11 => exact ((upd_n (by omega) : upd (upd (cSI M gi k) 4 x) 6 y (j + 11) = upd (cSI M gi k) 4 x (j + 11)).trans (upd_n (by omega))).symm
theorem rl_p4 {G : GG} {M : MS} {ad : AD} {gi : GI} {w w' : WM} {k : Nat} {x : Int32} (hL : RLa G M ad gi w) (ho : opn M k) (h1 : w' (ad 13 k) = some (sC (upd (cSI M gi k) 4 x) (sAd M ad (M.2.2 17 k)) (cX M ad k))) (h2 : ∀ b, b ≠ ad 13 k → w' b = w b) : RLa G (sF (sI M 0 0) 11 k x) ad gi w' := by
  refine rl_w1 hL 13 k ho rfl h2 (fun _ _ h => h) (fun t i hl hn0 => by
    match t, hl, hn0 with
    | 0, _, _ => exact cc_0 rfl
    | 1, _, _ => exact cc_1 rfl
    | 2, _, _ => exact cc_2 rfl
    | 3, _, _ => exact cc_3 rfl
    | 4, _, _ => exact cc_4 rfl
    | 5, _, _ => exact cc_5 rfl
    | 6, _, _ => exact cc_6 rfl
    | 7, _, _ => exact cc_7 rfl
    | 8, _, _ => exact cc_8 rfl
    | 9, _, _ => exact cc_9 rfl
    | 10, _, _ => exact cc_10 rfl
    | 11, _, _ => exact cc_11 rfl
    | 12, _, _ => exact cc_12 rfl
    | 13, hl, hn0 => (have hi : i ≠ k := fun z => hn0 ⟨rfl, z⟩; refine cc_13 ?_; rw [cSI_c (M := M) (M' := sF (sI M 0 0) 11 k x) (gi := gi) (gi' := gi) (k := i) rfl rfl rfl rfl (upd_n hi) rfl rfl rfl rfl rfl]; rfl)
    | 14, _, _ => exact cc_14 rfl
    | 15, _, _ => exact cc_15 rfl
    | 16, _, _ => exact cc_16 rfl
    | 17, _, _ => exact cc_17 rfl
    | 18, _, _ => exact cc_18 rfl
    | 19, _, _ => exact cc_19 rfl
    | 20, _, _ => exact cc_20 rfl
    | 21, _, _ => exact cc_21 rfl
    | 22, _, _ => exact cc_22 rfl
    | 23, _, _ => exact cc_23 rfl
    | n + 24, hl, hn0 => exact absurd (show n + 24 ≤ 10 ∧ i = 0 from hl).1 (by omega)) ?_ hL.2.2
  rw [h1]
  show _ = some (sC (cSI (sF (sI M 0 0) 11 k x) gi k) (sAd M ad (M.2.2 17 k)) (cX M ad k))
  rw [cSI_u4]
theorem rl_p46 {G : GG} {M : MS} {ad : AD} {gi : GI} {w w' : WM} {k : Nat} {x y : Int32} (hL : RLa G M ad gi w) (ho : opn M k) (h1 : w' (ad 13 k) = some (sC (upd (upd (cSI M gi k) 4 x) 6 y) (sAd M ad (M.2.2 17 k)) (cX M ad k))) (h2 : ∀ b, b ≠ ad 13 k → w' b = w b) : RLa G (sF (sF (sI M 0 0) 11 k x) 14 k y) ad gi w' := by
  refine rl_w1 hL 13 k ho rfl h2 (fun _ _ h => h) (fun t i hl hn0 => by
    match t, hl, hn0 with
    | 0, _, _ => exact cc_0 rfl
    | 1, _, _ => exact cc_1 rfl
    | 2, _, _ => exact cc_2 rfl
    | 3, _, _ => exact cc_3 rfl
    | 4, _, _ => exact cc_4 rfl
    | 5, _, _ => exact cc_5 rfl
    | 6, _, _ => exact cc_6 rfl
    | 7, _, _ => exact cc_7 rfl
    | 8, _, _ => exact cc_8 rfl
    | 9, _, _ => exact cc_9 rfl
    | 10, _, _ => exact cc_10 rfl
    | 11, _, _ => exact cc_11 rfl
    | 12, _, _ => exact cc_12 rfl
    | 13, hl, hn0 => (have hi : i ≠ k := fun z => hn0 ⟨rfl, z⟩; refine cc_13 ?_; rw [cSI_c (M := M) (M' := sF (sF (sI M 0 0) 11 k x) 14 k y) (gi := gi) (gi' := gi) (k := i) rfl rfl rfl rfl (upd_n hi) rfl (upd_n hi) rfl rfl rfl]; rfl)
    | 14, _, _ => exact cc_14 rfl
    | 15, _, _ => exact cc_15 rfl
    | 16, _, _ => exact cc_16 rfl
    | 17, _, _ => exact cc_17 rfl
    | 18, _, _ => exact cc_18 rfl
    | 19, _, _ => exact cc_19 rfl
    | 20, _, _ => exact cc_20 rfl
    | 21, _, _ => exact cc_21 rfl
    | 22, _, _ => exact cc_22 rfl
    | 23, _, _ => exact cc_23 rfl
    | n + 24, hl, hn0 => exact absurd (show n + 24 ≤ 10 ∧ i = 0 from hl).1 (by omega)) ?_ hL.2.2
  rw [h1]
  show _ = some (sC (cSI (sF (sF (sI M 0 0) 11 k x) 14 k y) gi k) (sAd M ad (M.2.2 17 k)) (cX M ad k))
  rw [cSI_u46]
theorem lat_ix {n i : Int32} (hn : bt n 0 19) (hi : bt i 0 19) : (n - 1 - i + 20 - (n - 1 - i + 20) / 20 * 20).toNatClampNeg = (n.toNatClampNeg + 39 - i.toNatClampNeg) % 20 := by
  have a := bt_iff.mp hn
  have b := bt_iff.mp hi
  have c1 := cl_toInt (x := n) a.1
  have c2 := cl_toInt (x := i) b.1
  have t1 := ti_sub (a := n) (b := 1) (y := 1) rfl rfl (by omega)
  have t2 := ti_sub t1 (b := i) rfl (by omega)
  have t3 := ti_add t2 (b := 20) (y := 20) rfl (by omega)
  have e20 : (20 : Int32).toInt = 20 := rfl
  have d : ((n - 1 - i + 20) / 20).toInt = (n.toInt - 1 - i.toInt + 20) / 20 := by
    rw [Int32.toInt_div, t3, e20, Int.tdiv_eq_ediv_of_nonneg (by omega)]
    exact Int.bmod_eq_of_le (by omega) (by omega)
  have m := ti_mul (b := 20) (y := 20) d rfl (by omega)
  have s := ti_sub t3 m (by omega)
  have c3 := cl_toInt (x := n - 1 - i + 20 - (n - 1 - i + 20) / 20 * 20) (by omega)
  omega
set_option maxRecDepth 100000 in
set_option maxHeartbeats 4000000 in
theorem kX10_about (G : GG) (l : Launch) (M : MS) (ad : AD) (gi : GI) (w : WM) (hL : RLa G M ad gi w) (hsf : mi_sf M) (hK : mi_kind M) (hLa : mi_last M) (hEo : mi_eo M) (t what : Int32) : MC G l yX10_about cX10_about 4 ((Option.some .int)) ({ frames := 2, cells := 0, slots := 0, locals := 44 } : Room) [.ref (ad 0 0), .int t, .int what] w (fun v w' => v = some (.int (mo_about M t what).1) ∧ ∃ ad' gi', RLa G (mo_about M t what).2 ad' gi' w' ∧ ad' 0 0 = ad 0 0) := by
  refine mc_int (by decide) (Nat.le_of_ble_eq_true rfl) rfl rfl ?_
  intro p e s m args below meth c A H0 Q X hnm RTN
  have X : Cx G p s m args meth c A H0 cX10_about 4 RX10 := X
  have k0_ : w (ad 0 0) = some (.inr (11, [.ref (ad 1 0), .ref (ad 2 0), .ref (ad 3 0), .ref (ad 4 0), .ref (ad 5 0), .ref (ad 6 0), va_rf (sAd M ad (M.1 20)), .int (M.1 7), .int (M.1 29), .int (M.1 38), .int ((M.2.1 21).toInt32), .int ((M.2.1 22).toInt32), .int (M.1 5)])) := hL.1 0 0 (lvf 0 (by decide))
  refine aw_aload_n X dX10_about_0 rfl rfl ?_
  refine aw_iload_n X dX10_about_1 rfl rfl ?_
  refine aw_callV X (kX10_streamOf _ _ _ _ _ _ hL _) okm_X10_streamOf okX10 k0_ ml_X10_169 im_X10_streamOf se_X10_X10_streamOf rfl rfl (Nat.le_of_ble_eq_true rfl) ⟨Nat.le_of_ble_eq_true rfl, Nat.le_of_ble_eq_true rfl, Nat.le_of_ble_eq_true rfl, Nat.le_of_ble_eq_true rfl⟩ dX10_about_2 (fun v w2 hp => ?_)
  obtain ⟨rfl, hw9⟩ := hp
  have hw9 := hw9.symm
  subst hw9
  rcases hr101 : sAd M ad t with _ | a102
  · refine aw_astore_nN (lv' := [(3, _), (0, _), (1, _), (2, _)]) X dX10_about_5 rfl (by decide) rfl ?_
    refine aw_aload_nN X dX10_about_6 rfl rfl ?_
    refine aw_ifnonnullN X dX10_about_7 ?_
    refine aw_bipush X dX10_about_10 cb_m2 ?_
    refine RTN (some (.int _)) _ _ _ _ _ dX10_about_12 (⟨_, rfl⟩) (Nat.le_of_ble_eq_true rfl) (Nat.le_of_ble_eq_true rfl) ?_
    have hm : mo_about M t what = (-2, sI M 0 0) := by unfold mo_about; rw [if_neg (pl_ng (sAd_none hr101))]
    rw [hm]
    exact ⟨rfl, ad, gi, rl_0 hL, rfl⟩
  · obtain ⟨k103, he104, hp105⟩ := sAd_some hr101
    subst he104
    have ho106 := (pl_opn hp105).1
    refine aw_astore_n (lv' := [(3, _), (0, _), (1, _), (2, _)]) X dX10_about_5 rfl (by decide) rfl ?_
    refine aw_aload_n X dX10_about_6 rfl rfl ?_
    refine aw_ifnonnull (tgt := 13) X dX10_about_7 rfl ?_
    refine aw_iload_n X dX10_about_13 rfl rfl ?_
    rcases sw_8 what with c14 | c14 | c14 | c14 | c14 | c14 | c14 | c14 | c14
    · refine aw_tableOut (tgt := 111) X dX10_about_14 c14 rfl ?_
      refine aw_bipush X dX10_about_111 cb_m3 ?_
      refine RTN (some (.int _)) _ _ _ _ _ dX10_about_113 (⟨_, rfl⟩) (Nat.le_of_ble_eq_true rfl) (Nat.le_of_ble_eq_true rfl) ?_
      have hm : mo_about M t what = (swi what [M.2.2 8 k103, M.2.2 11 k103, en_ M k103, M.2.2 13 k103, M.2.2 14 k103, M.2.2 10 k103, (if M.2.2 9 k103 = 0 then 0 else 1), M.2.2 17 k103] (-3), sI M 0 0) := by unfold mo_about; rw [if_pos (pl_ge hp105), pl_k hp105]; rfl
      rw [hm]
      refine ⟨?_, ad, gi, rl_0 hL, rfl⟩
      show some (Value.int (-3)) = some (Value.int (swi what _ (-3)))
      rw [swi_out]
      exact c14
    · refine aw_tableIn (tgt := 60) (off := 46) X dX10_about_14 (by rw [c14]; decide) (by rw [c14]; decide) (by rw [c14]; rfl) rfl ?_
      refine aw_aload_n X dX10_about_60 rfl rfl ?_
      refine aw_getS X (k := 0) (v := .int (M.2.2 8 k103)) (rl_st hL ho106) (by decide) fl_X10_196 rfl dX10_about_61 ?_
      refine RTN (some (.int _)) _ _ _ _ _ dX10_about_64 (⟨_, rfl⟩) (Nat.le_of_ble_eq_true rfl) (Nat.le_of_ble_eq_true rfl) ?_
      have hm : mo_about M t what = (swi what [M.2.2 8 k103, M.2.2 11 k103, en_ M k103, M.2.2 13 k103, M.2.2 14 k103, M.2.2 10 k103, (if M.2.2 9 k103 = 0 then 0 else 1), M.2.2 17 k103] (-3), sI M 0 0) := by unfold mo_about; rw [if_pos (pl_ge hp105), pl_k hp105]; rfl
      rw [hm]
      subst c14
      refine ⟨?_, ad, gi, rl_0 hL, rfl⟩
      rfl
    · refine aw_tableIn (tgt := 65) (off := 51) X dX10_about_14 (by rw [c14]; decide) (by rw [c14]; decide) (by rw [c14]; rfl) rfl ?_
      refine aw_aload_n X dX10_about_65 rfl rfl ?_
      refine aw_getS X (k := 4) (v := .int (M.2.2 11 k103)) (rl_st hL ho106) (by decide) fl_X10_181 rfl dX10_about_66 ?_
      refine RTN (some (.int _)) _ _ _ _ _ dX10_about_69 (⟨_, rfl⟩) (Nat.le_of_ble_eq_true rfl) (Nat.le_of_ble_eq_true rfl) ?_
      have hm : mo_about M t what = (swi what [M.2.2 8 k103, M.2.2 11 k103, en_ M k103, M.2.2 13 k103, M.2.2 14 k103, M.2.2 10 k103, (if M.2.2 9 k103 = 0 then 0 else 1), M.2.2 17 k103] (-3), sI M 0 0) := by unfold mo_about; rw [if_pos (pl_ge hp105), pl_k hp105]; rfl
      rw [hm]
      subst c14
      refine ⟨?_, ad, gi, rl_0 hL, rfl⟩
      rfl
    · refine aw_tableIn (tgt := 70) (off := 56) X dX10_about_14 (by rw [c14]; decide) (by rw [c14]; decide) (by rw [c14]; rfl) rfl ?_
      refine aw_aload_n X dX10_about_70 rfl rfl ?_
      refine aw_callSU (n := 0) X (rl_st hL ho106) (fun h => rE5 _ _ M ad gi _ k103 h) okm_X5_end ⟨Nat.le_of_ble_eq_true rfl, Nat.le_of_ble_eq_true rfl, Nat.le_of_ble_eq_true rfl, Nat.le_of_ble_eq_true rfl⟩ ⟨rfl, rfl⟩ im_X5_end se_X5_X9_end (fun h => rE3 _ _ _ _ _ _ hL _ ho106 h) okm_X3_end ⟨Nat.le_of_ble_eq_true rfl, Nat.le_of_ble_eq_true rfl, Nat.le_of_ble_eq_true rfl, Nat.le_of_ble_eq_true rfl⟩ ⟨rfl, rfl⟩ im_X3_end se_X3_X9_end (fun h => rE1 _ _ _ _ _ _ hL hsf _ ho106 h) okm_X1_end ⟨Nat.le_of_ble_eq_true rfl, Nat.le_of_ble_eq_true rfl, Nat.le_of_ble_eq_true rfl, Nat.le_of_ble_eq_true rfl⟩ ⟨rfl, rfl⟩ im_X1_end se_X1_X9_end (fun h => rE7 _ _ _ _ _ _ hL hK hLa _ ho106 h) okm_X7_end ⟨Nat.le_of_ble_eq_true rfl, Nat.le_of_ble_eq_true rfl, Nat.le_of_ble_eq_true rfl, Nat.le_of_ble_eq_true rfl⟩ ⟨rfl, rfl⟩ im_X7_end se_X7_X9_end ml_X10_184 sm_X9_end (va_Decl.abs (X.2.2.2.2.2.2.2.2.1 _ dc_X9_end)) rfl rfl rfl (Nat.le_of_ble_eq_true rfl) dX10_about_71 (fun v w2 hp => ?_)
      obtain ⟨rfl, hw9⟩ := hp
      have hw9 := hw9.symm
      subst hw9
      refine RTN (some (.int _)) _ _ _ _ _ dX10_about_74 (⟨_, rfl⟩) (Nat.le_of_ble_eq_true rfl) (Nat.le_of_ble_eq_true rfl) ?_
      have hm : mo_about M t what = (swi what [M.2.2 8 k103, M.2.2 11 k103, en_ M k103, M.2.2 13 k103, M.2.2 14 k103, M.2.2 10 k103, (if M.2.2 9 k103 = 0 then 0 else 1), M.2.2 17 k103] (-3), sI M 0 0) := by unfold mo_about; rw [if_pos (pl_ge hp105), pl_k hp105]; rfl
      rw [hm]
      subst c14
      refine ⟨?_, ad, gi, rl_0 hL, rfl⟩
      rfl
    · refine aw_tableIn (tgt := 75) (off := 61) X dX10_about_14 (by rw [c14]; decide) (by rw [c14]; decide) (by rw [c14]; rfl) rfl ?_
      refine aw_aload_n X dX10_about_75 rfl rfl ?_
      refine aw_getS X (k := 5) (v := .int (M.2.2 13 k103)) (rl_st hL ho106) (by decide) fl_X10_218 rfl dX10_about_76 ?_
      refine RTN (some (.int _)) _ _ _ _ _ dX10_about_79 (⟨_, rfl⟩) (Nat.le_of_ble_eq_true rfl) (Nat.le_of_ble_eq_true rfl) ?_
      have hm : mo_about M t what = (swi what [M.2.2 8 k103, M.2.2 11 k103, en_ M k103, M.2.2 13 k103, M.2.2 14 k103, M.2.2 10 k103, (if M.2.2 9 k103 = 0 then 0 else 1), M.2.2 17 k103] (-3), sI M 0 0) := by unfold mo_about; rw [if_pos (pl_ge hp105), pl_k hp105]; rfl
      rw [hm]
      subst c14
      refine ⟨?_, ad, gi, rl_0 hL, rfl⟩
      rfl
    · refine aw_tableIn (tgt := 80) (off := 66) X dX10_about_14 (by rw [c14]; decide) (by rw [c14]; decide) (by rw [c14]; rfl) rfl ?_
      refine aw_aload_n X dX10_about_80 rfl rfl ?_
      refine aw_getS X (k := 6) (v := .int (M.2.2 14 k103)) (rl_st hL ho106) (by decide) fl_X10_193 rfl dX10_about_81 ?_
      refine RTN (some (.int _)) _ _ _ _ _ dX10_about_84 (⟨_, rfl⟩) (Nat.le_of_ble_eq_true rfl) (Nat.le_of_ble_eq_true rfl) ?_
      have hm : mo_about M t what = (swi what [M.2.2 8 k103, M.2.2 11 k103, en_ M k103, M.2.2 13 k103, M.2.2 14 k103, M.2.2 10 k103, (if M.2.2 9 k103 = 0 then 0 else 1), M.2.2 17 k103] (-3), sI M 0 0) := by unfold mo_about; rw [if_pos (pl_ge hp105), pl_k hp105]; rfl
      rw [hm]
      subst c14
      refine ⟨?_, ad, gi, rl_0 hL, rfl⟩
      rfl
    · refine aw_tableIn (tgt := 85) (off := 71) X dX10_about_14 (by rw [c14]; decide) (by rw [c14]; decide) (by rw [c14]; rfl) rfl ?_
      refine aw_aload_n X dX10_about_85 rfl rfl ?_
      refine aw_getS X (k := 1) (v := .int (M.2.2 10 k103)) (rl_st hL ho106) (by decide) fl_X10_221 rfl dX10_about_86 ?_
      refine RTN (some (.int _)) _ _ _ _ _ dX10_about_89 (⟨_, rfl⟩) (Nat.le_of_ble_eq_true rfl) (Nat.le_of_ble_eq_true rfl) ?_
      have hm : mo_about M t what = (swi what [M.2.2 8 k103, M.2.2 11 k103, en_ M k103, M.2.2 13 k103, M.2.2 14 k103, M.2.2 10 k103, (if M.2.2 9 k103 = 0 then 0 else 1), M.2.2 17 k103] (-3), sI M 0 0) := by unfold mo_about; rw [if_pos (pl_ge hp105), pl_k hp105]; rfl
      rw [hm]
      subst c14
      refine ⟨?_, ad, gi, rl_0 hL, rfl⟩
      rfl
    · refine aw_tableIn (tgt := 90) (off := 76) X dX10_about_14 (by rw [c14]; decide) (by rw [c14]; decide) (by rw [c14]; rfl) rfl ?_
      refine aw_aload_n X dX10_about_90 rfl rfl ?_
      refine aw_getS X (k := 2) (v := .int (M.2.2 9 k103)) (rl_st hL ho106) (by decide) fl_X10_224 rfl dX10_about_91 ?_
      refine aw_if_eq (tgt := 101) X dX10_about_94 rfl (fun c94 => ?_) (fun c94 => ?_)
      · refine aw_iconst X dX10_about_101 ci_0 ?_
        refine RTN (some (.int _)) _ _ _ _ _ dX10_about_102 (⟨_, rfl⟩) (Nat.le_of_ble_eq_true rfl) (Nat.le_of_ble_eq_true rfl) ?_
        have hm : mo_about M t what = (swi what [M.2.2 8 k103, M.2.2 11 k103, en_ M k103, M.2.2 13 k103, M.2.2 14 k103, M.2.2 10 k103, (if M.2.2 9 k103 = 0 then 0 else 1), M.2.2 17 k103] (-3), sI M 0 0) := by unfold mo_about; rw [if_pos (pl_ge hp105), pl_k hp105]; rfl
        rw [hm]
        subst c14
        refine ⟨?_, ad, gi, rl_0 hL, rfl⟩
        show _ = some (Value.int (if M.2.2 9 k103 = 0 then 0 else 1))
        rw [if_pos c94]
      · refine aw_iconst X dX10_about_97 ci_1 ?_
        refine aw_goto (tgt := 102) X dX10_about_98 rfl ?_
        refine RTN (some (.int _)) _ _ _ _ _ dX10_about_102 (⟨_, rfl⟩) (Nat.le_of_ble_eq_true rfl) (Nat.le_of_ble_eq_true rfl) ?_
        have hm : mo_about M t what = (swi what [M.2.2 8 k103, M.2.2 11 k103, en_ M k103, M.2.2 13 k103, M.2.2 14 k103, M.2.2 10 k103, (if M.2.2 9 k103 = 0 then 0 else 1), M.2.2 17 k103] (-3), sI M 0 0) := by unfold mo_about; rw [if_pos (pl_ge hp105), pl_k hp105]; rfl
        rw [hm]
        subst c14
        refine ⟨?_, ad, gi, rl_0 hL, rfl⟩
        show _ = some (Value.int (if M.2.2 9 k103 = 0 then 0 else 1))
        rw [if_neg c94]
    · refine aw_tableIn (tgt := 103) (off := 89) X dX10_about_14 (by rw [c14]; decide) (by rw [c14]; decide) (by rw [c14]; rfl) rfl ?_
      refine aw_aload_n X dX10_about_103 rfl rfl ?_
      refine aw_getS X (k := 7) (v := va_rf (sAd M ad (M.2.2 17 k103))) (rl_st hL ho106) (by decide) fl_X10_215 rfl dX10_about_104 ?_
      rcases hr107 : (sAd M ad (M.2.2 17 k103)) with _ | a108
      · refine aw_callS X (kX10_numberOf0 _ _ _) okm_X10_numberOf ml_X10_227 st_X10_numberOf rfl rfl (Nat.le_of_ble_eq_true rfl) ⟨Nat.le_of_ble_eq_true rfl, Nat.le_of_ble_eq_true rfl, Nat.le_of_ble_eq_true rfl, Nat.le_of_ble_eq_true rfl⟩ dX10_about_107 (fun v w2 hp => ?_)
        obtain ⟨rfl, hw9⟩ := hp
        have hw9 := hw9.symm
        subst hw9
        refine RTN (some (.int _)) _ _ _ _ _ dX10_about_110 (⟨_, rfl⟩) (Nat.le_of_ble_eq_true rfl) (Nat.le_of_ble_eq_true rfl) ?_
        have hm : mo_about M t what = (swi what [M.2.2 8 k103, M.2.2 11 k103, en_ M k103, M.2.2 13 k103, M.2.2 14 k103, M.2.2 10 k103, (if M.2.2 9 k103 = 0 then 0 else 1), M.2.2 17 k103] (-3), sI M 0 0) := by unfold mo_about; rw [if_pos (pl_ge hp105), pl_k hp105]; rfl
        rw [hm]
        subst c14
        refine ⟨?_, ad, gi, rl_0 hL, rfl⟩
        show _ = some (Value.int (M.2.2 17 k103))
        rw [eo_0 hEo ho106.1 (sAd_none hr107)]
      · obtain ⟨k109, he110, hp111⟩ := sAd_some hr107
        subst he110
        have ho112 := (pl_opn hp111).1
        refine aw_callS X (kX10_numberOf _ _ _ _ _ _ hL _ ho112) okm_X10_numberOf ml_X10_227 st_X10_numberOf rfl rfl (Nat.le_of_ble_eq_true rfl) ⟨Nat.le_of_ble_eq_true rfl, Nat.le_of_ble_eq_true rfl, Nat.le_of_ble_eq_true rfl, Nat.le_of_ble_eq_true rfl⟩ dX10_about_107 (fun v w2 hp => ?_)
        obtain ⟨rfl, hw9⟩ := hp
        have hw9 := hw9.symm
        subst hw9
        refine RTN (some (.int _)) _ _ _ _ _ dX10_about_110 (⟨_, rfl⟩) (Nat.le_of_ble_eq_true rfl) (Nat.le_of_ble_eq_true rfl) ?_
        have hm : mo_about M t what = (swi what [M.2.2 8 k103, M.2.2 11 k103, en_ M k103, M.2.2 13 k103, M.2.2 14 k103, M.2.2 10 k103, (if M.2.2 9 k103 = 0 then 0 else 1), M.2.2 17 k103] (-3), sI M 0 0) := by unfold mo_about; rw [if_pos (pl_ge hp105), pl_k hp105]; rfl
        rw [hm]
        subst c14
        refine ⟨?_, ad, gi, rl_0 hL, rfl⟩
        show _ = some (Value.int (M.2.2 17 k103))
        rw [(pl_opn hp111).2]
set_option maxRecDepth 100000 in
set_option maxHeartbeats 4000000 in
theorem kX10_shown (G : GG) (l : Launch) (M : MS) (ad : AD) (gi : GI) (w : WM) (hL : RLa G M ad gi w) (hSg : mi_signs M) (t i1 : Int32) : MC G l yX10_shown cX10_shown 5 ((Option.some .int)) ({ frames := 2, cells := 0, slots := 0, locals := 44 } : Room) [.ref (ad 0 0), .int t, .int i1] w (fun v w' => v = some (.int (mo_shown M t i1).1) ∧ ∃ ad' gi', RLa G (mo_shown M t i1).2 ad' gi' w' ∧ ad' 0 0 = ad 0 0) := by
  refine mc_int (by decide) (Nat.le_of_ble_eq_true rfl) rfl rfl ?_
  intro p e s m args below meth c A H0 Q X hnm RTN
  have X : Cx G p s m args meth c A H0 cX10_shown 5 RX10 := X
  have k0_ : w (ad 0 0) = some (.inr (11, [.ref (ad 1 0), .ref (ad 2 0), .ref (ad 3 0), .ref (ad 4 0), .ref (ad 5 0), .ref (ad 6 0), va_rf (sAd M ad (M.1 20)), .int (M.1 7), .int (M.1 29), .int (M.1 38), .int ((M.2.1 21).toInt32), .int ((M.2.1 22).toInt32), .int (M.1 5)])) := hL.1 0 0 (lvf 0 (by decide))
  refine aw_aload_n X dX10_shown_0 rfl rfl ?_
  refine aw_iload_n X dX10_shown_1 rfl rfl ?_
  refine aw_callV X (kX10_streamOf _ _ _ _ _ _ hL _) okm_X10_streamOf okX10 k0_ ml_X10_169 im_X10_streamOf se_X10_X10_streamOf rfl rfl (Nat.le_of_ble_eq_true rfl) ⟨Nat.le_of_ble_eq_true rfl, Nat.le_of_ble_eq_true rfl, Nat.le_of_ble_eq_true rfl, Nat.le_of_ble_eq_true rfl⟩ dX10_shown_2 (fun v w2 hp => ?_)
  obtain ⟨rfl, hw9⟩ := hp
  have hw9 := hw9.symm
  subst hw9
  rcases hr113 : sAd M ad t with _ | a114
  · refine aw_astore_nN (lv' := [(3, _), (0, _), (1, _), (2, _)]) X dX10_shown_5 rfl (by decide) rfl ?_
    refine aw_aload_nN X dX10_shown_6 rfl rfl ?_
    refine aw_ifnonnullN X dX10_shown_7 ?_
    refine aw_bipush X dX10_shown_10 cb_m2 ?_
    refine RTN (some (.int _)) _ _ _ _ _ dX10_shown_12 (⟨_, rfl⟩) (Nat.le_of_ble_eq_true rfl) (Nat.le_of_ble_eq_true rfl) ?_
    have hm : mo_shown M t i1 = (-2, sI M 0 0) := by unfold mo_shown; rw [if_neg (pl_ng (sAd_none hr113))]
    rw [hm]
    exact ⟨rfl, ad, gi, rl_0 hL, rfl⟩
  · obtain ⟨k115, he116, hp117⟩ := sAd_some hr113
    subst he116
    have ho118 := (pl_opn hp117).1
    refine aw_astore_n (lv' := [(3, _), (0, _), (1, _), (2, _)]) X dX10_shown_5 rfl (by decide) rfl ?_
    refine aw_aload_n X dX10_shown_6 rfl rfl ?_
    refine aw_ifnonnull (tgt := 13) X dX10_shown_7 rfl ?_
    refine aw_aload_n X dX10_shown_13 rfl rfl ?_
    by_cases h8 : M.2.2 8 k115 = 0
    · refine aw_instY X okX5 (rl_s0 hL ho118 h8) cl_X10_117 ca_X5_X5 dX10_shown_14 ?_
      refine aw_if_eq (tgt := 33) X dX10_shown_17 rfl (fun c17 => ?_) (fun c17 => ?_)
      · exact absurd c17 (by decide)
      · refine aw_aload_n X dX10_shown_20 rfl rfl ?_
        refine aw_castY X okX5 (rl_s0 hL ho118 h8) cl_X10_117 ca_X5_X5 dX10_shown_21 ?_
        refine aw_astore (lv' := [(4, _), (3, _), (0, _), (1, _), (2, _)]) X dX10_shown_24 (by decide) rfl ?_
        refine aw_aload X dX10_shown_26 rfl ?_
        refine aw_iload_n X dX10_shown_28 rfl rfl ?_
        refine aw_callV X (kX5_latest _ _ _ (ad 13 k115) (cSI M gi k115) _ _ h8 (rl_o0 hL ho118 h8) (gi 1 k115) (hL.1 14 k115 ⟨ho118, h8⟩) (by show bt (c9 M gi k115) 0 19 = true; rw [c9_0 h8]; exact (hL.2.2.1 k115 ho118 h8).1) (hSg k115 ho118.1) _) okm_X5_latest okX5 (rl_s0 hL ho118 h8) ml_X10_230 im_X5_latest se_X5_X5_latest rfl rfl (Nat.le_of_ble_eq_true rfl) ⟨Nat.le_of_ble_eq_true rfl, Nat.le_of_ble_eq_true rfl, Nat.le_of_ble_eq_true rfl, Nat.le_of_ble_eq_true rfl⟩ dX10_shown_29 (fun v w2 hp => ?_)
        obtain ⟨rfl, hw9⟩ := hp
        have hw9 := hw9.symm
        subst hw9
        refine RTN (some (.int _)) _ _ _ _ _ dX10_shown_32 (⟨_, rfl⟩) (Nat.le_of_ble_eq_true rfl) (Nat.le_of_ble_eq_true rfl) ?_
        have hm : mo_shown M t i1 = ((if M.2.2 8 k115 = 0 then (if bt i1 0 (M.2.2 19 k115 - 1).toInt then M.2.2 18 (40 * nI k115 + i1).toNatClampNeg else -1) else -4), sI M 0 0) := by unfold mo_shown; rw [if_pos (pl_ge hp117), pl_k hp117, pl_oI hp117]
        rw [hm, if_pos h8]
        refine ⟨congrArg (fun x => some (Value.int x)) ?_, ad, gi, rl_0 hL, rfl⟩
        have hsg := bt_iff.mp (hSg k115 ho118.1)
        have hsd := hL.2.2.1 k115 ho118 h8
        have e9 : cSI M gi k115 9 = gi 0 k115 0 := c9_0 h8
        have e10 : cSI M gi k115 10 = M.2.2 19 k115 := rfl
        have t1 := ti_sub (a := M.2.2 19 k115) (b := 1) (y := 1) rfl rfl (by omega)
        have e0 : (0 : Int32).toInt = 0 := rfl
        by_cases hb : bt i1 0 (M.2.2 19 k115 - 1).toInt = true
        · have b1 := bt_iff.mp hb
          have c1 := cl_toInt (x := i1) b1.1
          rw [if_pos hb, if_neg (by rw [e10, i32_lt, i32_le]; omega), e9, lat_ix hsd.1 (bt_iff.mpr ⟨b1.1, by omega⟩), hsd.2 i1.toNatClampNeg (by omega)]
          have e5 : nI i1.toNatClampNeg = i1 := nI_cl b1.1
          rw [← ix_k (k := k115) (j := i1.toNatClampNeg) (by have := ho118.1; omega) (by omega), e5]
        · rw [if_neg hb, if_pos (Decidable.byContradiction (fun z => hb (bt_iff.mpr (by rw [e10, i32_lt, i32_le] at z; omega))))]
    · refine aw_instX5N X (rl_st hL ho118) (show ¬ cSI M gi k115 0 = 0 from h8) cl_X10_117 dX10_shown_14 ?_
      refine aw_if_eq (tgt := 33) X dX10_shown_17 rfl (fun c17 => ?_) (fun c17 => ?_)
      · refine aw_bipush X dX10_shown_33 cb_m4 ?_
        refine RTN (some (.int _)) _ _ _ _ _ dX10_shown_35 (⟨_, rfl⟩) (Nat.le_of_ble_eq_true rfl) (Nat.le_of_ble_eq_true rfl) ?_
        have hm : mo_shown M t i1 = ((if M.2.2 8 k115 = 0 then (if bt i1 0 (M.2.2 19 k115 - 1).toInt then M.2.2 18 (40 * nI k115 + i1).toNatClampNeg else -1) else -4), sI M 0 0) := by unfold mo_shown; rw [if_pos (pl_ge hp117), pl_k hp117, pl_oI hp117]
        rw [hm, if_neg h8]
        exact ⟨rfl, ad, gi, rl_0 hL, rfl⟩
      · exact absurd c17 (by decide)
theorem mm_eq {b : Int64} {en : Int32} (h : 0 ≤ en.toInt) : (if (0 : Int64) < (if en.toInt64 < b then en.toInt64 else b) then (if en.toInt64 < b then en.toInt64 else b) else 0).toInt32 = (if 0 ≤ b then (if b ≤ en.toInt64 then b.toInt32 else en) else 0) := by
  have e0 : (0 : Int64).toInt = 0 := rfl
  have e1 := i64_32 en
  by_cases h1 : en.toInt64 < b
  · rw [if_pos h1]
    have h2 : 0 ≤ b := by rw [i64_le]; rw [i64_lt] at h1; omega
    have h3 : ¬ b ≤ en.toInt64 := by rw [i64_le]; rw [i64_lt] at h1; omega
    rw [if_pos h2, if_neg h3]
    by_cases h4 : 0 < en.toInt64
    · rw [if_pos h4, Int32.toInt32_toInt64]
    · rw [if_neg h4]
      rw [i64_lt] at h4
      have : en = 0 := (i32_eq _ 0).mpr (show en.toInt = 0 by omega)
      rw [this]; rfl
  · rw [if_neg h1]
    by_cases h2 : 0 ≤ b
    · have h3 : b ≤ en.toInt64 := by rw [i64_le]; rw [i64_lt] at h1; omega
      rw [if_pos h2, if_pos h3]
      by_cases h4 : 0 < b
      · rw [if_pos h4]
      · rw [if_neg h4]
        rw [i64_lt] at h4
        rw [i64_le] at h2
        have : b = 0 := Int64.toInt_inj.mp (show b.toInt = (0 : Int64).toInt by omega)
        rw [this]
    · rw [if_neg h2, if_neg (fun z => h2 (by rw [i64_lt] at z; rw [i64_le]; omega))]
      rfl
theorem en_nn {M : MS} (hLa : mi_last M) (hFl : mi_file M) (hBy : mi_bytes M) {k : Nat} (hk : k < 8) : 0 ≤ (en_ M k).toInt := by
  unfold en_
  split
  · decide
  · unfold mo_end
    split
    · rename_i h2
      have a := bt_iff.mp (hFl k hk h2)
      have c := cl_toInt a.1
      have b := bt_iff.mp (hBy (M.2.2 16 k).toNatClampNeg (by omega))
      split
      · rw [Int32.div_one]; exact b.1
      · rw [Int32.toInt_div, show (4 : Int32).toInt = 4 from rfl, Int.tdiv_eq_ediv_of_nonneg b.1, Int.bmod_eq_of_le (by omega) (by omega)]
        omega
    · exact (bt_iff.mp (hLa k hk)).1
set_option maxRecDepth 100000 in
set_option maxHeartbeats 4000000 in
theorem kX10_seek (G : GG) (l : Launch) (M : MS) (ad : AD) (gi : GI) (w : WM) (hL : RLa G M ad gi w) (hsf : mi_sf M) (hK : mi_kind M) (hLa : mi_last M) (hFl : mi_file M) (hBy : mi_bytes M) (t at_ from_ : Int32) : MC G l yX10_seek cX10_seek 8 ((Option.some .int)) ({ frames := 2, cells := 0, slots := 0, locals := 44 } : Room) [.ref (ad 0 0), .int t, .int at_, .int from_] w (fun v w' => v = some (.int (mo_seek M t at_ from_).1) ∧ ∃ ad' gi', RLa G (mo_seek M t at_ from_).2 ad' gi' w' ∧ ad' 0 0 = ad 0 0) := by
  refine mc_int (by decide) (Nat.le_of_ble_eq_true rfl) rfl rfl ?_
  intro p e s m args below meth c A H0 Q X hnm RTN
  have X : Cx G p s m args meth c A H0 cX10_seek 8 RX10 := X
  have k0_ : w (ad 0 0) = some (.inr (11, [.ref (ad 1 0), .ref (ad 2 0), .ref (ad 3 0), .ref (ad 4 0), .ref (ad 5 0), .ref (ad 6 0), va_rf (sAd M ad (M.1 20)), .int (M.1 7), .int (M.1 29), .int (M.1 38), .int ((M.2.1 21).toInt32), .int ((M.2.1 22).toInt32), .int (M.1 5)])) := hL.1 0 0 (lvf 0 (by decide))
  refine aw_aload_n X dX10_seek_0 rfl rfl ?_
  refine aw_iload_n X dX10_seek_1 rfl rfl ?_
  refine aw_callV X (kX10_streamOf _ _ _ _ _ _ hL _) okm_X10_streamOf okX10 k0_ ml_X10_169 im_X10_streamOf se_X10_X10_streamOf rfl rfl (Nat.le_of_ble_eq_true rfl) ⟨Nat.le_of_ble_eq_true rfl, Nat.le_of_ble_eq_true rfl, Nat.le_of_ble_eq_true rfl, Nat.le_of_ble_eq_true rfl⟩ dX10_seek_2 (fun v w2 hp => ?_)
  obtain ⟨rfl, hw9⟩ := hp
  have hw9 := hw9.symm
  subst hw9
  rcases hr119 : sAd M ad t with _ | a120
  · refine aw_astoreN (lv' := [(4, _), (0, _), (1, _), (2, _), (3, _)]) X dX10_seek_5 (by decide) rfl ?_
    refine aw_aloadN X dX10_seek_7 rfl ?_
    refine aw_ifnonnullN X dX10_seek_9 ?_
    refine aw_bipush X dX10_seek_12 cb_m2 ?_
    refine RTN (some (.int _)) _ _ _ _ _ dX10_seek_14 (⟨_, rfl⟩) (Nat.le_of_ble_eq_true rfl) (Nat.le_of_ble_eq_true rfl) ?_
    have hm : mo_seek M t at_ from_ = (-2, sI M 0 0) := by unfold mo_seek; rw [if_neg (pl_ng (sAd_none hr119))]
    rw [hm]
    exact ⟨rfl, ad, gi, rl_0 hL, rfl⟩
  · obtain ⟨k121, he122, hp123⟩ := sAd_some hr119
    subst he122
    have ho124 := (pl_opn hp123).1
    refine aw_astore (lv' := [(4, _), (0, _), (1, _), (2, _), (3, _)]) X dX10_seek_5 (by decide) rfl ?_
    refine aw_aload X dX10_seek_7 rfl ?_
    refine aw_ifnonnull (tgt := 15) X dX10_seek_9 rfl ?_
    refine aw_iload_n X dX10_seek_15 rfl rfl ?_
    refine aw_iconst X dX10_seek_16 ci_0 ?_
    refine aw_iconst X dX10_seek_17 ci_2 ?_
    refine aw_callS X (kX10_within _ _ _ _ _ _ 0 2 rfl rfl) okm_X10_within ml_X10_50 st_X10_within rfl rfl (Nat.le_of_ble_eq_true rfl) ⟨Nat.le_of_ble_eq_true rfl, Nat.le_of_ble_eq_true rfl, Nat.le_of_ble_eq_true rfl, Nat.le_of_ble_eq_true rfl⟩ dX10_seek_18 (fun v w2 hp => ?_)
    obtain ⟨rfl, hw9⟩ := hp
    have hw9 := hw9.symm
    subst hw9
    refine aw_if_ne (tgt := 27) X dX10_seek_21 rfl (fun c21 => ?_) (fun c21 => ?_)
    · rw [bI_n0] at c21
      refine aw_aload X dX10_seek_27 rfl ?_
      refine aw_getS X (k := 0) (v := .int (M.2.2 8 k121)) (rl_st hL ho124) (by decide) fl_X10_196 rfl dX10_seek_29 ?_
      refine aw_if_ne (tgt := 38) X dX10_seek_32 rfl (fun c32 => ?_) (fun c32 => ?_)
      · refine aw_aload X dX10_seek_38 rfl ?_
        refine aw_callSU (n := 0) X (rl_st hL ho124) (fun h => rE5 _ _ M ad gi _ k121 h) okm_X5_end ⟨Nat.le_of_ble_eq_true rfl, Nat.le_of_ble_eq_true rfl, Nat.le_of_ble_eq_true rfl, Nat.le_of_ble_eq_true rfl⟩ ⟨rfl, rfl⟩ im_X5_end se_X5_X9_end (fun h => rE3 _ _ _ _ _ _ hL _ ho124 h) okm_X3_end ⟨Nat.le_of_ble_eq_true rfl, Nat.le_of_ble_eq_true rfl, Nat.le_of_ble_eq_true rfl, Nat.le_of_ble_eq_true rfl⟩ ⟨rfl, rfl⟩ im_X3_end se_X3_X9_end (fun h => rE1 _ _ _ _ _ _ hL hsf _ ho124 h) okm_X1_end ⟨Nat.le_of_ble_eq_true rfl, Nat.le_of_ble_eq_true rfl, Nat.le_of_ble_eq_true rfl, Nat.le_of_ble_eq_true rfl⟩ ⟨rfl, rfl⟩ im_X1_end se_X1_X9_end (fun h => rE7 _ _ _ _ _ _ hL hK hLa _ ho124 h) okm_X7_end ⟨Nat.le_of_ble_eq_true rfl, Nat.le_of_ble_eq_true rfl, Nat.le_of_ble_eq_true rfl, Nat.le_of_ble_eq_true rfl⟩ ⟨rfl, rfl⟩ im_X7_end se_X7_X9_end ml_X10_184 sm_X9_end (va_Decl.abs (X.2.2.2.2.2.2.2.2.1 _ dc_X9_end)) rfl rfl rfl (Nat.le_of_ble_eq_true rfl) dX10_seek_40 (fun v w2 hp => ?_)
        obtain ⟨rfl, hw9⟩ := hp
        have hw9 := hw9.symm
        subst hw9
        refine aw_istore (lv' := [(5, _), (4, _), (0, _), (1, _), (2, _), (3, _)]) X dX10_seek_43 (by decide) rfl ?_
        refine aw_iload_n X dX10_seek_45 rfl rfl ?_
        refine aw_if_ne (tgt := 53) X dX10_seek_46 rfl (fun c46 => ?_) (fun c46 => ?_)
        · refine aw_iload_n X dX10_seek_53 rfl rfl ?_
          refine aw_iconst X dX10_seek_54 ci_1 ?_
          refine aw_icmp_ne (tgt := 67) X dX10_seek_55 rfl (fun c55 => ?_) (fun c55 => ?_)
          · refine aw_iload X dX10_seek_67 rfl ?_
            refine aw_i2l X dX10_seek_69 ?_
            refine aw_lstore (lv' := [(6, _), (5, _), (4, _), (0, _), (1, _), (2, _), (3, _)]) X dX10_seek_70 (by decide) rfl ?_
            refine aw_aload X dX10_seek_72 rfl ?_
            refine aw_lconst X dX10_seek_74 cl_0 ?_
            refine aw_lload X dX10_seek_75 rfl ?_
            refine aw_iload_n X dX10_seek_77 rfl rfl ?_
            refine aw_i2l X dX10_seek_78 ?_
            refine aw_ladd X dX10_seek_79 ?_
            refine aw_iload X dX10_seek_80 rfl ?_
            refine aw_i2l X dX10_seek_82 ?_
            refine aw_callS X (kJ9_min_f86c9 _ _ _ _ _) okm_J9_min_f86c9 ml_X10_199 st_J9_min_f86c9 rfl rfl (Nat.le_of_ble_eq_true rfl) ⟨Nat.le_of_ble_eq_true rfl, Nat.le_of_ble_eq_true rfl, Nat.le_of_ble_eq_true rfl, Nat.le_of_ble_eq_true rfl⟩ dX10_seek_83 (fun v w2 hp => ?_)
            obtain ⟨rfl, hw9⟩ := hp
            have hw9 := hw9.symm
            subst hw9
            refine aw_callS X (kJ9_max_f86c9 _ _ _ _ _) okm_J9_max_f86c9 ml_X10_205 st_J9_max_f86c9 rfl rfl (Nat.le_of_ble_eq_true rfl) ⟨Nat.le_of_ble_eq_true rfl, Nat.le_of_ble_eq_true rfl, Nat.le_of_ble_eq_true rfl, Nat.le_of_ble_eq_true rfl⟩ dX10_seek_86 (fun v w2 hp => ?_)
            obtain ⟨rfl, hw9⟩ := hp
            have hw9 := hw9.symm
            subst hw9
            refine aw_l2i X dX10_seek_89 ?_
            refine aw_putS4 X (rl_st hL ho124) fl_X10_181 dX10_seek_90 (fun w125 hk126 hn127 he128 => ?_)
            have hk129 := (hn127 _ (rl_ne hL (t := 0) (i := 0) (t' := 13) (i' := k121) (lvf 0 (by decide)) (ho124) (Or.inl rfl) (fun z => absurd z.1 (by decide)))).trans k0_
            refine aw_aload X dX10_seek_93 rfl ?_
            refine aw_getS X (k := 4) hk126 (by decide) fl_X10_181 rfl dX10_seek_95 ?_
            refine RTN (some (.int _)) _ _ _ _ _ dX10_seek_98 (⟨_, rfl⟩) (Nat.le_of_ble_eq_true rfl) (Nat.le_of_ble_eq_true rfl) ?_
            have ee : mo_end M k121 = en_ M k121 := (if_neg c32 : en_ M k121 = mo_end M k121).symm
            have hs : mo_spl (sI M 0 0) k121 at_ from_ = ((if 0 < (if ((en_ M k121).toInt64) < (((en_ M k121).toInt64) + at_.toInt64) then ((en_ M k121).toInt64) else (((en_ M k121).toInt64) + at_.toInt64)) then (if ((en_ M k121).toInt64) < (((en_ M k121).toInt64) + at_.toInt64) then ((en_ M k121).toInt64) else (((en_ M k121).toInt64) + at_.toInt64)) else 0).toInt32) := by
              have e1 : mo_sto (sI M 0 0) k121 at_ from_ = (en_ M k121).toInt64 + at_.toInt64 := by
                show (if from_ = 0 then 0 else if from_ = 1 then (M.2.2 11 k121).toInt64 else (mo_end M k121).toInt64) + at_.toInt64 = _
                rw [if_neg c46, if_neg c55]; rw [ee]
              show (if 0 ≤ mo_sto (sI M 0 0) k121 at_ from_ then (if mo_sto (sI M 0 0) k121 at_ from_ ≤ (mo_end M k121).toInt64 then (mo_sto (sI M 0 0) k121 at_ from_).toInt32 else mo_end M k121) else 0) = _
              rw [e1, ee]
              exact (mm_eq (en_nn hLa hFl hBy ho124.1)).symm
            have hm : mo_seek M t at_ from_ = (((if 0 < (if ((en_ M k121).toInt64) < (((en_ M k121).toInt64) + at_.toInt64) then ((en_ M k121).toInt64) else (((en_ M k121).toInt64) + at_.toInt64)) then (if ((en_ M k121).toInt64) < (((en_ M k121).toInt64) + at_.toInt64) then ((en_ M k121).toInt64) else (((en_ M k121).toInt64) + at_.toInt64)) else 0).toInt32), sF (sI M 0 0) 11 k121 ((if 0 < (if ((en_ M k121).toInt64) < (((en_ M k121).toInt64) + at_.toInt64) then ((en_ M k121).toInt64) else (((en_ M k121).toInt64) + at_.toInt64)) then (if ((en_ M k121).toInt64) < (((en_ M k121).toInt64) + at_.toInt64) then ((en_ M k121).toInt64) else (((en_ M k121).toInt64) + at_.toInt64)) else 0).toInt32)) := by unfold mo_seek; rw [if_pos (pl_ge hp123), if_pos c21, pl_k hp123, if_neg c32, hs]
            rw [hm]
            exact ⟨rfl, ad, gi, rl_p4 hL ho124 hk126 (fun b h1 => by rw [he128, wm_upn h1]), rfl⟩
          · refine aw_aload X dX10_seek_58 rfl ?_
            refine aw_getS X (k := 4) (v := .int (M.2.2 11 k121)) (rl_st hL ho124) (by decide) fl_X10_181 rfl dX10_seek_60 ?_
            refine aw_i2l X dX10_seek_63 ?_
            refine aw_goto (tgt := 70) X dX10_seek_64 rfl ?_
            refine aw_lstore (lv' := [(6, _), (5, _), (4, _), (0, _), (1, _), (2, _), (3, _)]) X dX10_seek_70 (by decide) rfl ?_
            refine aw_aload X dX10_seek_72 rfl ?_
            refine aw_lconst X dX10_seek_74 cl_0 ?_
            refine aw_lload X dX10_seek_75 rfl ?_
            refine aw_iload_n X dX10_seek_77 rfl rfl ?_
            refine aw_i2l X dX10_seek_78 ?_
            refine aw_ladd X dX10_seek_79 ?_
            refine aw_iload X dX10_seek_80 rfl ?_
            refine aw_i2l X dX10_seek_82 ?_
            refine aw_callS X (kJ9_min_f86c9 _ _ _ _ _) okm_J9_min_f86c9 ml_X10_199 st_J9_min_f86c9 rfl rfl (Nat.le_of_ble_eq_true rfl) ⟨Nat.le_of_ble_eq_true rfl, Nat.le_of_ble_eq_true rfl, Nat.le_of_ble_eq_true rfl, Nat.le_of_ble_eq_true rfl⟩ dX10_seek_83 (fun v w2 hp => ?_)
            obtain ⟨rfl, hw9⟩ := hp
            have hw9 := hw9.symm
            subst hw9
            refine aw_callS X (kJ9_max_f86c9 _ _ _ _ _) okm_J9_max_f86c9 ml_X10_205 st_J9_max_f86c9 rfl rfl (Nat.le_of_ble_eq_true rfl) ⟨Nat.le_of_ble_eq_true rfl, Nat.le_of_ble_eq_true rfl, Nat.le_of_ble_eq_true rfl, Nat.le_of_ble_eq_true rfl⟩ dX10_seek_86 (fun v w2 hp => ?_)
            obtain ⟨rfl, hw9⟩ := hp
            have hw9 := hw9.symm
            subst hw9
            refine aw_l2i X dX10_seek_89 ?_
            refine aw_putS4 X (rl_st hL ho124) fl_X10_181 dX10_seek_90 (fun w130 hk131 hn132 he133 => ?_)
            have hk134 := (hn132 _ (rl_ne hL (t := 0) (i := 0) (t' := 13) (i' := k121) (lvf 0 (by decide)) (ho124) (Or.inl rfl) (fun z => absurd z.1 (by decide)))).trans k0_
            refine aw_aload X dX10_seek_93 rfl ?_
            refine aw_getS X (k := 4) hk131 (by decide) fl_X10_181 rfl dX10_seek_95 ?_
            refine RTN (some (.int _)) _ _ _ _ _ dX10_seek_98 (⟨_, rfl⟩) (Nat.le_of_ble_eq_true rfl) (Nat.le_of_ble_eq_true rfl) ?_
            have ee : mo_end M k121 = en_ M k121 := (if_neg c32 : en_ M k121 = mo_end M k121).symm
            have hs : mo_spl (sI M 0 0) k121 at_ from_ = ((if 0 < (if ((en_ M k121).toInt64) < (((M.2.2 11 k121).toInt64) + at_.toInt64) then ((en_ M k121).toInt64) else (((M.2.2 11 k121).toInt64) + at_.toInt64)) then (if ((en_ M k121).toInt64) < (((M.2.2 11 k121).toInt64) + at_.toInt64) then ((en_ M k121).toInt64) else (((M.2.2 11 k121).toInt64) + at_.toInt64)) else 0).toInt32) := by
              have e1 : mo_sto (sI M 0 0) k121 at_ from_ = (M.2.2 11 k121).toInt64 + at_.toInt64 := by
                show (if from_ = 0 then 0 else if from_ = 1 then (M.2.2 11 k121).toInt64 else (mo_end M k121).toInt64) + at_.toInt64 = _
                rw [if_neg c46, if_pos c55]
              show (if 0 ≤ mo_sto (sI M 0 0) k121 at_ from_ then (if mo_sto (sI M 0 0) k121 at_ from_ ≤ (mo_end M k121).toInt64 then (mo_sto (sI M 0 0) k121 at_ from_).toInt32 else mo_end M k121) else 0) = _
              rw [e1, ee]
              exact (mm_eq (en_nn hLa hFl hBy ho124.1)).symm
            have hm : mo_seek M t at_ from_ = (((if 0 < (if ((en_ M k121).toInt64) < (((M.2.2 11 k121).toInt64) + at_.toInt64) then ((en_ M k121).toInt64) else (((M.2.2 11 k121).toInt64) + at_.toInt64)) then (if ((en_ M k121).toInt64) < (((M.2.2 11 k121).toInt64) + at_.toInt64) then ((en_ M k121).toInt64) else (((M.2.2 11 k121).toInt64) + at_.toInt64)) else 0).toInt32), sF (sI M 0 0) 11 k121 ((if 0 < (if ((en_ M k121).toInt64) < (((M.2.2 11 k121).toInt64) + at_.toInt64) then ((en_ M k121).toInt64) else (((M.2.2 11 k121).toInt64) + at_.toInt64)) then (if ((en_ M k121).toInt64) < (((M.2.2 11 k121).toInt64) + at_.toInt64) then ((en_ M k121).toInt64) else (((M.2.2 11 k121).toInt64) + at_.toInt64)) else 0).toInt32)) := by unfold mo_seek; rw [if_pos (pl_ge hp123), if_pos c21, pl_k hp123, if_neg c32, hs]
            rw [hm]
            exact ⟨rfl, ad, gi, rl_p4 hL ho124 hk131 (fun b h1 => by rw [he133, wm_upn h1]), rfl⟩
        · refine aw_lconst X dX10_seek_49 cl_0 ?_
          refine aw_goto (tgt := 70) X dX10_seek_50 rfl ?_
          refine aw_lstore (lv' := [(6, _), (5, _), (4, _), (0, _), (1, _), (2, _), (3, _)]) X dX10_seek_70 (by decide) rfl ?_
          refine aw_aload X dX10_seek_72 rfl ?_
          refine aw_lconst X dX10_seek_74 cl_0 ?_
          refine aw_lload X dX10_seek_75 rfl ?_
          refine aw_iload_n X dX10_seek_77 rfl rfl ?_
          refine aw_i2l X dX10_seek_78 ?_
          refine aw_ladd X dX10_seek_79 ?_
          refine aw_iload X dX10_seek_80 rfl ?_
          refine aw_i2l X dX10_seek_82 ?_
          refine aw_callS X (kJ9_min_f86c9 _ _ _ _ _) okm_J9_min_f86c9 ml_X10_199 st_J9_min_f86c9 rfl rfl (Nat.le_of_ble_eq_true rfl) ⟨Nat.le_of_ble_eq_true rfl, Nat.le_of_ble_eq_true rfl, Nat.le_of_ble_eq_true rfl, Nat.le_of_ble_eq_true rfl⟩ dX10_seek_83 (fun v w2 hp => ?_)
          obtain ⟨rfl, hw9⟩ := hp
          have hw9 := hw9.symm
          subst hw9
          refine aw_callS X (kJ9_max_f86c9 _ _ _ _ _) okm_J9_max_f86c9 ml_X10_205 st_J9_max_f86c9 rfl rfl (Nat.le_of_ble_eq_true rfl) ⟨Nat.le_of_ble_eq_true rfl, Nat.le_of_ble_eq_true rfl, Nat.le_of_ble_eq_true rfl, Nat.le_of_ble_eq_true rfl⟩ dX10_seek_86 (fun v w2 hp => ?_)
          obtain ⟨rfl, hw9⟩ := hp
          have hw9 := hw9.symm
          subst hw9
          refine aw_l2i X dX10_seek_89 ?_
          refine aw_putS4 X (rl_st hL ho124) fl_X10_181 dX10_seek_90 (fun w135 hk136 hn137 he138 => ?_)
          have hk139 := (hn137 _ (rl_ne hL (t := 0) (i := 0) (t' := 13) (i' := k121) (lvf 0 (by decide)) (ho124) (Or.inl rfl) (fun z => absurd z.1 (by decide)))).trans k0_
          refine aw_aload X dX10_seek_93 rfl ?_
          refine aw_getS X (k := 4) hk136 (by decide) fl_X10_181 rfl dX10_seek_95 ?_
          refine RTN (some (.int _)) _ _ _ _ _ dX10_seek_98 (⟨_, rfl⟩) (Nat.le_of_ble_eq_true rfl) (Nat.le_of_ble_eq_true rfl) ?_
          have ee : mo_end M k121 = en_ M k121 := (if_neg c32 : en_ M k121 = mo_end M k121).symm
          have hs : mo_spl (sI M 0 0) k121 at_ from_ = ((if 0 < (if ((en_ M k121).toInt64) < (0 + at_.toInt64) then ((en_ M k121).toInt64) else (0 + at_.toInt64)) then (if ((en_ M k121).toInt64) < (0 + at_.toInt64) then ((en_ M k121).toInt64) else (0 + at_.toInt64)) else 0).toInt32) := by
            have e1 : mo_sto (sI M 0 0) k121 at_ from_ = 0 + at_.toInt64 := by
              show (if from_ = 0 then 0 else if from_ = 1 then (M.2.2 11 k121).toInt64 else (mo_end M k121).toInt64) + at_.toInt64 = _
              rw [if_pos c46]
            show (if 0 ≤ mo_sto (sI M 0 0) k121 at_ from_ then (if mo_sto (sI M 0 0) k121 at_ from_ ≤ (mo_end M k121).toInt64 then (mo_sto (sI M 0 0) k121 at_ from_).toInt32 else mo_end M k121) else 0) = _
            rw [e1, ee]
            exact (mm_eq (en_nn hLa hFl hBy ho124.1)).symm
          have hm : mo_seek M t at_ from_ = (((if 0 < (if ((en_ M k121).toInt64) < (0 + at_.toInt64) then ((en_ M k121).toInt64) else (0 + at_.toInt64)) then (if ((en_ M k121).toInt64) < (0 + at_.toInt64) then ((en_ M k121).toInt64) else (0 + at_.toInt64)) else 0).toInt32), sF (sI M 0 0) 11 k121 ((if 0 < (if ((en_ M k121).toInt64) < (0 + at_.toInt64) then ((en_ M k121).toInt64) else (0 + at_.toInt64)) then (if ((en_ M k121).toInt64) < (0 + at_.toInt64) then ((en_ M k121).toInt64) else (0 + at_.toInt64)) else 0).toInt32)) := by unfold mo_seek; rw [if_pos (pl_ge hp123), if_pos c21, pl_k hp123, if_neg c32, hs]
          rw [hm]
          exact ⟨rfl, ad, gi, rl_p4 hL ho124 hk136 (fun b h1 => by rw [he138, wm_upn h1]), rfl⟩
      · refine aw_bipush X dX10_seek_35 cb_m4 ?_
        refine RTN (some (.int _)) _ _ _ _ _ dX10_seek_37 (⟨_, rfl⟩) (Nat.le_of_ble_eq_true rfl) (Nat.le_of_ble_eq_true rfl) ?_
        have hm : mo_seek M t at_ from_ = (-4, sI M 0 0) := by unfold mo_seek; rw [if_pos (pl_ge hp123), if_pos c21, pl_k hp123, if_pos c32]
        rw [hm]
        exact ⟨rfl, ad, gi, rl_0 hL, rfl⟩
    · rw [bI_0] at c21
      refine aw_bipush X dX10_seek_24 cb_m3 ?_
      refine RTN (some (.int _)) _ _ _ _ _ dX10_seek_26 (⟨_, rfl⟩) (Nat.le_of_ble_eq_true rfl) (Nat.le_of_ble_eq_true rfl) ?_
      have hm : mo_seek M t at_ from_ = (-3, sI M 0 0) := by unfold mo_seek; rw [if_pos (pl_ge hp123), if_neg c21]
      rw [hm]
      exact ⟨rfl, ad, gi, rl_0 hL, rfl⟩
theorem sgn_nn {x : Int32} : 0 ≤ (sgn x).toInt := by
  unfold sgn
  split
  · exact and_nn
  · decide
/-- what resources hold is signs -/
def mi_res (M : MS) : Prop := ∀ k, opn M k → M.2.2 8 k = 3 → ∀ j : Nat, (j : Int) < (M.2.2 12 k).toInt → 0 ≤ (M.2.2 18 (40 * k + j)).toInt
theorem gv_nn {G : GG} {M : MS} {ad : AD} {gi : GI} {w : WM} (hL : RLa G M ad gi w) (hK : mi_kind M) (hLa : mi_last M) (hFl : mi_file M) (hPl : mi_place M) (hBy : mi_bytes M) (hRs : mi_res M) {k : Nat} (ho : opn M k) (hpe : M.2.2 11 k < en_ M k) : 0 ≤ (mo_gv M k (nI k)).toInt := by
  unfold mo_gv
  split
  · split
    · exact and_255.1
    · exact sgn_nn
  · rename_i h1
    split
    · rename_i h2
      have hf := hFl k ho.1 h2
      have af := bt_iff.mp hf
      have cf := cl_toInt (x := M.2.2 16 k) af.1
      split
      · rename_i hw
        rw [en_2 h2, if_pos hw] at hpe
        obtain ⟨d1, d2⟩ := dv_b (hBy (M.2.2 16 k).toNatClampNeg (by omega)) (hPl k ho.1) (Or.inl rfl) hpe
        unfold mo_g1
        rw [← f_byte (j := 0) (i := 0) hL hf (hPl k ho.1) d1 (Or.inl rfl) (by decide) d2 rfl]
        rw [show ((0 : Int32) <<< ((8 : Int32) &&& 31)) = 0 from by decide, Int32.zero_or]
        exact and_255.1
      · exact sgn_nn
    · rename_i h2
      have h0 : ¬ M.2.2 8 k = 0 := by
        intro z
        rw [en_0 z, i32_lt] at hpe
        have := (bt_iff.mp (hPl k ho.1)).1
        have e0 : (0 : Int32).toInt = 0 := rfl
        omega
      have h3 := kd_3 hK ho.1 h0 h1 h2
      rw [en_3 h0 h2, i32_lt] at hpe
      have hp := bt_iff.mp (hPl k ho.1)
      have hl := bt_iff.mp (hLa k ho.1)
      have c1 := cl_toInt (x := M.2.2 11 k) hp.1
      have e5 : nI (M.2.2 11 k).toNatClampNeg = M.2.2 11 k := nI_cl hp.1
      have ei : ((40 : Int32) * nI k + M.2.2 11 k).toNatClampNeg = 40 * k + (M.2.2 11 k).toNatClampNeg := by
        rw [← e5, ix_k (by have := ho.1; omega) (by omega), e5]
      rw [ei]
      exact hRs k ho h3 _ (by omega)
theorem rd_f {M : MS} {k : Nat} (h : rdv M k < -10) (hg : 0 ≤ (mo_gv M k (nI k)).toInt) : (M.2.2 8 k = 1 ∧ ¬ mo_pf M k ≤ 0) ∧ rdv M k = (-10) - mo_pf M k ∧ (-10) - rdv M k = mo_pf M k := by
  unfold rdv at h ⊢
  by_cases hc : M.2.2 8 k = 1 ∧ ¬ mo_pf M k ≤ 0
  · rw [if_pos hc]
    refine ⟨hc, rfl, ?_⟩
    rcases ag_4 (M := M) (a := M.2.2 15 k) (sort := if M.2.2 9 k = 0 then 1 else 2) (k := M.2.2 11 k) with z | z | z | z
    · exact absurd (by unfold mo_pf; rw [z]; decide) hc.2
    · unfold mo_pf; rw [z]; rfl
    · unfold mo_pf; rw [z]; rfl
    · unfold mo_pf; rw [z]; rfl
  · rw [if_neg hc, i32_lt] at h
    have e : (-10 : Int32).toInt = -10 := rfl
    omega
theorem rd_n {M : MS} {k : Nat} (h : ¬ rdv M k < -10) : ¬ (M.2.2 8 k = 1 ∧ ¬ mo_pf M k ≤ 0) ∧ rdv M k = mo_gv M k (nI k) := by
  unfold rdv at h ⊢
  by_cases hc : M.2.2 8 k = 1 ∧ ¬ mo_pf M k ≤ 0
  · exfalso
    rw [if_pos hc] at h
    rcases ag_4 (M := M) (a := M.2.2 15 k) (sort := if M.2.2 9 k = 0 then 1 else 2) (k := M.2.2 11 k) with z | z | z | z
    · exact absurd (by unfold mo_pf; rw [z]; decide) hc.2
    · exact h (by unfold mo_pf; rw [z]; decide)
    · exact h (by unfold mo_pf; rw [z]; decide)
    · exact h (by unfold mo_pf; rw [z]; decide)
  · exact ⟨hc, if_neg hc⟩
theorem get_b {M : MS} {gi : GI} {k : Nat} : st_get (cSI M gi k) = true ↔ (M.2.2 10 k = 2 ∨ M.2.2 10 k = 3) := by
  unfold st_get
  rw [Bool.or_eq_true, decide_eq_true_iff, decide_eq_true_iff]
  exact Iff.rfl
theorem en_e {M : MS} (hPl : mi_place M) {k : Nat} (hk : k < 8) (h0 : M.2.2 10 k = 2 ∨ M.2.2 10 k = 3) (hP : M.2.2 8 k = 0 → M.2.2 10 k = 1) : en_ M k = mo_end M k := if_neg (fun z => by rw [hP z] at h0; rcases h0 with h | h <;> exact absurd h (by decide))
/-- panes are written only -/
def mi_pm (M : MS) : Prop := ∀ k, opn M k → M.2.2 8 k = 0 → M.2.2 10 k = 1
set_option maxRecDepth 100000 in
set_option maxHeartbeats 4000000 in
theorem kX10_get (G : GG) (l : Launch) (M : MS) (ad : AD) (gi : GI) (w : WM) (hL : RLa G M ad gi w) (hsf : mi_sf M) (hK : mi_kind M) (hLa : mi_last M) (hFl : mi_file M) (hBy : mi_bytes M) (hPl : mi_place M) (hA : mi_arr M) (hS : mi_size M) (hRs : mi_res M) (hPm : mi_pm M) (t : Int32) : MC G l yX10_get cX10_get 4 ((Option.some .int)) ({ frames := 5, cells := 0, slots := 0, locals := 105 } : Room) [.ref (ad 0 0), .int t] w (fun v w' => v = some (.int (mo_get M t).1) ∧ ∃ ad' gi', RLa G (mo_get M t).2 ad' gi' w' ∧ ad' 0 0 = ad 0 0) := by
  refine mc_int (by decide) (Nat.le_of_ble_eq_true rfl) rfl rfl ?_
  intro p e s m args below meth c A H0 Q X hnm RTN
  have X : Cx G p s m args meth c A H0 cX10_get 4 RX10 := X
  have k0_ : w (ad 0 0) = some (.inr (11, [.ref (ad 1 0), .ref (ad 2 0), .ref (ad 3 0), .ref (ad 4 0), .ref (ad 5 0), .ref (ad 6 0), va_rf (sAd M ad (M.1 20)), .int (M.1 7), .int (M.1 29), .int (M.1 38), .int ((M.2.1 21).toInt32), .int ((M.2.1 22).toInt32), .int (M.1 5)])) := hL.1 0 0 (lvf 0 (by decide))
  refine aw_aload_n X dX10_get_0 rfl rfl ?_
  refine aw_iload_n X dX10_get_1 rfl rfl ?_
  refine aw_callV X (kX10_streamOf _ _ _ _ _ _ hL _) okm_X10_streamOf okX10 k0_ ml_X10_169 im_X10_streamOf se_X10_X10_streamOf rfl rfl (Nat.le_of_ble_eq_true rfl) ⟨Nat.le_of_ble_eq_true rfl, Nat.le_of_ble_eq_true rfl, Nat.le_of_ble_eq_true rfl, Nat.le_of_ble_eq_true rfl⟩ dX10_get_2 (fun v w2 hp => ?_)
  obtain ⟨rfl, hw9⟩ := hp
  have hw9 := hw9.symm
  subst hw9
  rcases hr140 : sAd M ad t with _ | a141
  · refine aw_astore_nN (lv' := [(2, _), (0, _), (1, _)]) X dX10_get_5 rfl (by decide) rfl ?_
    refine aw_aload_nN X dX10_get_6 rfl rfl ?_
    refine aw_ifnonnullN X dX10_get_7 ?_
    refine aw_bipush X dX10_get_10 cb_m2 ?_
    refine RTN (some (.int _)) _ _ _ _ _ dX10_get_12 (⟨_, rfl⟩) (Nat.le_of_ble_eq_true rfl) (Nat.le_of_ble_eq_true rfl) ?_
    have hm : mo_get M t = (-2, sI M 0 0) := by unfold mo_get; rw [if_neg (pl_ng (sAd_none hr140))]
    rw [hm]
    exact ⟨rfl, ad, gi, rl_0 hL, rfl⟩
  · obtain ⟨k142, he143, hp144⟩ := sAd_some hr140
    subst he143
    have ho145 := (pl_opn hp144).1
    refine aw_astore_n (lv' := [(2, _), (0, _), (1, _)]) X dX10_get_5 rfl (by decide) rfl ?_
    refine aw_aload_n X dX10_get_6 rfl rfl ?_
    refine aw_ifnonnull (tgt := 13) X dX10_get_7 rfl ?_
    refine aw_aload_n X dX10_get_13 rfl rfl ?_
    refine aw_callVS X (kX9_mayGet _ _ _ _ _ _ _ (rl_st hL ho145)) okm_X9_mayGet (rl_st hL ho145) ml_X10_177 im_X9_mayGet se_X5_X9_mayGet se_X3_X9_mayGet se_X1_X9_mayGet se_X7_X9_mayGet rfl rfl (Nat.le_of_ble_eq_true rfl) ⟨Nat.le_of_ble_eq_true rfl, Nat.le_of_ble_eq_true rfl, Nat.le_of_ble_eq_true rfl, Nat.le_of_ble_eq_true rfl⟩ dX10_get_14 (fun v w2 hp => ?_)
    obtain ⟨rfl, hw9⟩ := hp
    have hw9 := hw9.symm
    subst hw9
    refine aw_if_ne (tgt := 23) X dX10_get_17 rfl (fun c17 => ?_) (fun c17 => ?_)
    · rw [bI_n0] at c17
      refine aw_aload_n X dX10_get_23 rfl rfl ?_
      refine aw_getS X (k := 4) (v := .int (M.2.2 11 k142)) (rl_st hL ho145) (by decide) fl_X10_181 rfl dX10_get_24 ?_
      refine aw_aload_n X dX10_get_27 rfl rfl ?_
      refine aw_callSU (n := 0) X (rl_st hL ho145) (fun h => rE5 _ _ M ad gi _ k142 h) okm_X5_end ⟨Nat.le_of_ble_eq_true rfl, Nat.le_of_ble_eq_true rfl, Nat.le_of_ble_eq_true rfl, Nat.le_of_ble_eq_true rfl⟩ ⟨rfl, rfl⟩ im_X5_end se_X5_X9_end (fun h => rE3 _ _ _ _ _ _ hL _ ho145 h) okm_X3_end ⟨Nat.le_of_ble_eq_true rfl, Nat.le_of_ble_eq_true rfl, Nat.le_of_ble_eq_true rfl, Nat.le_of_ble_eq_true rfl⟩ ⟨rfl, rfl⟩ im_X3_end se_X3_X9_end (fun h => rE1 _ _ _ _ _ _ hL hsf _ ho145 h) okm_X1_end ⟨Nat.le_of_ble_eq_true rfl, Nat.le_of_ble_eq_true rfl, Nat.le_of_ble_eq_true rfl, Nat.le_of_ble_eq_true rfl⟩ ⟨rfl, rfl⟩ im_X1_end se_X1_X9_end (fun h => rE7 _ _ _ _ _ _ hL hK hLa _ ho145 h) okm_X7_end ⟨Nat.le_of_ble_eq_true rfl, Nat.le_of_ble_eq_true rfl, Nat.le_of_ble_eq_true rfl, Nat.le_of_ble_eq_true rfl⟩ ⟨rfl, rfl⟩ im_X7_end se_X7_X9_end ml_X10_184 sm_X9_end (va_Decl.abs (X.2.2.2.2.2.2.2.2.1 _ dc_X9_end)) rfl rfl rfl (Nat.le_of_ble_eq_true rfl) dX10_get_28 (fun v w2 hp => ?_)
      obtain ⟨rfl, hw9⟩ := hp
      have hw9 := hw9.symm
      subst hw9
      refine aw_icmp_lt (tgt := 36) X dX10_get_31 rfl (fun c31 => ?_) (fun c31 => ?_)
      · refine aw_aload_n X dX10_get_36 rfl rfl ?_
        refine aw_callSU (n := 0) X (rl_st hL ho145) (fun h => rR5 _ _ M ad gi _ hPl k142 ho145 c31 h) okm_X5_read ⟨Nat.le_of_ble_eq_true rfl, Nat.le_of_ble_eq_true rfl, Nat.le_of_ble_eq_true rfl, Nat.le_of_ble_eq_true rfl⟩ ⟨rfl, rfl⟩ im_X5_read se_X5_X9_read (fun h => rR3 _ _ _ _ _ _ hL hA hS _ ho145 h) okm_X3_read ⟨Nat.le_of_ble_eq_true rfl, Nat.le_of_ble_eq_true rfl, Nat.le_of_ble_eq_true rfl, Nat.le_of_ble_eq_true rfl⟩ ⟨rfl, rfl⟩ im_X3_read se_X3_X9_read (fun h => rR1 _ _ _ _ _ _ hL hsf hFl hPl hBy _ ho145 c31 h) okm_X1_read ⟨Nat.le_of_ble_eq_true rfl, Nat.le_of_ble_eq_true rfl, Nat.le_of_ble_eq_true rfl, Nat.le_of_ble_eq_true rfl⟩ ⟨rfl, rfl⟩ im_X1_read se_X1_X9_read (fun h => rR7 _ _ _ _ _ _ hL hK hLa hPl _ ho145 c31 h) okm_X7_read ⟨Nat.le_of_ble_eq_true rfl, Nat.le_of_ble_eq_true rfl, Nat.le_of_ble_eq_true rfl, Nat.le_of_ble_eq_true rfl⟩ ⟨rfl, rfl⟩ im_X7_read se_X7_X9_read ml_X10_187 sm_X9_read (va_Decl.abs (X.2.2.2.2.2.2.2.2.1 _ dc_X9_read)) rfl rfl rfl (Nat.le_of_ble_eq_true rfl) dX10_get_37 (fun v w2 hp => ?_)
        obtain ⟨rfl, hw9⟩ := hp
        have hw9 := hw9.symm
        subst hw9
        refine aw_istore_n (lv' := [(3, _), (2, _), (0, _), (1, _)]) X dX10_get_40 rfl (by decide) rfl ?_
        refine aw_iload_n X dX10_get_41 rfl rfl ?_
        refine aw_callS X (kX10_isFault _ _ _ _) okm_X10_isFault ml_X10_190 st_X10_isFault rfl rfl (Nat.le_of_ble_eq_true rfl) ⟨Nat.le_of_ble_eq_true rfl, Nat.le_of_ble_eq_true rfl, Nat.le_of_ble_eq_true rfl, Nat.le_of_ble_eq_true rfl⟩ dX10_get_42 (fun v w2 hp => ?_)
        obtain ⟨rfl, hw9⟩ := hp
        have hw9 := hw9.symm
        subst hw9
        refine aw_if_eq (tgt := 57) X dX10_get_45 rfl (fun c45 => ?_) (fun c45 => ?_)
        · rw [bI_0] at c45
          refine aw_aload_n X dX10_get_57 rfl rfl ?_
          refine aw_dup X dX10_get_58 rfl ?_
          refine aw_getS X (k := 4) (v := .int (M.2.2 11 k142)) (rl_st hL ho145) (by decide) fl_X10_181 rfl dX10_get_59 ?_
          refine aw_iconst X dX10_get_62 ci_1 ?_
          refine aw_iadd X dX10_get_63 ?_
          refine aw_putS4 X (rl_st hL ho145) fl_X10_181 dX10_get_64 (fun w146 hk147 hn148 he149 => ?_)
          have hk150 := (hn148 _ (rl_ne hL (t := 0) (i := 0) (t' := 13) (i' := k142) (lvf 0 (by decide)) (ho145) (Or.inl rfl) (fun z => absurd z.1 (by decide)))).trans k0_
          refine aw_aload_n X dX10_get_67 rfl rfl ?_
          refine aw_dup X dX10_get_68 rfl ?_
          refine aw_getS X (k := 6) hk147 (by decide) fl_X10_193 rfl dX10_get_69 ?_
          refine aw_iconst X dX10_get_72 ci_1 ?_
          refine aw_iadd X dX10_get_73 ?_
          refine aw_putS6 X hk147 fl_X10_193 dX10_get_74 (fun w151 hk152 hn153 he154 => ?_)
          have hk155 := (hn153 _ (rl_ne hL (t := 0) (i := 0) (t' := 13) (i' := k142) (lvf 0 (by decide)) (ho145) (Or.inl rfl) (fun z => absurd z.1 (by decide)))).trans hk150
          refine aw_iload_n X dX10_get_77 rfl rfl ?_
          refine RTN (some (.int _)) _ _ _ _ _ dX10_get_78 (⟨_, rfl⟩) (Nat.le_of_ble_eq_true rfl) (Nat.le_of_ble_eq_true rfl) ?_
          have hg2 := get_b.mp c17
          have ee : en_ M k142 = mo_end (sI M 0 0) k142 := en_e hPl ho145.1 hg2 (hPm k142 ho145)
          have hgv := gv_nn hL hK hLa hFl hPl hBy hRs ho145 c31
          obtain ⟨f1, f2⟩ := rd_n c45
          have hm : mo_get M t = (mo_gv M k142 (nI k142), sF (sF (sI M 0 0) 11 k142 (M.2.2 11 k142 + 1)) 14 k142 (M.2.2 14 k142 + 1)) := by unfold mo_get; rw [if_pos (pl_ge hp144), pl_k hp144, if_pos hg2, if_pos (by rw [← ee]; exact c31), if_neg (show ¬ (M.2.2 8 k142 = 1 ∧ ¬ mo_pf (sI M 0 0) k142 ≤ 0) from f1), pl_oI hp144]
          rw [hm]
          exact ⟨by rw [f2], ad, gi, rl_p46 hL ho145 hk152 (fun b h1 => by rw [he154, wm_upn h1, he149, wm_upn h1]), rfl⟩
        · rw [bI_n0] at c45
          refine aw_aload_n X dX10_get_48 rfl rfl ?_
          refine aw_bipush X dX10_get_49 cb_m10 ?_
          refine aw_iload_n X dX10_get_51 rfl rfl ?_
          refine aw_isub X dX10_get_52 ?_
          refine aw_callV X (kX10_faulted _ _ _ _ _ _ _ _ _ _ _ _ _ _ _ _ _ k0_ _) okm_X10_faulted okX10 k0_ ml_X10_54 im_X10_faulted se_X10_X10_faulted rfl rfl (Nat.le_of_ble_eq_true rfl) ⟨Nat.le_of_ble_eq_true rfl, Nat.le_of_ble_eq_true rfl, Nat.le_of_ble_eq_true rfl, Nat.le_of_ble_eq_true rfl⟩ dX10_get_53 (fun v w2 hp => ?_)
          obtain ⟨rfl, hw156⟩ := hp
          have hk157 := (congrFun hw156 (ad 0 0)).trans wm_ups
          have hk158 := ((congrFun hw156 (ad 13 k142)).trans (wm_upn (rl_ne hL (t := 13) (i := k142) (t' := 0) (i' := 0) (ho145) (lvf 0 (by decide)) (Or.inl rfl) (fun z => absurd z.1 (by decide))))).trans (rl_st hL ho145)
          refine RTN (some (.int _)) _ _ _ _ _ dX10_get_56 (⟨_, rfl⟩) (Nat.le_of_ble_eq_true rfl) (Nat.le_of_ble_eq_true rfl) ?_
          have hg2 := get_b.mp c17
          have ee : en_ M k142 = mo_end (sI M 0 0) k142 := en_e hPl ho145.1 hg2 (hPm k142 ho145)
          have hgv := gv_nn hL hK hLa hFl hPl hBy hRs ho145 c31
          obtain ⟨f1, f2, f3⟩ := rd_f c45 hgv
          have hm : mo_get M t = ((-10) - mo_pf M k142, sI (sI M 0 0) 5 (mo_pf M k142)) := by unfold mo_get; rw [if_pos (pl_ge hp144), pl_k hp144, if_pos hg2, if_pos (by rw [← ee]; exact c31), if_pos (show M.2.2 8 k142 = 1 ∧ ¬ mo_pf (sI M 0 0) k142 ≤ 0 from f1)]; rfl
          rw [hm]
          rw [f3] at hw156
          exact ⟨by rw [f3], ad, gi, rl_5 hL hw156, rfl⟩
      · refine aw_iconst X dX10_get_34 ci_m1 ?_
        refine RTN (some (.int _)) _ _ _ _ _ dX10_get_35 (⟨_, rfl⟩) (Nat.le_of_ble_eq_true rfl) (Nat.le_of_ble_eq_true rfl) ?_
        have hg2 := get_b.mp c17
        have ee : en_ M k142 = mo_end (sI M 0 0) k142 := en_e hPl ho145.1 hg2 (hPm k142 ho145)
        have hm : mo_get M t = (-1, sI M 0 0) := by unfold mo_get; rw [if_pos (pl_ge hp144), pl_k hp144, if_pos hg2, if_neg (fun z => c31 (by rw [ee]; exact z))]
        rw [hm]
        exact ⟨rfl, ad, gi, rl_0 hL, rfl⟩
    · rw [bI_0] at c17
      refine aw_bipush X dX10_get_20 cb_m4 ?_
      refine RTN (some (.int _)) _ _ _ _ _ dX10_get_22 (⟨_, rfl⟩) (Nat.le_of_ble_eq_true rfl) (Nat.le_of_ble_eq_true rfl) ?_
      have hm : mo_get M t = (-4, sI M 0 0) := by unfold mo_get; rw [if_pos (pl_ge hp144), pl_k hp144, if_neg (fun z => c17 (get_b.mpr z))]
      rw [hm]
      exact ⟨rfl, ad, gi, rl_0 hL, rfl⟩
