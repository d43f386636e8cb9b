set_option maxRecDepth 100000 in
set_option maxHeartbeats 4000000 in
theorem kX10_put (G : GG) (l : Launch) (M : MS) (ad : AD) (gi : GI) (w : WM) (hL : RLa G M ad gi w) (hI : IV M) (t c1 : Int32) : MC G l yX10_put cX10_put 4 ((Option.some .int)) ({ frames := 6, cells := 0, slots := 0, locals := 134 } : Room) [.ref (ad 0 0), .int t, .int c1] w (fun v w' => v = some (.int (mo_put M t c1).1) ∧ ∃ ad' gi', RLa G (mo_put M t c1).2 ad' gi' w' ∧ ad' 0 0 = ad 0 0) := by
  refine mc_int (by decide) (Nat.le_of_ble_eq_true rfl) rfl rfl ?_
  intro p e s m args below meth c A H0 Q X hnm RTN
  have X : Cx G p s m args meth c A H0 cX10_put 4 RX10 := X
  have k0_ : w (ad 0 0) = some (.inr (11, [.ref (ad 1 0), .ref (ad 2 0), .ref (ad 3 0), .ref (ad 4 0), .ref (ad 5 0), .ref (ad 6 0), va_rf (sAd M ad (M.1 20)), .int (M.1 7), .int (M.1 29), .int (M.1 38), .int ((M.2.1 21).toInt32), .int ((M.2.1 22).toInt32), .int (M.1 5)])) := hL.1 0 0 (lvf 0 (by decide))
  refine aw_aload_n X dX10_put_0 rfl rfl ?_
  refine aw_iload_n X dX10_put_1 rfl rfl ?_
  refine aw_callV X (kX10_streamOf _ _ _ _ _ _ hL _) okm_X10_streamOf okX10 k0_ ml_X10_169 im_X10_streamOf se_X10_X10_streamOf rfl rfl (Nat.le_of_ble_eq_true rfl) ⟨Nat.le_of_ble_eq_true rfl, Nat.le_of_ble_eq_true rfl, Nat.le_of_ble_eq_true rfl, Nat.le_of_ble_eq_true rfl⟩ dX10_put_2 (fun v w2 hp => ?_)
  obtain ⟨rfl, hw9⟩ := hp
  have hw9 := hw9.symm
  subst hw9
  rcases hr101 : sAd M ad t with _ | a102
  · refine aw_astore_nN (lv' := [(3, _), (0, _), (1, _), (2, _)]) X dX10_put_5 rfl (by decide) rfl ?_
    refine aw_aload_nN X dX10_put_6 rfl rfl ?_
    refine aw_ifnonnullN X dX10_put_7 ?_
    refine aw_bipush X dX10_put_10 cb_m2 ?_
    refine RTN (some (.int _)) _ _ _ _ _ dX10_put_12 (⟨_, rfl⟩) (Nat.le_of_ble_eq_true rfl) (Nat.le_of_ble_eq_true rfl) ?_
    have hm : mo_put M t c1 = (-2, sI M 0 0) := by unfold mo_put; rw [if_neg (pl_ng (sAd_none hr101))]
    rw [hm]
    exact ⟨rfl, ad, gi, rl_0 hL, rfl⟩
  · obtain ⟨k103, he104, hp105⟩ := sAd_some hr101
    subst he104
    have ho106 := (pl_opn hp105).1
    refine aw_astore_n (lv' := [(3, _), (0, _), (1, _), (2, _)]) X dX10_put_5 rfl (by decide) rfl ?_
    refine aw_aload_n X dX10_put_6 rfl rfl ?_
    refine aw_ifnonnull (tgt := 13) X dX10_put_7 rfl ?_
    refine aw_aload_n X dX10_put_13 rfl rfl ?_
    refine aw_aload_n X dX10_put_14 rfl rfl ?_
    refine aw_iload_n X dX10_put_15 rfl rfl ?_
    refine aw_callV X (kX10_putAndEcho _ _ (sI M 0 0) ad gi _ (rl_0 hL) (IV_0 hI) k103 ho106 c1) okm_X10_putAndEcho okX10 k0_ ml_X10_173 im_X10_putAndEcho se_X10_X10_putAndEcho rfl rfl (Nat.le_of_ble_eq_true rfl) ⟨Nat.le_of_ble_eq_true rfl, Nat.le_of_ble_eq_true rfl, Nat.le_of_ble_eq_true rfl, Nat.le_of_ble_eq_true rfl⟩ dX10_put_16 (fun v w2 hp => ?_)
    obtain ⟨rfl, gi2, hL2⟩ := hp
    refine RTN (some (.int _)) _ _ _ _ _ dX10_put_19 (⟨_, rfl⟩) (Nat.le_of_ble_eq_true rfl) (Nat.le_of_ble_eq_true rfl) ?_
    have hm : mo_put M t c1 = (if bt c1 0 1114111 then mo_po (sI M 0 0) (nI k103) c1 else (-3, sI M 0 0)) := by unfold mo_put; rw [if_pos (pl_ge hp105), pl_oI hp105]
    rw [hm]
    by_cases hb : bt c1 0 1114111 = true
    · rw [if_pos hb] at hL2 ⊢
      rw [if_pos hb]
      exact ⟨rfl, ad, gi2, hL2, rfl⟩
    · rw [if_neg hb] at hL2 ⊢
      rw [if_neg hb]
      exact ⟨rfl, ad, gi2, hL2, rfl⟩
set_option maxRecDepth 100000 in
set_option maxHeartbeats 4000000 in
theorem kX10_say (G : GG) (l : Launch) (M : MS) (ad : AD) (gi : GI) (w : WM) (hL : RLa G M ad gi w) (hI : IV M) (hNow : mi_now M) (c1 : Int32) : MC G l yX10_say cX10_say 2 ((Option.some .int)) ({ frames := 6, cells := 0, slots := 0, locals := 134 } : Room) [.ref (ad 0 0), .int c1] w (fun v w' => v = some (.int (mo_say M c1).1) ∧ ∃ ad' gi', RLa G (mo_say M c1).2 ad' gi' w' ∧ ad' 0 0 = ad 0 0) := by
  refine mc_int (by decide) (Nat.le_of_ble_eq_true rfl) rfl rfl ?_
  intro p e s m args below meth c A H0 Q X hnm RTN
  have X : Cx G p s m args meth c A H0 cX10_say 2 RX10 := X
  have k0_ : w (ad 0 0) = some (.inr (11, [.ref (ad 1 0), .ref (ad 2 0), .ref (ad 3 0), .ref (ad 4 0), .ref (ad 5 0), .ref (ad 6 0), va_rf (sAd M ad (M.1 20)), .int (M.1 7), .int (M.1 29), .int (M.1 38), .int ((M.2.1 21).toInt32), .int ((M.2.1 22).toInt32), .int (M.1 5)])) := hL.1 0 0 (lvf 0 (by decide))
  refine aw_iload_n X dX10_say_0 rfl rfl ?_
  refine aw_callS X (kX10_isSign _ _ _ _) okm_X10_isSign ml_X10_237 st_X10_isSign rfl rfl (Nat.le_of_ble_eq_true rfl) ⟨Nat.le_of_ble_eq_true rfl, Nat.le_of_ble_eq_true rfl, Nat.le_of_ble_eq_true rfl, Nat.le_of_ble_eq_true rfl⟩ dX10_say_1 (fun v w2 hp => ?_)
  obtain ⟨rfl, hw9⟩ := hp
  have hw9 := hw9.symm
  subst hw9
  refine aw_if_ne (tgt := 10) X dX10_say_4 rfl (fun c4 => ?_) (fun c4 => ?_)
  · rw [bI_n0] at c4
    refine aw_aload_n X dX10_say_10 rfl rfl ?_
    refine aw_get X okX10 (k := 6) k0_ (Nat.le_of_ble_eq_true rfl) fl_X10_211 (Or.inl rfl) rfl dX10_say_11 ?_
    rcases hr107 : (sAd M ad (M.1 20)) with _ | a108
    · rw [hr107] at k0_
      refine aw_ifnonnullN X dX10_say_14 ?_
      refine aw_bipush X dX10_say_17 cb_m4 ?_
      refine RTN (some (.int _)) _ _ _ _ _ dX10_say_19 (⟨_, rfl⟩) (Nat.le_of_ble_eq_true rfl) (Nat.le_of_ble_eq_true rfl) ?_
      have hm : mo_say M c1 = (-4, sI M 0 0) := by unfold mo_say; rw [if_pos c4, if_pos (now_0 hNow (sAd_none hr107))]
      rw [hm]
      exact ⟨rfl, ad, gi, rl_0 hL, rfl⟩
    · obtain ⟨k109, he110, hp111⟩ := sAd_some hr107
      subst he110
      have ho112 := (pl_opn hp111).1
      rw [hr107] at k0_
      refine aw_ifnonnull (tgt := 20) X dX10_say_14 rfl ?_
      refine aw_aload_n X dX10_say_20 rfl rfl ?_
      refine aw_aload_n X dX10_say_21 rfl rfl ?_
      refine aw_get X okX10 (k := 6) k0_ (Nat.le_of_ble_eq_true rfl) fl_X10_211 (Or.inl rfl) rfl dX10_say_22 ?_
      refine aw_iload_n X dX10_say_25 rfl rfl ?_
      refine aw_callV X (kX10_putAndEcho _ _ (sI M 0 0) ad gi _ (rl_0 hL) (IV_0 hI) k109 ho112 c1) okm_X10_putAndEcho okX10 k0_ ml_X10_173 im_X10_putAndEcho se_X10_X10_putAndEcho rfl rfl (Nat.le_of_ble_eq_true rfl) ⟨Nat.le_of_ble_eq_true rfl, Nat.le_of_ble_eq_true rfl, Nat.le_of_ble_eq_true rfl, Nat.le_of_ble_eq_true rfl⟩ dX10_say_26 (fun v w2 hp => ?_)
      obtain ⟨rfl, gi2, hL2⟩ := hp
      refine RTN (some (.int _)) _ _ _ _ _ dX10_say_29 (⟨_, rfl⟩) (Nat.le_of_ble_eq_true rfl) (Nat.le_of_ble_eq_true rfl) ?_
      have hm : mo_say M c1 = mo_po (sI M 0 0) (nI k109) c1 := by unfold mo_say; rw [if_pos c4, if_neg (fun z => by have h := hp111; rw [z, mo_pl0] at h; cases h), pl_oI hp111]
      rw [hm]
      rw [if_pos c4] at hL2
      rw [if_pos c4]
      exact ⟨rfl, ad, gi2, hL2, rfl⟩
  · rw [bI_0] at c4
    refine aw_bipush X dX10_say_7 cb_m3 ?_
    refine RTN (some (.int _)) _ _ _ _ _ dX10_say_9 (⟨_, rfl⟩) (Nat.le_of_ble_eq_true rfl) (Nat.le_of_ble_eq_true rfl) ?_
    have hm : mo_say M c1 = (-3, sI M 0 0) := by simp only [mo_say, c4, if_true, if_false, not_true_eq_false, not_false_eq_true, and_self, true_and, and_true, false_and, and_false, or_true, true_or, or_false, false_or, reduceCtorEq, ne_eq, va_us, pk_us]
    rw [hm]
    exact ⟨rfl, ad, gi, rl_0 hL, rfl⟩
