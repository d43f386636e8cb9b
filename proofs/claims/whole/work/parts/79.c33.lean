/-! putAndEcho, put, say -/
theorem cv_f {c : Int32} {M : MS} {n j : Nat} (h : (mo_pi M (nI j) c).1 < -10) : cv c (n + 1) M (some j) = mo_pi M (nI j) c := if_neg (fun z => by rw [i32_lt] at h; rw [i32_le] at z; omega)
theorem cv_g {c : Int32} {M : MS} {n j : Nat} (hI : IV M) (hj : j < 8) (h : ¬ (mo_pi M (nI j) c).1 < -10) : cv c (n + 1) M (some j) = cv c n (mo_pi M (nI j) c).2 (mo_pl (mo_pi M (nI j) c).2 ((mo_pi M (nI j) c).2.2.2 17 j)) := by
  refine (if_pos (by rw [i32_lt] at h; rw [i32_le]; omega)).trans ?_
  rw [nxt_pl (pi_IV hI hj).2.2.2.2.1 hj]
theorem pi_fk {M : MS} {j : Nat} {c : Int32} (hj : j < 8) (h : (mo_pi M (nI j) c).1 < -10) : M.2.2 8 j = 1 := by
  have ek : (nI j).toNatClampNeg = j := nI_clamp (by omega)
  unfold mo_pi at h
  rw [ek] at h
  split at h
  · exact absurd h (show ¬ (-4 : Int32) < -10 by decide)
  · split at h
    · exact absurd h (show ¬ (1 : Int32) < -10 by decide)
    · split at h
      · rename_i h1; exact h1
      · split at h
        · exact absurd h (show ¬ (1 : Int32) < -10 by decide)
        · exact absurd h (show ¬ (-5 : Int32) < -10 by decide)
theorem pi_o {M : MS} {j k : Nat} {c : Int32} (h : opn M k) : opn (mo_pi M (nI j) c).2 k := by
  unfold opn
  rw [pi_j M (nI j) c (j := 6) (by decide)]
  exact h
set_option maxRecDepth 100000 in
set_option maxHeartbeats 4000000 in
theorem kX10_putAndEcho (G : GG) (l : Launch) (M : MS) (ad : AD) (gi : GI) (w : WM) (hL : RLa G M ad gi w) (hI : IV M) (k : Nat) (ho : opn M k) (c1 : Int32) : MC G l yX10_putAndEcho cX10_putAndEcho 7 ((Option.some .int)) ({ frames := 5, cells := 0, slots := 0, locals := 108 } : Room) [.ref (ad 0 0), .ref (ad 13 k), .int c1] w (fun v w' => v = some (.int (if bt c1 0 1114111 then (mo_po M (nI k) c1).1 else -3)) ∧ ∃ gi', RLa G (if bt c1 0 1114111 then (mo_po M (nI k) c1).2 else M) ad gi' w') := by
  refine mc_int (by decide) (Nat.le_of_ble_eq_true rfl) rfl rfl ?_
  intro p e s m args below meth c A H0 Q X hnm RTN
  have X : Cx G p s m args meth c A H0 cX10_putAndEcho 7 RX10 := X
  have k0_ : w (ad 0 0) = some (.inr (11, [.ref (ad 1 0), .ref (ad 2 0), .ref (ad 3 0), .ref (ad 4 0), .ref (ad 5 0), .ref (ad 6 0), va_rf (sAd M ad (M.1 20)), .int (M.1 7), .int (M.1 29), .int (M.1 38), .int ((M.2.1 21).toInt32), .int ((M.2.1 22).toInt32), .int (M.1 5)])) := hL.1 0 0 (lvf 0 (by decide))
  refine aw_iload_n X dX10_putAndEcho_0 rfl rfl ?_
  refine aw_callS X (kX10_isSign _ _ _ _) okm_X10_isSign ml_X10_237 st_X10_isSign rfl rfl (Nat.le_of_ble_eq_true rfl) ⟨Nat.le_of_ble_eq_true rfl, Nat.le_of_ble_eq_true rfl, Nat.le_of_ble_eq_true rfl, Nat.le_of_ble_eq_true rfl⟩ dX10_putAndEcho_1 (fun v w2 hp => ?_)
  obtain ⟨rfl, hw9⟩ := hp
  have hw9 := hw9.symm
  subst hw9
  refine aw_if_ne (tgt := 10) X dX10_putAndEcho_4 rfl (fun c4 => ?_) (fun c4 => ?_)
  · rw [bI_n0] at c4
    refine aw_aload_n X dX10_putAndEcho_10 rfl rfl ?_
    refine aw_aload_n X dX10_putAndEcho_11 rfl rfl ?_
    refine aw_iload_n X dX10_putAndEcho_12 rfl rfl ?_
    refine aw_callV X (kX10_putInto _ _ _ _ _ _ hL hI k ho c1) okm_X10_putInto okX10 k0_ ml_X10_248 im_X10_putInto se_X10_X10_putInto rfl rfl (Nat.le_of_ble_eq_true rfl) ⟨Nat.le_of_ble_eq_true rfl, Nat.le_of_ble_eq_true rfl, Nat.le_of_ble_eq_true rfl, Nat.le_of_ble_eq_true rfl⟩ dX10_putAndEcho_13 (fun v w2 hp => ?_)
    obtain ⟨rfl, gi2, hL2⟩ := hp
    obtain ⟨M2, hM2⟩ : ∃ X, X = (mo_pi M (nI k) c1).2 := ⟨_, rfl⟩
    rw [← hM2] at hL2
    have hI2 : IV M2 := by rw [hM2]; exact pi_IV hI ho.1
    have ho2 : opn M2 k := by rw [hM2]; exact pi_o ho
    have k0M2_ : w2 (ad 0 0) = some (.inr (11, [.ref (ad 1 0), .ref (ad 2 0), .ref (ad 3 0), .ref (ad 4 0), .ref (ad 5 0), .ref (ad 6 0), va_rf (sAd M2 ad (M2.1 20)), .int (M2.1 7), .int (M2.1 29), .int (M2.1 38), .int ((M2.2.1 21).toInt32), .int ((M2.2.1 22).toInt32), .int (M2.1 5)])) := hL2.1 0 0 (lvf 0 (by decide))
    refine aw_istore_n (lv' := [(3, _), (0, _), (1, _), (2, _)]) X dX10_putAndEcho_16 rfl (by decide) rfl ?_
    refine aw_aload_n X dX10_putAndEcho_17 rfl rfl ?_
    refine aw_getS X (k := 7) (v := va_rf (sAd M2 ad (M2.2.2 17 k))) (rl_st hL2 ho2) (by decide) fl_X10_215 rfl dX10_putAndEcho_18 ?_
    rcases hr101 : (sAd M2 ad (M2.2.2 17 k)) with _ | a102
    · refine aw_astoreN (lv' := [(4, _), (3, _), (0, _), (1, _), (2, _)]) X dX10_putAndEcho_21 (by decide) rfl ?_
      refine aw_iconst X dX10_putAndEcho_23 ci_0 ?_
      refine aw_istore (lv' := [(5, _), (4, _), (3, _), (0, _), (1, _), (2, _)]) X dX10_putAndEcho_24 (by decide) rfl ?_
      refine aw_iload X dX10_putAndEcho_26 rfl ?_
      refine aw_bipush X dX10_putAndEcho_28 cb_8 ?_
      refine aw_icmp_ge (tgt := 71) X dX10_putAndEcho_30 rfl (fun c30 => ?_) (fun c30 => ?_)
      · exact absurd c30 (by decide)
      · refine aw_aloadN X dX10_putAndEcho_33 rfl ?_
        refine aw_ifnullN (tgt := 71) X dX10_putAndEcho_35 rfl ?_
        refine aw_iload_n X dX10_putAndEcho_71 rfl rfl ?_
        refine RTN (some (.int _)) _ _ _ _ _ dX10_putAndEcho_72 (⟨_, rfl⟩) (Nat.le_of_ble_eq_true rfl) (Nat.le_of_ble_eq_true rfl) ?_
        have hpn : mo_pl M (M.2.2 17 k) = none := by have h := sAd_none hr101; rw [hM2, pi_j M (nI k) c1 (j := 17) (by decide), pl_congr (pi_j M (nI k) c1 (j := 6) (by decide))] at h; exact h
        rw [if_pos c4, if_pos c4, po_n hI ho hpn, ← hM2]
        exact ⟨rfl, gi2, hL2⟩
    · obtain ⟨k103, he104, hp105⟩ := sAd_some hr101
      subst he104
      have ho106 := (pl_opn hp105).1
      refine aw_astore (lv' := [(4, _), (3, _), (0, _), (1, _), (2, _)]) X dX10_putAndEcho_21 (by decide) rfl ?_
      refine aw_iconst X dX10_putAndEcho_23 ci_0 ?_
      refine aw_istore (lv' := [(5, _), (4, _), (3, _), (0, _), (1, _), (2, _)]) X dX10_putAndEcho_24 (by decide) rfl ?_
      have L : ∀ (nn : Nat) (i : Nat) (x : Int32) (N : MS) (g1 : GI) (W1 : WM) (zo : Option Nat), (x = nI i) → (RLa G N ad g1 W1) → (IV N) → (∀ j, zo = some j → opn N j) → (i ≤ 8) → (mo_po M (nI k) c1 = cv c1 (8 - i) N zo) → (9 ≤ i + nn) → AW G p l e ({ frames := 5, cells := 0, slots := 0, locals := 108 } : Room) s m args below meth c 7 A H0 Q W1 0 0 26 [(5, .int x), (4, va_rf (zo.map (ad 13))), (3, .int 1), (0, .ref (ad 0 0)), (1, .ref (ad 13 k)), (2, .int c1)] [] := by
        intro nn
        induction nn with
        | zero => intro i x N g1 W1 zo hx hL1 hI1 hzo h1 hq h2; exact absurd h2 (by omega)
        | succ nn ih =>
          intro i x N g1 W1 zo hx hL1 hI1 hzo h1 hq h2
          subst hx
          have k0N_ : W1 (ad 0 0) = some (.inr (11, [.ref (ad 1 0), .ref (ad 2 0), .ref (ad 3 0), .ref (ad 4 0), .ref (ad 5 0), .ref (ad 6 0), va_rf (sAd N ad (N.1 20)), .int (N.1 7), .int (N.1 29), .int (N.1 38), .int ((N.2.1 21).toInt32), .int ((N.2.1 22).toInt32), .int (N.1 5)])) := hL1.1 0 0 (lvf 0 (by decide))
          refine aw_iload X dX10_putAndEcho_26 rfl ?_
          refine aw_bipush X dX10_putAndEcho_28 cb_8 ?_
          refine aw_icmp_ge (tgt := 71) X dX10_putAndEcho_30 rfl (fun c30 => ?_) (fun c30 => ?_)
          · have h9 : i = 8 := by have := ge_i (N := 8) rfl (by omega) (by decide) c30; omega
            subst h9
            refine aw_iload_n X dX10_putAndEcho_71 rfl rfl ?_
            refine RTN (some (.int _)) _ _ _ _ _ dX10_putAndEcho_72 (⟨_, rfl⟩) (Nat.le_of_ble_eq_true rfl) (Nat.le_of_ble_eq_true rfl) ?_
            have hm : mo_po M (nI k) c1 = (1, N) := by rw [hq, Nat.sub_self]; rfl
            rw [if_pos c4, if_pos c4, hm]
            exact ⟨rfl, g1, hL1⟩
          · have h9 : i < 8 := lt_i (N := 8) rfl (by omega) (by decide) c30
            refine aw_aloadR X dX10_putAndEcho_33 rfl ?_
            rcases hr107 : (zo.map (ad 13)) with _ | a108
            · refine aw_ifnullN (tgt := 71) X dX10_putAndEcho_35 rfl ?_
              refine aw_iload_n X dX10_putAndEcho_71 rfl rfl ?_
              refine RTN (some (.int _)) _ _ _ _ _ dX10_putAndEcho_72 (⟨_, rfl⟩) (Nat.le_of_ble_eq_true rfl) (Nat.le_of_ble_eq_true rfl) ?_
              have hm : mo_po M (nI k) c1 = (1, N) := by rw [hq, map_none hr107, cv_none]
              rw [if_pos c4, if_pos c4, hm]
              exact ⟨rfl, g1, hL1⟩
            · obtain ⟨j109, he110, hz111⟩ := map_some hr107
              subst he110
              have ho112 := hzo j109 hz111
              refine aw_ifnull X dX10_putAndEcho_35 ?_
              refine aw_aload_n X dX10_putAndEcho_38 rfl rfl ?_
              refine aw_aload X dX10_putAndEcho_39 rfl ?_
              refine aw_iload_n X dX10_putAndEcho_41 rfl rfl ?_
              refine aw_callV X (kX10_putInto _ _ _ _ _ _ hL1 hI1 j109 ho112 c1) okm_X10_putInto okX10 k0N_ ml_X10_248 im_X10_putInto se_X10_X10_putInto rfl rfl (Nat.le_of_ble_eq_true rfl) ⟨Nat.le_of_ble_eq_true rfl, Nat.le_of_ble_eq_true rfl, Nat.le_of_ble_eq_true rfl, Nat.le_of_ble_eq_true rfl⟩ dX10_putAndEcho_42 (fun v w2 hp => ?_)
              obtain ⟨rfl, g2, hL3⟩ := hp
              obtain ⟨N2, hN2⟩ : ∃ X, X = (mo_pi N (nI j109) c1).2 := ⟨_, rfl⟩
              rw [← hN2] at hL3
              have hI3 : IV N2 := by rw [hN2]; exact pi_IV hI1 ho112.1
              have ho3 : opn N2 j109 := by rw [hN2]; exact pi_o ho112
              have k0N2_ : w2 (ad 0 0) = some (.inr (11, [.ref (ad 1 0), .ref (ad 2 0), .ref (ad 3 0), .ref (ad 4 0), .ref (ad 5 0), .ref (ad 6 0), va_rf (sAd N2 ad (N2.1 20)), .int (N2.1 7), .int (N2.1 29), .int (N2.1 38), .int ((N2.2.1 21).toInt32), .int ((N2.2.1 22).toInt32), .int (N2.1 5)])) := hL3.1 0 0 (lvf 0 (by decide))
              refine aw_istore (lv' := [(6, _), (5, _), (4, _), (3, _), (0, _), (1, _), (2, _)]) X dX10_putAndEcho_45 (by decide) rfl ?_
              refine aw_iload X dX10_putAndEcho_47 rfl ?_
              refine aw_callS X (kX10_isFault _ _ _ _) okm_X10_isFault ml_X10_190 st_X10_isFault rfl rfl (Nat.le_of_ble_eq_true rfl) ⟨Nat.le_of_ble_eq_true rfl, Nat.le_of_ble_eq_true rfl, Nat.le_of_ble_eq_true rfl, Nat.le_of_ble_eq_true rfl⟩ dX10_putAndEcho_49 (fun v w2 hp => ?_)
              obtain ⟨rfl, hw9⟩ := hp
              have hw9 := hw9.symm
              subst hw9
              refine aw_if_eq (tgt := 58) X dX10_putAndEcho_52 rfl (fun c52 => ?_) (fun c52 => ?_)
              · rw [bI_0] at c52
                refine aw_aload X dX10_putAndEcho_58 rfl ?_
                refine aw_getS X (k := 7) (v := va_rf (sAd N2 ad (N2.2.2 17 j109))) (rl_st hL3 ho3) (by decide) fl_X10_215 rfl dX10_putAndEcho_60 ?_
                rcases hr113 : (sAd N2 ad (N2.2.2 17 j109)) with _ | a114
                · refine aw_astoreN (lv' := [(4, _), (6, _), (5, _), (3, _), (0, _), (1, _), (2, _)]) X dX10_putAndEcho_63 (by decide) rfl ?_
                  refine aw_iinc (lv' := [(5, _), (4, _), (6, _), (3, _), (0, _), (1, _), (2, _)]) X dX10_putAndEcho_65 rfl (iinc_1 _) (by decide) rfl ?_
                  refine aw_goto (tgt := 26) X dX10_putAndEcho_68 rfl ?_
                  refine aw_lv [0, 1, 3, 4, 5, 6] rfl ?_
                  exact ih (i + 1) _ N2 g2 w2 none (nI_1 i) hL3 hI3 (fun a ha => by cases ha) (by omega) (by rw [hq, hz111, show 8 - i = (8 - (i + 1)) + 1 by omega, cv_g hI1 ho112.1 c52, ← hN2, (sAd_none hr113)]) (by omega)
                · obtain ⟨k115, he116, hp117⟩ := sAd_some hr113
                  subst he116
                  have ho118 := (pl_opn hp117).1
                  refine aw_astore (lv' := [(4, _), (6, _), (5, _), (3, _), (0, _), (1, _), (2, _)]) X dX10_putAndEcho_63 (by decide) rfl ?_
                  refine aw_iinc (lv' := [(5, _), (4, _), (6, _), (3, _), (0, _), (1, _), (2, _)]) X dX10_putAndEcho_65 rfl (iinc_1 _) (by decide) rfl ?_
                  refine aw_goto (tgt := 26) X dX10_putAndEcho_68 rfl ?_
                  refine aw_lv [0, 1, 3, 4, 5, 6] rfl ?_
                  exact ih (i + 1) _ N2 g2 w2 (some k115) (nI_1 i) hL3 hI3 (fun a ha => by rw [← Option.some.inj ha]; exact ho118) (by omega) (by rw [hq, hz111, show 8 - i = (8 - (i + 1)) + 1 by omega, cv_g hI1 ho112.1 c52, ← hN2, hp117]) (by omega)
              · rw [bI_n0] at c52
                refine aw_iload X dX10_putAndEcho_55 rfl ?_
                refine aw_istore_n (lv' := [(3, _), (6, _), (5, _), (4, _), (0, _), (1, _), (2, _)]) X dX10_putAndEcho_57 rfl (by decide) rfl ?_
                have hne : sAd N2 ad (N2.2.2 17 j109) = none := by unfold sAd; rw [hN2, pi_j N (nI j109) c1 (j := 17) (by decide), hI1.2.2.2.2.1 j109 ho112.1 (by rw [pi_fk ho112.1 c52]; decide), mo_pl0]; rfl
                refine aw_aload X dX10_putAndEcho_58 rfl ?_
                refine aw_getS X (k := 7) (v := va_rf (sAd N2 ad (N2.2.2 17 j109))) (rl_st hL3 ho3) (by decide) fl_X10_215 rfl dX10_putAndEcho_60 ?_
                rw [hne]
                refine aw_astoreN (lv' := [(4, _), (3, _), (6, _), (5, _), (0, _), (1, _), (2, _)]) X dX10_putAndEcho_63 (by decide) rfl ?_
                refine aw_iinc (lv' := [(5, _), (4, _), (3, _), (6, _), (0, _), (1, _), (2, _)]) X dX10_putAndEcho_65 rfl (iinc_1 _) (by decide) rfl ?_
                refine aw_goto (tgt := 26) X dX10_putAndEcho_68 rfl ?_
                refine aw_iload X dX10_putAndEcho_26 rfl ?_
                refine aw_bipush X dX10_putAndEcho_28 cb_8 ?_
                refine aw_icmp_ge (tgt := 71) X dX10_putAndEcho_30 rfl (fun c30' => ?_) (fun c30' => ?_)
                · refine aw_iload_n X dX10_putAndEcho_71 rfl rfl ?_
                  refine RTN (some (.int _)) _ _ _ _ _ dX10_putAndEcho_72 (⟨_, rfl⟩) (Nat.le_of_ble_eq_true rfl) (Nat.le_of_ble_eq_true rfl) ?_
                  have hm : mo_po M (nI k) c1 = mo_pi N (nI j109) c1 := by rw [hq, hz111, show 8 - i = (8 - (i + 1)) + 1 by omega, cv_f c52]
                  rw [if_pos c4, if_pos c4, hm, ← hN2]
                  exact ⟨rfl, g2, hL3⟩
                · refine aw_aloadN X dX10_putAndEcho_33 rfl ?_
                  refine aw_ifnullN (tgt := 71) X dX10_putAndEcho_35 rfl ?_
                  refine aw_iload_n X dX10_putAndEcho_71 rfl rfl ?_
                  refine RTN (some (.int _)) _ _ _ _ _ dX10_putAndEcho_72 (⟨_, rfl⟩) (Nat.le_of_ble_eq_true rfl) (Nat.le_of_ble_eq_true rfl) ?_
                  have hm : mo_po M (nI k) c1 = mo_pi N (nI j109) c1 := by rw [hq, hz111, show 8 - i = (8 - (i + 1)) + 1 by omega, cv_f c52]
                  rw [if_pos c4, if_pos c4, hm, ← hN2]
                  exact ⟨rfl, g2, hL3⟩
      obtain ⟨hpo, hone⟩ := po_s hI ho (show mo_pl M (M.2.2 17 k) = some k103 by rw [← hp105, hM2, pi_j M (nI k) c1 (j := 17) (by decide), pl_congr (pi_j M (nI k) c1 (j := 6) (by decide))])
      refine aw_lv [0, 1, 2, 3, 4, 5] rfl ?_
      rw [hone]
      exact L 9 0 _ M2 gi2 w2 (some k103) rfl hL2 hI2 (fun a ha => by rw [← Option.some.inj ha]; exact ho106) (by omega) (by rw [hpo, ← hM2]) (by omega)
  · rw [bI_0] at c4
    refine aw_bipush X dX10_putAndEcho_7 cb_m3 ?_
    refine RTN (some (.int _)) _ _ _ _ _ dX10_putAndEcho_9 (⟨_, rfl⟩) (Nat.le_of_ble_eq_true rfl) (Nat.le_of_ble_eq_true rfl) ?_
    rw [if_neg c4, if_neg c4]
    exact ⟨rfl, gi, hL⟩
