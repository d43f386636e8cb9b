theorem cs_rm {M : MS} {ad : AD} {k i a : Nat} (h : va_up (cS M ad) k none i = some a) : a = ad 13 i ∧ opn M i ∧ i ≠ k := by
  unfold va_up at h
  split at h
  · cases h
  · rename_i hi
    have := cS_some h
    exact ⟨this.1, this.2, hi⟩
theorem cs_rn {M : MS} {ad : AD} {k i : Nat} (h : va_up (cS M ad) k none i = none) (ho : opn M i) : i = k := by
  unfold va_up at h
  split at h
  · rename_i hi; exact hi
  · rw [cS_opn ho] at h; cases h
theorem ec_s {M : MS} {ad : AD} {t : Int32} {i j : Nat} (h : ¬ (j = i ∧ M.2.2 17 j = t)) : (if j < i + 1 ∧ M.2.2 17 j = t then none else sAd M ad (M.2.2 17 j)) = (if j < i ∧ M.2.2 17 j = t then none else sAd M ad (M.2.2 17 j)) := by
  by_cases hz : j < i ∧ M.2.2 17 j = t
  · rw [if_pos hz, if_pos ⟨by omega, hz.2⟩]
  · rw [if_neg hz, if_neg (fun z => hz ⟨by have : j ≠ i := fun y => h ⟨y, z.2⟩; omega, z.2⟩)]
theorem sA_is {G : GG} {M : MS} {ad : AD} {gi : GI} {w : WM} (hL : RLa G M ad gi w) {x t : Int32} {k : Nat} (hk : mo_pl M t = some k) (h : sAd M ad x = some (ad 13 k)) : x = t := by
  obtain ⟨j, h1, h2⟩ := sAd_some h
  have hj : k = j := Decidable.byContradiction (fun hz => rl_ne hL (t := 13) (t' := 13) (pl_opn hk).1 (pl_opn h2).1 (Or.inl rfl) (fun y => hz y.2) h1)
  rw [← (pl_opn h2).2, ← hj, (pl_opn hk).2]
set_option maxRecDepth 100000 in
set_option maxHeartbeats 4000000 in
theorem kX10_close (G : GG) (l : Launch) (M : MS) (ad : AD) (gi : GI) (w : WM) (hL : RLa G M ad gi w) (t : Int32) : MC G l yX10_close cX10_close 8 ((Option.some .int)) ({ frames := 1, cells := 0, slots := 0, locals := 22 } : Room) [.ref (ad 0 0), .int t] w (fun v w' => v = some (.int (mo_close M t).1) ∧ ∃ ad' gi', RLa G (mo_close M t).2 ad' gi' w' ∧ ad' 0 0 = ad 0 0) := by
  refine mc_int (by decide) (Nat.le_of_ble_eq_true rfl) rfl rfl ?_
  intro p e s m args below meth c A H0 Q X hnm RTN
  have X : Cx G p s m args meth c A H0 cX10_close 8 RX10 := X
  have k0_ : w (ad 0 0) = some (.inr (11, [.ref (ad 1 0), .ref (ad 2 0), .ref (ad 3 0), .ref (ad 4 0), .ref (ad 5 0), .ref (ad 6 0), va_rf (sAd M ad (M.1 20)), .int (M.1 7), .int (M.1 29), .int (M.1 38), .int ((M.2.1 21).toInt32), .int ((M.2.1 22).toInt32), .int (M.1 5)])) := hL.1 0 0 (lvf 0 (by decide))
  have k3_ : w (ad 3 0) = some (rA (gA G 5) 8 (cS M ad)) := hL.1 3 0 (lvf 3 (by decide))
  refine aw_aload_n X dX10_close_0 rfl rfl ?_
  refine aw_iload_n X dX10_close_1 rfl rfl ?_
  refine aw_callV X (kX10_slotOf _ _ _ _ _ _ hL _) okm_X10_slotOf okX10 k0_ ml_X10_208 im_X10_slotOf se_X10_X10_slotOf rfl rfl (Nat.le_of_ble_eq_true rfl) ⟨Nat.le_of_ble_eq_true rfl, Nat.le_of_ble_eq_true rfl, Nat.le_of_ble_eq_true rfl, Nat.le_of_ble_eq_true rfl⟩ dX10_close_2 (fun v w2 hp => ?_)
  obtain ⟨rfl, hw9⟩ := hp
  have hw9 := hw9.symm
  subst hw9
  rcases hp9 : mo_pl M t with _ | k9
  · rw [show oI (none : Option Nat) = -1 from rfl]
    refine aw_istore_n (lv' := [(2, _), (0, _), (1, _)]) X dX10_close_5 rfl (by decide) rfl ?_
    refine aw_iload_n X dX10_close_6 rfl rfl ?_
    refine aw_iconst X dX10_close_7 ci_m1 ?_
    refine aw_icmp_ne (tgt := 14) X dX10_close_8 rfl (fun c8 => ?_) (fun c8 => ?_)
    · exact absurd c8 (by decide)
    · refine aw_bipush X dX10_close_11 cb_m2 ?_
      refine RTN (some (.int _)) _ _ _ _ _ dX10_close_13 (⟨_, rfl⟩) (Nat.le_of_ble_eq_true rfl) (Nat.le_of_ble_eq_true rfl) ?_
      have hm : mo_close M t = (-2, sI M 0 0) := by unfold mo_close; rw [if_neg (pl_ng hp9)]
      rw [hm]
      exact ⟨rfl, ad, gi, rl_0 hL, rfl⟩
  · rw [show oI (some k9) = nI k9 from rfl]
    have ho9 := (pl_opn hp9).1
    refine aw_istore_n (lv' := [(2, _), (0, _), (1, _)]) X dX10_close_5 rfl (by decide) rfl ?_
    refine aw_iload_n X dX10_close_6 rfl rfl ?_
    refine aw_iconst X dX10_close_7 ci_m1 ?_
    refine aw_icmp_ne (tgt := 14) X dX10_close_8 rfl (fun c8 => ?_) (fun c8 => ?_)
    · refine aw_aload_n X dX10_close_14 rfl rfl ?_
      refine aw_get X okX10 (k := 2) k0_ (Nat.le_of_ble_eq_true rfl) fl_X10_22 (Or.inl rfl) rfl dX10_close_15 ?_
      refine aw_iload_n X dX10_close_18 rfl rfl ?_
      refine aw_aaldn X 5 (j := k9) k3_ rfl (ho9.1) (by decide) dX10_close_19 ?_
      rw [cS_opn ho9]
      refine aw_astore_n (lv' := [(3, _), (2, _), (0, _), (1, _)]) X dX10_close_20 rfl (by decide) rfl ?_
      refine aw_aload_n X dX10_close_21 rfl rfl ?_
      refine aw_get X okX10 (k := 2) k0_ (Nat.le_of_ble_eq_true rfl) fl_X10_22 (Or.inl rfl) rfl dX10_close_22 ?_
      refine aw_iload_n X dX10_close_25 rfl rfl ?_
      refine aw_null X dX10_close_26 ?_
      refine aw_aastN2 X 5 k3_ rfl (vp_in_nI ho9.1 (by decide)) dX10_close_27 (fun w101 hk102 hn103 he104 => ?_)
      have hk105 := (hn103 _ (rl_ne hL (t := 0) (i := 0) (t' := 3) (i' := 0) (lvf 0 (by decide)) (lvf 3 (by decide)) (Or.inl rfl) (fun z => absurd z.1 (by decide)))).trans k0_
      rw [nI_clamp (show k9 < 2 ^ 31 by have := ho9.1; omega)] at hk102
      refine aw_aload_n X dX10_close_28 rfl rfl ?_
      refine aw_get X okX10 (k := 6) hk105 (Nat.le_of_ble_eq_true rfl) fl_X10_211 (Or.inl rfl) rfl dX10_close_29 ?_
      refine aw_aload_n X dX10_close_32 rfl rfl ?_
      refine aw_acmp_ne (rx := (sAd M ad (M.1 20))) (ry := (some (ad 13 k9))) (tgt := 41) X dX10_close_33 rfl (fun c33 => ?_) (fun c33 => ?_)
      · refine aw_aload_n X dX10_close_41 rfl rfl ?_
        refine aw_get X okX10 (k := 2) hk105 (Nat.le_of_ble_eq_true rfl) fl_X10_22 (Or.inl rfl) rfl dX10_close_42 ?_
        refine aw_astore (lv' := [(4, _), (3, _), (2, _), (0, _), (1, _)]) X dX10_close_45 (by decide) rfl ?_
        refine aw_aload X dX10_close_47 rfl ?_
        refine aw_alen X 5 hk102 rfl (v := 8) rfl dX10_close_49 ?_
        refine aw_istore (lv' := [(5, _), (4, _), (3, _), (2, _), (0, _), (1, _)]) X dX10_close_50 (by decide) rfl ?_
        refine aw_iconst X dX10_close_52 ci_0 ?_
        refine aw_istore (lv' := [(6, _), (5, _), (4, _), (3, _), (2, _), (0, _), (1, _)]) X dX10_close_53 (by decide) rfl ?_
        have L : ∀ (nn : Nat) (i : Nat) (x : Int32) (W9 : WM), (x = nI i) → (i ≤ 8) → (W9 (ad 0 0) = some (oC (ad 1 0) (ad 2 0) (ad 3 0) (ad 4 0) (ad 5 0) (ad 6 0) (if M.1 20 = t then none else sAd M ad (M.1 20)) (M.1 7) (M.1 29) (M.1 38) (M.2.1 21).toInt32 (M.2.1 22).toInt32 (M.1 5))) → (W9 (ad 3 0) = some (rA (gA G 5) 8 (va_up (cS M ad) k9 none))) → (W9 (ad 13 k9) = some (sC (cSI M gi k9) (sAd M ad (M.2.2 17 k9)) (cX M ad k9))) → (∀ j, opn M j → j ≠ k9 → W9 (ad 13 j) = some (sC (cSI M gi j) (if j < i ∧ M.2.2 17 j = t then none else sAd M ad (M.2.2 17 j)) (cX M ad j))) → (∀ b, b ≠ ad 0 0 → b ≠ ad 3 0 → (∀ j, opn M j → j ≠ k9 → b ≠ ad 13 j) → W9 b = w b) → (9 ≤ i + nn) → AW G p l e ({ frames := 1, cells := 0, slots := 0, locals := 22 } : Room) s m args below meth c 8 A H0 Q W9 0 0 55 [(6, .int x), (5, .int 8), (4, .ref (ad 3 0)), (3, .ref (ad 13 k9)), (2, .int (nI k9)), (0, .ref (ad 0 0)), (1, .int t)] [] := by
          intro nn
          induction nn with
          | zero => intro i x W9 hx h1 hO9 hT9 hC9 hJ9 hb9 h2; exact absurd h2 (by omega)
          | succ nn ih =>
            intro i x W9 hx h1 hO9 hT9 hC9 hJ9 hb9 h2
            subst hx
            refine aw_iload X dX10_close_55 rfl ?_
            refine aw_iload X dX10_close_57 rfl ?_
            refine aw_icmp_ge (tgt := 95) X dX10_close_59 rfl (fun c59 => ?_) (fun c59 => ?_)
            · have h9 : i = 8 := by have := ge_i (N := 8) rfl (by omega) (by decide) c59; omega
              subst h9
              refine aw_aload_n X dX10_close_95 rfl rfl ?_
              refine aw_getS X (k := 5) (v := .int (M.2.2 13 k9)) hC9 (by decide) fl_X10_218 rfl dX10_close_96 ?_
              refine RTN (some (.int _)) _ _ _ _ _ dX10_close_99 (⟨_, rfl⟩) (Nat.le_of_ble_eq_true rfl) (Nat.le_of_ble_eq_true rfl) ?_
              have hm : mo_close M t = (M.2.2 13 k9, sA (sI (sF (sI M 0 0) 6 k9 0) 20 (if M.1 20 = t then 0 else M.1 20)) 17 (fun x => if x < 8 ∧ M.2.2 17 x = t then 0 else M.2.2 17 x)) := by unfold mo_close; rw [if_pos (pl_ge hp9), pl_k hp9, ce_eq 8 (Nat.le_refl 8)]; rfl
              rw [hm]
              exact ⟨rfl, ad, gi, rl_cl hL hp9 hO9 hT9 (fun j h3 h4 => by rw [hJ9 j h3 h4]; by_cases hz : M.2.2 17 j = t; rw [if_pos ⟨h3.1, hz⟩, if_pos hz]; rw [if_neg (fun z => hz z.2), if_neg hz]) hb9, rfl⟩
            · have h9 : i < 8 := lt_i (N := 8) rfl (by omega) (by decide) c59
              refine aw_aload X dX10_close_62 rfl ?_
              refine aw_iload X dX10_close_64 rfl ?_
              refine aw_aaldn X 5 (j := i) hT9 rfl (h9) (by decide) dX10_close_66 ?_
              rcases hr106 : (va_up (cS M ad) k9 none) i with _ | a107
              · refine aw_astoreN (lv' := [(7, _), (6, _), (5, _), (4, _), (3, _), (2, _), (0, _), (1, _)]) X dX10_close_67 (by decide) rfl ?_
                refine aw_aloadN X dX10_close_69 rfl ?_
                refine aw_ifnullN (tgt := 89) X dX10_close_71 rfl ?_
                refine aw_iinc (lv' := [(6, _), (7, _), (5, _), (4, _), (3, _), (2, _), (0, _), (1, _)]) X dX10_close_89 rfl (iinc_1 _) (by decide) rfl ?_
                refine aw_goto (tgt := 55) X dX10_close_92 rfl ?_
                refine aw_lv [0, 2, 3, 4, 5, 6, 7] rfl ?_
                exact ih (i + 1) _ W9 (nI_1 i) (by omega) hO9 hT9 hC9 (fun j h3 h4 => by rw [hJ9 j h3 h4, ec_s (fun z => h4 (by have := cs_rn (ad := ad) (i := i) hr106 (by rw [← z.1]; exact h3); omega))]) hb9 (by omega)
              · obtain ⟨he108, ho109, hne110⟩ := cs_rm hr106
                subst he108
                have hs111 : W9 (ad 13 i) = some (sC (cSI M gi i) (sAd M ad (M.2.2 17 i)) (cX M ad i)) := by rw [hJ9 i ho109 hne110, if_neg (fun z => absurd z.1 (Nat.lt_irrefl i))]
                refine aw_astore (lv' := [(7, _), (6, _), (5, _), (4, _), (3, _), (2, _), (0, _), (1, _)]) X dX10_close_67 (by decide) rfl ?_
                refine aw_aload X dX10_close_69 rfl ?_
                refine aw_ifnull X dX10_close_71 ?_
                refine aw_aload X dX10_close_74 rfl ?_
                refine aw_getS X (k := 7) (v := va_rf (sAd M ad (M.2.2 17 i))) hs111 (by decide) fl_X10_215 rfl dX10_close_76 ?_
                refine aw_aload_n X dX10_close_79 rfl rfl ?_
                refine aw_acmp_ne (rx := (sAd M ad (M.2.2 17 i))) (ry := (some (ad 13 k9))) (tgt := 89) X dX10_close_80 rfl (fun c80 => ?_) (fun c80 => ?_)
                · refine aw_iinc (lv' := [(6, _), (7, _), (5, _), (4, _), (3, _), (2, _), (0, _), (1, _)]) X dX10_close_89 rfl (iinc_1 _) (by decide) rfl ?_
                  refine aw_goto (tgt := 55) X dX10_close_92 rfl ?_
                  refine aw_lv [0, 2, 3, 4, 5, 6, 7] rfl ?_
                  exact ih (i + 1) _ W9 (nI_1 i) (by omega) hO9 hT9 hC9 (fun j h3 h4 => by rw [hJ9 j h3 h4, ec_s (fun z => c80 (by rw [show M.2.2 17 i = t by rw [← z.1]; exact z.2]; exact sAd_opn hp9))]) hb9 (by omega)
                · refine aw_aload X dX10_close_83 rfl ?_
                  refine aw_null X dX10_close_85 ?_
                  refine aw_putSE (e' := none) X hs111 fl_X10_215 dX10_close_86 (fun w112 hk113 hn114 he115 => ?_)
                  have hk116 := (hn114 _ (rl_ne hL (t := 0) (i := 0) (t' := 13) (i' := i) (lvf 0 (by decide)) (ho109) (Or.inl rfl) (fun z => absurd z.1 (by decide)))).trans hO9
                  have hk117 := (hn114 _ (rl_ne hL (t := 3) (i := 0) (t' := 13) (i' := i) (lvf 3 (by decide)) (ho109) (Or.inl rfl) (fun z => absurd z.1 (by decide)))).trans hT9
                  have hk118 := (hn114 _ (Ne.symm (rl_ne hL (t := 13) (t' := 13) ho109 ho9 (Or.inl rfl) (fun y => hne110 y.2)))).trans hC9
                  refine aw_iinc (lv' := [(6, _), (7, _), (5, _), (4, _), (3, _), (2, _), (0, _), (1, _)]) X dX10_close_89 rfl (iinc_1 _) (by decide) rfl ?_
                  refine aw_goto (tgt := 55) X dX10_close_92 rfl ?_
                  refine aw_lv [0, 2, 3, 4, 5, 6, 7] rfl ?_
                  have ht : M.2.2 17 i = t := sA_is hL hp9 c80
                  have hJ' : ∀ j, opn M j → j ≠ k9 → w112 (ad 13 j) = some (sC (cSI M gi j) (if j < i + 1 ∧ M.2.2 17 j = t then none else sAd M ad (M.2.2 17 j)) (cX M ad j)) := by
                    intro j h3 h4
                    by_cases hji : j = i
                    · rw [hji, hk113, if_pos ⟨by omega, ht⟩]
                    · rw [he115, wm_upn (rl_ne hL (t := 13) (t' := 13) h3 ho109 (Or.inl rfl) (fun y => hji y.2)), hJ9 j h3 h4, ec_s (fun z => hji z.1)]
                  exact ih (i + 1) _ w112 (nI_1 i) (by omega) hk116 hk117 hk118 hJ' (fun b h3 h4 h5 => by rw [he115, wm_upn (h5 i ho109 hne110)]; exact hb9 b h3 h4 h5) (by omega)
        refine aw_lv [0, 1, 2, 3, 4, 5, 6] rfl ?_
        exact L 9 0 _ _ rfl (by omega) (by rw [if_neg (fun z => c33 (by rw [z]; exact sAd_opn hp9))]; exact hk105) hk102 (by rw [he104, wm_upn (rl_ne hL (t := 13) (t' := 3) ho9 (lvf 3 (by decide)) (Or.inl rfl) (fun y => absurd y.1 (by decide)))]; exact rl_st hL ho9) (fun j h3 h4 => by rw [if_neg (fun z => absurd z.1 (Nat.not_lt_zero j))]; rw [he104, wm_upn (rl_ne hL (t := 13) (t' := 3) h3 (lvf 3 (by decide)) (Or.inl rfl) (fun y => absurd y.1 (by decide)))]; exact rl_st hL h3) (fun b h3 h4 _ => by rw [he104, wm_upn h4]) (by omega)
      · refine aw_aload_n X dX10_close_36 rfl rfl ?_
        refine aw_null X dX10_close_37 ?_
        refine aw_put2 X okX10 (k := 6) (fs' := [.ref (ad 1 0), .ref (ad 2 0), .ref (ad 3 0), .ref (ad 4 0), .ref (ad 5 0), .ref (ad 6 0), .null, .int (M.1 7), .int (M.1 29), .int (M.1 38), .int ((M.2.1 21).toInt32), .int ((M.2.1 22).toInt32), .int (M.1 5)]) hk105 (Nat.le_of_ble_eq_true rfl) fl_X10_211 (Or.inl rfl) rfl (rfl ) ( rfl) (Nat.le_of_ble_eq_true rfl) rfl dX10_close_38 (fun w119 hk120 hn121 he122 => ?_)
        have hk123 := (hn121 _ (rl_ne hL (t := 3) (i := 0) (t' := 0) (i' := 0) (lvf 3 (by decide)) (lvf 0 (by decide)) (Or.inl rfl) (fun z => absurd z.1 (by decide)))).trans hk102
        refine aw_aload_n X dX10_close_41 rfl rfl ?_
        refine aw_get X okX10 (k := 2) hk120 (Nat.le_of_ble_eq_true rfl) fl_X10_22 (Or.inl rfl) rfl dX10_close_42 ?_
        refine aw_astore (lv' := [(4, _), (3, _), (2, _), (0, _), (1, _)]) X dX10_close_45 (by decide) rfl ?_
        refine aw_aload X dX10_close_47 rfl ?_
        refine aw_alen X 5 hk123 rfl (v := 8) rfl dX10_close_49 ?_
        refine aw_istore (lv' := [(5, _), (4, _), (3, _), (2, _), (0, _), (1, _)]) X dX10_close_50 (by decide) rfl ?_
        refine aw_iconst X dX10_close_52 ci_0 ?_
        refine aw_istore (lv' := [(6, _), (5, _), (4, _), (3, _), (2, _), (0, _), (1, _)]) X dX10_close_53 (by decide) rfl ?_
        have L : ∀ (nn : Nat) (i : Nat) (x : Int32) (W9 : WM), (x = nI i) → (i ≤ 8) → (W9 (ad 0 0) = some (oC (ad 1 0) (ad 2 0) (ad 3 0) (ad 4 0) (ad 5 0) (ad 6 0) (if M.1 20 = t then none else sAd M ad (M.1 20)) (M.1 7) (M.1 29) (M.1 38) (M.2.1 21).toInt32 (M.2.1 22).toInt32 (M.1 5))) → (W9 (ad 3 0) = some (rA (gA G 5) 8 (va_up (cS M ad) k9 none))) → (W9 (ad 13 k9) = some (sC (cSI M gi k9) (sAd M ad (M.2.2 17 k9)) (cX M ad k9))) → (∀ j, opn M j → j ≠ k9 → W9 (ad 13 j) = some (sC (cSI M gi j) (if j < i ∧ M.2.2 17 j = t then none else sAd M ad (M.2.2 17 j)) (cX M ad j))) → (∀ b, b ≠ ad 0 0 → b ≠ ad 3 0 → (∀ j, opn M j → j ≠ k9 → b ≠ ad 13 j) → W9 b = w b) → (9 ≤ i + nn) → AW G p l e ({ frames := 1, cells := 0, slots := 0, locals := 22 } : Room) s m args below meth c 8 A H0 Q W9 0 0 55 [(6, .int x), (5, .int 8), (4, .ref (ad 3 0)), (3, .ref (ad 13 k9)), (2, .int (nI k9)), (0, .ref (ad 0 0)), (1, .int t)] [] := by
          intro nn
          induction nn with
          | zero => intro i x W9 hx h1 hO9 hT9 hC9 hJ9 hb9 h2; exact absurd h2 (by omega)
          | succ nn ih =>
            intro i x W9 hx h1 hO9 hT9 hC9 hJ9 hb9 h2
            subst hx
            refine aw_iload X dX10_close_55 rfl ?_
            refine aw_iload X dX10_close_57 rfl ?_
            refine aw_icmp_ge (tgt := 95) X dX10_close_59 rfl (fun c59 => ?_) (fun c59 => ?_)
            · have h9 : i = 8 := by have := ge_i (N := 8) rfl (by omega) (by decide) c59; omega
              subst h9
              refine aw_aload_n X dX10_close_95 rfl rfl ?_
              refine aw_getS X (k := 5) (v := .int (M.2.2 13 k9)) hC9 (by decide) fl_X10_218 rfl dX10_close_96 ?_
              refine RTN (some (.int _)) _ _ _ _ _ dX10_close_99 (⟨_, rfl⟩) (Nat.le_of_ble_eq_true rfl) (Nat.le_of_ble_eq_true rfl) ?_
              have hm : mo_close M t = (M.2.2 13 k9, sA (sI (sF (sI M 0 0) 6 k9 0) 20 (if M.1 20 = t then 0 else M.1 20)) 17 (fun x => if x < 8 ∧ M.2.2 17 x = t then 0 else M.2.2 17 x)) := by unfold mo_close; rw [if_pos (pl_ge hp9), pl_k hp9, ce_eq 8 (Nat.le_refl 8)]; rfl
              rw [hm]
              exact ⟨rfl, ad, gi, rl_cl hL hp9 hO9 hT9 (fun j h3 h4 => by rw [hJ9 j h3 h4]; by_cases hz : M.2.2 17 j = t; rw [if_pos ⟨h3.1, hz⟩, if_pos hz]; rw [if_neg (fun z => hz z.2), if_neg hz]) hb9, rfl⟩
            · have h9 : i < 8 := lt_i (N := 8) rfl (by omega) (by decide) c59
              refine aw_aload X dX10_close_62 rfl ?_
              refine aw_iload X dX10_close_64 rfl ?_
              refine aw_aaldn X 5 (j := i) hT9 rfl (h9) (by decide) dX10_close_66 ?_
              rcases hr124 : (va_up (cS M ad) k9 none) i with _ | a125
              · refine aw_astoreN (lv' := [(7, _), (6, _), (5, _), (4, _), (3, _), (2, _), (0, _), (1, _)]) X dX10_close_67 (by decide) rfl ?_
                refine aw_aloadN X dX10_close_69 rfl ?_
                refine aw_ifnullN (tgt := 89) X dX10_close_71 rfl ?_
                refine aw_iinc (lv' := [(6, _), (7, _), (5, _), (4, _), (3, _), (2, _), (0, _), (1, _)]) X dX10_close_89 rfl (iinc_1 _) (by decide) rfl ?_
                refine aw_goto (tgt := 55) X dX10_close_92 rfl ?_
                refine aw_lv [0, 2, 3, 4, 5, 6, 7] rfl ?_
                exact ih (i + 1) _ W9 (nI_1 i) (by omega) hO9 hT9 hC9 (fun j h3 h4 => by rw [hJ9 j h3 h4, ec_s (fun z => h4 (by have := cs_rn (ad := ad) (i := i) hr124 (by rw [← z.1]; exact h3); omega))]) hb9 (by omega)
              · obtain ⟨he126, ho127, hne128⟩ := cs_rm hr124
                subst he126
                have hs129 : W9 (ad 13 i) = some (sC (cSI M gi i) (sAd M ad (M.2.2 17 i)) (cX M ad i)) := by rw [hJ9 i ho127 hne128, if_neg (fun z => absurd z.1 (Nat.lt_irrefl i))]
                refine aw_astore (lv' := [(7, _), (6, _), (5, _), (4, _), (3, _), (2, _), (0, _), (1, _)]) X dX10_close_67 (by decide) rfl ?_
                refine aw_aload X dX10_close_69 rfl ?_
                refine aw_ifnull X dX10_close_71 ?_
                refine aw_aload X dX10_close_74 rfl ?_
                refine aw_getS X (k := 7) (v := va_rf (sAd M ad (M.2.2 17 i))) hs129 (by decide) fl_X10_215 rfl dX10_close_76 ?_
                refine aw_aload_n X dX10_close_79 rfl rfl ?_
                refine aw_acmp_ne (rx := (sAd M ad (M.2.2 17 i))) (ry := (some (ad 13 k9))) (tgt := 89) X dX10_close_80 rfl (fun c80 => ?_) (fun c80 => ?_)
                · refine aw_iinc (lv' := [(6, _), (7, _), (5, _), (4, _), (3, _), (2, _), (0, _), (1, _)]) X dX10_close_89 rfl (iinc_1 _) (by decide) rfl ?_
                  refine aw_goto (tgt := 55) X dX10_close_92 rfl ?_
                  refine aw_lv [0, 2, 3, 4, 5, 6, 7] rfl ?_
                  exact ih (i + 1) _ W9 (nI_1 i) (by omega) hO9 hT9 hC9 (fun j h3 h4 => by rw [hJ9 j h3 h4, ec_s (fun z => c80 (by rw [show M.2.2 17 i = t by rw [← z.1]; exact z.2]; exact sAd_opn hp9))]) hb9 (by omega)
                · refine aw_aload X dX10_close_83 rfl ?_
                  refine aw_null X dX10_close_85 ?_
                  refine aw_putSE (e' := none) X hs129 fl_X10_215 dX10_close_86 (fun w130 hk131 hn132 he133 => ?_)
                  have hk134 := (hn132 _ (rl_ne hL (t := 0) (i := 0) (t' := 13) (i' := i) (lvf 0 (by decide)) (ho127) (Or.inl rfl) (fun z => absurd z.1 (by decide)))).trans hO9
                  have hk135 := (hn132 _ (rl_ne hL (t := 3) (i := 0) (t' := 13) (i' := i) (lvf 3 (by decide)) (ho127) (Or.inl rfl) (fun z => absurd z.1 (by decide)))).trans hT9
                  have hk136 := (hn132 _ (Ne.symm (rl_ne hL (t := 13) (t' := 13) ho127 ho9 (Or.inl rfl) (fun y => hne128 y.2)))).trans hC9
                  refine aw_iinc (lv' := [(6, _), (7, _), (5, _), (4, _), (3, _), (2, _), (0, _), (1, _)]) X dX10_close_89 rfl (iinc_1 _) (by decide) rfl ?_
                  refine aw_goto (tgt := 55) X dX10_close_92 rfl ?_
                  refine aw_lv [0, 2, 3, 4, 5, 6, 7] rfl ?_
                  have ht : M.2.2 17 i = t := sA_is hL hp9 c80
                  have hJ' : ∀ j, opn M j → j ≠ k9 → w130 (ad 13 j) = some (sC (cSI M gi j) (if j < i + 1 ∧ M.2.2 17 j = t then none else sAd M ad (M.2.2 17 j)) (cX M ad j)) := by
                    intro j h3 h4
                    by_cases hji : j = i
                    · rw [hji, hk131, if_pos ⟨by omega, ht⟩]
                    · rw [he133, wm_upn (rl_ne hL (t := 13) (t' := 13) h3 ho127 (Or.inl rfl) (fun y => hji y.2)), hJ9 j h3 h4, ec_s (fun z => hji z.1)]
                  exact ih (i + 1) _ w130 (nI_1 i) (by omega) hk134 hk135 hk136 hJ' (fun b h3 h4 h5 => by rw [he133, wm_upn (h5 i ho127 hne128)]; exact hb9 b h3 h4 h5) (by omega)
        refine aw_lv [0, 1, 2, 3, 4, 5, 6] rfl ?_
        exact L 9 0 _ _ rfl (by omega) (by rw [if_pos (sA_is hL hp9 c33)]; exact hk120) hk123 (by rw [he122, wm_upn (rl_ne hL (t := 13) (t' := 0) ho9 (lvf 0 (by decide)) (Or.inl rfl) (fun y => absurd y.1 (by decide))), he104, wm_upn (rl_ne hL (t := 13) (t' := 3) ho9 (lvf 3 (by decide)) (Or.inl rfl) (fun y => absurd y.1 (by decide)))]; exact rl_st hL ho9) (fun j h3 h4 => by rw [if_neg (fun z => absurd z.1 (Nat.not_lt_zero j))]; rw [he122, wm_upn (rl_ne hL (t := 13) (t' := 0) h3 (lvf 0 (by decide)) (Or.inl rfl) (fun y => absurd y.1 (by decide))), he104, wm_upn (rl_ne hL (t := 13) (t' := 3) h3 (lvf 3 (by decide)) (Or.inl rfl) (fun y => absurd y.1 (by decide)))]; exact rl_st hL h3) (fun b h3 h4 _ => by rw [he122, wm_upn h3, he104, wm_upn h4]) (by omega)
    · exact absurd c8 (oI_n1 (x := some k9) rfl (by have := ho9.1; omega))
