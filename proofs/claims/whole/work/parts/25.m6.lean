def mo_lf (M : MS) (c : Int32) : MS :=
  if M.2.2 42 c.toNatClampNeg ≤ 0 then M
  else if (sF M 42 c.toNatClampNeg (M.2.2 42 c.toNatClampNeg - 1)).2.2 42 c.toNatClampNeg = 0 then mo_comes (sF M 42 c.toNatClampNeg (M.2.2 42 c.toNatClampNeg - 1)) (2 + c)
  else sF M 42 c.toNatClampNeg (M.2.2 42 c.toNatClampNeg - 1)
def mo_tm (M : MS) : MS :=
  if M.1 40 ≤ 0 then sI M 39 (M.1 39 + 1)
  else if ((M.1 39 + 1) - M.1 41) - ((((M.1 39 + 1) - M.1 41) / M.1 40) * M.1 40) = 0 then mo_comes (sI M 39 (M.1 39 + 1)) 1
  else sI M 39 (M.1 39 + 1)
def mo_t1 (M : MS) : MS := mo_lf (mo_lf (mo_tm M) 0) 1
def mo_tk (M : MS) : Nat → MS
  | 0 => M
  | i + 1 => mo_t1 (mo_tk M i)
theorem comes_bt {M : MS} {e : Int32} (h : bt (M.1 44) 0 8) : bt ((mo_comes M e).1 44) 0 8 := by
  unfold mo_comes
  split
  · exact h
  · rename_i h0
    have h1 := bt_iff.mp h
    have h2 : (M.1 44).toInt ≠ 8 := fun z => h0 ((i32_eq _ 8).mpr z)
    have h3 := ti_add (a := M.1 44) (b := 1) (y := 1) rfl rfl (by omega)
    show bt (M.1 44 + 1) 0 8 = true
    exact bt_iff.mpr ⟨by omega, by omega⟩
theorem lf_bt {M : MS} {c : Int32} (h : bt (M.1 44) 0 8) : bt ((mo_lf M c).1 44) 0 8 := by
  unfold mo_lf
  split
  · exact h
  · split
    · exact comes_bt h
    · exact h
theorem tm_bt {M : MS} (h : bt (M.1 44) 0 8) : bt ((mo_tm M).1 44) 0 8 := by
  unfold mo_tm
  split
  · exact h
  · split
    · exact comes_bt h
    · exact h
theorem tk_bt {M : MS} (h : bt (M.1 44) 0 8) : ∀ i, bt ((mo_tk M i).1 44) 0 8 = true
  | 0 => h
  | i + 1 => lf_bt (lf_bt (tm_bt (tk_bt h i)))
def mo_tick (M : MS) (n : Int32) : Int32 × MS := if bt n 0 1000 then ((mo_tk (sI M 0 0) n.toNatClampNeg).1 44, mo_tk (sI M 0 0) n.toNatClampNeg) else (-3, (sI M 0 0))
set_option maxRecDepth 100000 in
set_option maxHeartbeats 4000000 in
theorem kX11_tick (G : GG) (l : Launch) (q : Nat → Nat) (M : MS) (hq : mInj q) (he : bt (M.1 44) 0 8) (n : Int32) : MC G l yX11_tick cX11_tick 4 ((Option.some .int)) ({ frames := 1, cells := 0, slots := 0, locals := 25 } : Room) [.ref (q 0), .int n] (mw G q M) (fun v w' => v = some (.int (mo_tick M n).1) ∧ w' = mw G q (mo_tick M n).2) := by
  refine mc_int (by decide) (Nat.le_of_ble_eq_true rfl) rfl rfl ?_
  intro p e s m args below meth c A H0 Q X hnm RTN
  have X : Cx G p s m args meth c A H0 cX11_tick 4 RX11 := X
  refine aw_aload_n X dX11_tick_0 rfl rfl ?_
  refine aw_iconst X dX11_tick_1 ci_0 ?_
  refine am_put X 0 (M' := sI _ 0 _) (Nat.le_of_ble_eq_true rfl) fl_X11_1 rfl rfl (rfl) (rfl) (mf_0 _ _ _) rfl dX11_tick_2 ?_
  refine aw_iload_n X dX11_tick_5 rfl rfl ?_
  refine aw_i2l X dX11_tick_6 ?_
  refine aw_lconst X dX11_tick_7 cl_0 ?_
  refine aw_ldc2 X kl_X11_284 dX11_tick_8 ?_
  refine aw_callS X (kX11_inI _ _ _ _ _ _ 0 1000 rfl rfl) okm_X11_in ml_X11_12 st_X11_in rfl rfl (Nat.le_of_ble_eq_true rfl) ⟨Nat.le_of_ble_eq_true rfl, Nat.le_of_ble_eq_true rfl, Nat.le_of_ble_eq_true rfl, Nat.le_of_ble_eq_true rfl⟩ dX11_tick_11 (fun v w2 hp => ?_)
  obtain ⟨rfl, rfl⟩ := hp
  refine aw_if_ne (tgt := 20) X dX11_tick_14 rfl (fun c14 => ?_) (fun c14 => ?_)
  · rw [bI_n0] at c14
    refine aw_iconst X dX11_tick_20 ci_0 ?_
    refine aw_istore_n (lv' := [(2, _), (0, _), (1, _)]) X dX11_tick_21 rfl (by decide) rfl ?_
    obtain ⟨N, hN, hNe, _⟩ := bt_nat (hi := 1000) c14
    subst hNe
    have he : bt ((sI M 0 0).1 44) 0 8 := he
    have L : ∀ (nn i : Nat) (x : Int32), x = nI i → i ≤ N → N + 1 ≤ i + nn → AW G p l e ({ frames := 1, cells := 0, slots := 0, locals := 25 } : Room) s m args below meth c 4 A H0 Q (mw G q (mo_tk (sI M 0 0) i)) 0 0 22 [(2, .int x), (0, .ref (q 0)), (1, .int (nI N))] [] := by
      intro nn
      induction nn with
      | zero => intro i x hx h1 h2; exact absurd h2 (by omega)
      | succ nn ih =>
        intro i x hx h1 h2
        subst hx
        have J2 : ∀ (N2 : MS), N2 = mo_lf (mo_lf (mo_tm (mo_tk (sI M 0 0) i)) 0) 1 → i < N → AW G p l e ({ frames := 1, cells := 0, slots := 0, locals := 25 } : Room) s m args below meth c 4 A H0 Q (mw G q N2) 0 0 114 [(3, .int 2), (2, .int (nI i)), (0, .ref (q 0)), (1, .int (nI N))] [] := by
          intro N2 hN2 h9
          have hb2 : bt (N2.1 44) 0 8 := by rw [hN2]; exact lf_bt (lf_bt (tm_bt (tk_bt he i)))
          refine aw_iinc (lv' := [(2, _), (3, _), (0, _), (1, _)]) X dX11_tick_114 rfl (iinc_1 _) (by decide) rfl ?_
          refine aw_goto (tgt := 22) X dX11_tick_117 rfl ?_
          refine aw_lv [0, 2, 3] rfl ?_
          rw [hN2]
          exact ih (i + 1) _ (nI_1 i) (by omega) (by omega)
        have J1 : ∀ (N2 : MS), N2 = mo_lf (mo_tm (mo_tk (sI M 0 0) i)) 0 → i < N → AW G p l e ({ frames := 1, cells := 0, slots := 0, locals := 25 } : Room) s m args below meth c 4 A H0 Q (mw G q N2) 0 0 68 [(3, .int 1), (2, .int (nI i)), (0, .ref (q 0)), (1, .int (nI N))] [] := by
          intro N2 hN2 h9
          have hb2 : bt (N2.1 44) 0 8 := by rw [hN2]; exact lf_bt (tm_bt (tk_bt he i))
          refine aw_iload_n X dX11_tick_68 rfl rfl ?_
          refine aw_iconst X dX11_tick_69 ci_2 ?_
          refine aw_icmp_ge (tgt := 114) X dX11_tick_70 rfl (fun c70 => ?_) (fun c70 => ?_)
          · exact absurd c70 (by decide)
          · refine aw_aload_n X dX11_tick_73 rfl rfl ?_
            refine am_get X 42 (Nat.le_of_ble_eq_true rfl) fl_X11_157 rfl rfl dX11_tick_74 ?_
            refine aw_iload_n X dX11_tick_77 rfl rfl ?_
            refine am_ald X 42 _ (N2.2.2 42) hq (by decide) rfl rfl rfl (vp_in_nI (n := 1) (N := 2) (by decide) (by decide)) dX11_tick_78 ?_
            refine aw_if_le (tgt := 108) X dX11_tick_79 rfl (fun c79 => ?_) (fun c79 => ?_)
            · refine aw_iinc (v := 2) (lv' := [(3, _), (2, _), (0, _), (1, _)]) X dX11_tick_108 rfl (by decide) (by decide) rfl ?_
              refine aw_goto (tgt := 68) X dX11_tick_111 rfl ?_
              refine aw_iload_n X dX11_tick_68 rfl rfl ?_
              refine aw_iconst X dX11_tick_69 ci_2 ?_
              refine aw_icmp_ge (tgt := 114) X dX11_tick_70 rfl (fun c70 => ?_) (fun c70 => ?_)
              · refine aw_lv [0, 1, 2, 3] rfl ?_
                refine J2 _ ?_ h9
                rw [← hN2]; unfold mo_lf; rw [if_pos c79]
              · exact absurd c70 (by decide)
            · refine aw_aload_n X dX11_tick_82 rfl rfl ?_
              refine am_get X 42 (Nat.le_of_ble_eq_true rfl) fl_X11_157 rfl rfl dX11_tick_83 ?_
              refine aw_iload_n X dX11_tick_86 rfl rfl ?_
              refine aw_dup2_11 X dX11_tick_87 rfl rfl ?_
              refine am_ald X 42 _ (N2.2.2 42) hq (by decide) rfl rfl rfl (vp_in_nI (n := 1) (N := 2) (by decide) (by decide)) dX11_tick_88 ?_
              refine aw_iconst X dX11_tick_89 ci_1 ?_
              refine aw_isub X dX11_tick_90 ?_
              refine am_ast X 42 _ hq (by decide) rfl rfl (vp_in_nI (n := 1) (N := 2) (by decide) (by decide)) dX11_tick_91 ?_
              refine aw_aload_n X dX11_tick_92 rfl rfl ?_
              refine am_get X 42 (Nat.le_of_ble_eq_true rfl) fl_X11_157 rfl rfl dX11_tick_93 ?_
              refine aw_iload_n X dX11_tick_96 rfl rfl ?_
              refine am_ald X 42 _ ((sF N2 42 (1 : Int32).toNatClampNeg ((N2.2.2 42 (1 : Int32).toNatClampNeg) - 1)).2.2 42) hq (by decide) rfl rfl rfl (vp_in_nI (n := 1) (N := 2) (by decide) (by decide)) dX11_tick_97 ?_
              refine aw_if_ne (tgt := 108) X dX11_tick_98 rfl (fun c98 => ?_) (fun c98 => ?_)
              · refine aw_iinc (v := 2) (lv' := [(3, _), (2, _), (0, _), (1, _)]) X dX11_tick_108 rfl (by decide) (by decide) rfl ?_
                refine aw_goto (tgt := 68) X dX11_tick_111 rfl ?_
                refine aw_iload_n X dX11_tick_68 rfl rfl ?_
                refine aw_iconst X dX11_tick_69 ci_2 ?_
                refine aw_icmp_ge (tgt := 114) X dX11_tick_70 rfl (fun c70 => ?_) (fun c70 => ?_)
                · refine aw_lv [0, 1, 2, 3] rfl ?_
                  refine J2 _ ?_ h9
                  rw [← hN2]; unfold mo_lf; rw [if_neg c79, if_neg c98]
                · exact absurd c70 (by decide)
              · refine aw_aload_n X dX11_tick_101 rfl rfl ?_
                refine aw_iconst X dX11_tick_102 ci_2 ?_
                refine aw_iload_n X dX11_tick_103 rfl rfl ?_
                refine aw_iadd X dX11_tick_104 ?_
                refine aw_callV X (kX11_comes _ _ _ _ hq _ hb2) okm_X11_comes okX11 mw_0 ml_X11_301 im_X11_comes se_X11_X11_comes rfl rfl (Nat.le_of_ble_eq_true rfl) ⟨Nat.le_of_ble_eq_true rfl, Nat.le_of_ble_eq_true rfl, Nat.le_of_ble_eq_true rfl, Nat.le_of_ble_eq_true rfl⟩ dX11_tick_105 (fun v w2 hp => ?_)
                obtain ⟨rfl, rfl⟩ := hp
                refine aw_iinc (v := 2) (lv' := [(3, _), (2, _), (0, _), (1, _)]) X dX11_tick_108 rfl (by decide) (by decide) rfl ?_
                refine aw_goto (tgt := 68) X dX11_tick_111 rfl ?_
                refine aw_iload_n X dX11_tick_68 rfl rfl ?_
                refine aw_iconst X dX11_tick_69 ci_2 ?_
                refine aw_icmp_ge (tgt := 114) X dX11_tick_70 rfl (fun c70 => ?_) (fun c70 => ?_)
                · refine aw_lv [0, 1, 2, 3] rfl ?_
                  refine J2 _ ?_ h9
                  rw [← hN2]; unfold mo_lf; rw [if_neg c79, if_pos c98]
                · exact absurd c70 (by decide)
        have J0 : ∀ (N2 : MS), N2 = mo_tm (mo_tk (sI M 0 0) i) → i < N → AW G p l e ({ frames := 1, cells := 0, slots := 0, locals := 25 } : Room) s m args below meth c 4 A H0 Q (mw G q N2) 0 0 68 [(3, .int 0), (2, .int (nI i)), (0, .ref (q 0)), (1, .int (nI N))] [] := by
          intro N2 hN2 h9
          have hb2 : bt (N2.1 44) 0 8 := by rw [hN2]; exact tm_bt (tk_bt he i)
          refine aw_iload_n X dX11_tick_68 rfl rfl ?_
          refine aw_iconst X dX11_tick_69 ci_2 ?_
          refine aw_icmp_ge (tgt := 114) X dX11_tick_70 rfl (fun c70 => ?_) (fun c70 => ?_)
          · exact absurd c70 (by decide)
          · refine aw_aload_n X dX11_tick_73 rfl rfl ?_
            refine am_get X 42 (Nat.le_of_ble_eq_true rfl) fl_X11_157 rfl rfl dX11_tick_74 ?_
            refine aw_iload_n X dX11_tick_77 rfl rfl ?_
            refine am_ald X 42 _ (N2.2.2 42) hq (by decide) rfl rfl rfl (vp_in_nI (n := 0) (N := 2) (by decide) (by decide)) dX11_tick_78 ?_
            refine aw_if_le (tgt := 108) X dX11_tick_79 rfl (fun c79 => ?_) (fun c79 => ?_)
            · refine aw_iinc (v := 1) (lv' := [(3, _), (2, _), (0, _), (1, _)]) X dX11_tick_108 rfl (by decide) (by decide) rfl ?_
              refine aw_goto (tgt := 68) X dX11_tick_111 rfl ?_
              refine aw_lv [0, 1, 2, 3] rfl ?_
              refine J1 _ ?_ h9
              rw [← hN2]; unfold mo_lf; rw [if_pos c79]
            · refine aw_aload_n X dX11_tick_82 rfl rfl ?_
              refine am_get X 42 (Nat.le_of_ble_eq_true rfl) fl_X11_157 rfl rfl dX11_tick_83 ?_
              refine aw_iload_n X dX11_tick_86 rfl rfl ?_
              refine aw_dup2_11 X dX11_tick_87 rfl rfl ?_
              refine am_ald X 42 _ (N2.2.2 42) hq (by decide) rfl rfl rfl (vp_in_nI (n := 0) (N := 2) (by decide) (by decide)) dX11_tick_88 ?_
              refine aw_iconst X dX11_tick_89 ci_1 ?_
              refine aw_isub X dX11_tick_90 ?_
              refine am_ast X 42 _ hq (by decide) rfl rfl (vp_in_nI (n := 0) (N := 2) (by decide) (by decide)) dX11_tick_91 ?_
              refine aw_aload_n X dX11_tick_92 rfl rfl ?_
              refine am_get X 42 (Nat.le_of_ble_eq_true rfl) fl_X11_157 rfl rfl dX11_tick_93 ?_
              refine aw_iload_n X dX11_tick_96 rfl rfl ?_
              refine am_ald X 42 _ ((sF N2 42 (0 : Int32).toNatClampNeg ((N2.2.2 42 (0 : Int32).toNatClampNeg) - 1)).2.2 42) hq (by decide) rfl rfl rfl (vp_in_nI (n := 0) (N := 2) (by decide) (by decide)) dX11_tick_97 ?_
              refine aw_if_ne (tgt := 108) X dX11_tick_98 rfl (fun c98 => ?_) (fun c98 => ?_)
              · refine aw_iinc (v := 1) (lv' := [(3, _), (2, _), (0, _), (1, _)]) X dX11_tick_108 rfl (by decide) (by decide) rfl ?_
                refine aw_goto (tgt := 68) X dX11_tick_111 rfl ?_
                refine aw_lv [0, 1, 2, 3] rfl ?_
                refine J1 _ ?_ h9
                rw [← hN2]; unfold mo_lf; rw [if_neg c79, if_neg c98]
              · refine aw_aload_n X dX11_tick_101 rfl rfl ?_
                refine aw_iconst X dX11_tick_102 ci_2 ?_
                refine aw_iload_n X dX11_tick_103 rfl rfl ?_
                refine aw_iadd X dX11_tick_104 ?_
                refine aw_callV X (kX11_comes _ _ _ _ hq _ hb2) okm_X11_comes okX11 mw_0 ml_X11_301 im_X11_comes se_X11_X11_comes rfl rfl (Nat.le_of_ble_eq_true rfl) ⟨Nat.le_of_ble_eq_true rfl, Nat.le_of_ble_eq_true rfl, Nat.le_of_ble_eq_true rfl, Nat.le_of_ble_eq_true rfl⟩ dX11_tick_105 (fun v w2 hp => ?_)
                obtain ⟨rfl, rfl⟩ := hp
                refine aw_iinc (v := 1) (lv' := [(3, _), (2, _), (0, _), (1, _)]) X dX11_tick_108 rfl (by decide) (by decide) rfl ?_
                refine aw_goto (tgt := 68) X dX11_tick_111 rfl ?_
                refine aw_lv [0, 1, 2, 3] rfl ?_
                refine J1 _ ?_ h9
                rw [← hN2]; unfold mo_lf; rw [if_neg c79, if_pos c98]
        refine aw_iload_n X dX11_tick_22 rfl rfl ?_
        refine aw_iload_n X dX11_tick_23 rfl rfl ?_
        refine aw_icmp_ge (tgt := 120) X dX11_tick_24 rfl (fun c24 => ?_) (fun c24 => ?_)
        · have h9 : i = N := by have := (nI_leI (a := N) (b := i) (by omega) (by omega)).mp c24; omega
          subst h9
          refine aw_aload_n X dX11_tick_120 rfl rfl ?_
          refine am_get X 44 (v := .int ((mo_tk (sI M 0 0) i).1 44)) (Nat.le_of_ble_eq_true rfl) fl_X11_295 rfl rfl dX11_tick_121 ?_
          refine RTN (some (.int _)) _ _ _ _ _ dX11_tick_124 (⟨_, rfl⟩) (Nat.le_of_ble_eq_true rfl) (Nat.le_of_ble_eq_true rfl) ?_
          exact ⟨by simp only [mo_tick, c14, if_true, nI_clamp (show i < 2 ^ 31 by omega)], by simp only [mo_tick, c14, if_true, nI_clamp (show i < 2 ^ 31 by omega)]⟩
        · have h9 : i < N := Nat.lt_of_not_le (fun h => c24 ((nI_leI (a := N) (b := i) (by omega) (by omega)).mpr h))
          refine aw_aload_n X dX11_tick_27 rfl rfl ?_
          refine aw_dup X dX11_tick_28 rfl ?_
          refine am_get X 39 (v := .int ((mo_tk (sI M 0 0) i).1 39)) (Nat.le_of_ble_eq_true rfl) fl_X11_289 rfl rfl dX11_tick_29 ?_
          refine aw_iconst X dX11_tick_32 ci_1 ?_
          refine aw_iadd X dX11_tick_33 ?_
          refine am_put X 39 (M' := sI _ 39 _) (Nat.le_of_ble_eq_true rfl) fl_X11_289 rfl rfl (rfl) (rfl) (mf_39 _ _ _) rfl dX11_tick_34 ?_
          refine aw_aload_n X dX11_tick_37 rfl rfl ?_
          refine am_get X 40 (v := .int ((mo_tk (sI M 0 0) i).1 40)) (Nat.le_of_ble_eq_true rfl) fl_X11_286 rfl rfl dX11_tick_38 ?_
          refine aw_if_le (tgt := 66) X dX11_tick_41 rfl (fun c41 => ?_) (fun c41 => ?_)
          · refine aw_iconst X dX11_tick_66 ci_0 ?_
            refine aw_istore_n (lv' := [(3, _), (2, _), (0, _), (1, _)]) X dX11_tick_67 rfl (by decide) rfl ?_
            refine aw_lv [0, 1, 2, 3] rfl ?_
            refine J0 _ ?_ h9
            unfold mo_tm; rw [if_pos c41]
          · refine aw_aload_n X dX11_tick_44 rfl rfl ?_
            refine am_get X 39 (v := .int (((mo_tk (sI M 0 0) i).1 39) + 1)) (Nat.le_of_ble_eq_true rfl) fl_X11_289 rfl rfl dX11_tick_45 ?_
            refine aw_aload_n X dX11_tick_48 rfl rfl ?_
            refine am_get X 41 (v := .int ((mo_tk (sI M 0 0) i).1 41)) (Nat.le_of_ble_eq_true rfl) fl_X11_292 rfl rfl dX11_tick_49 ?_
            refine aw_isub X dX11_tick_52 ?_
            refine aw_aload_n X dX11_tick_53 rfl rfl ?_
            refine am_get X 40 (v := .int ((mo_tk (sI M 0 0) i).1 40)) (Nat.le_of_ble_eq_true rfl) fl_X11_286 rfl rfl dX11_tick_54 ?_
            refine aw_irem X dX11_tick_57 (fun h => c41 (by rw [h]; decide)) ?_
            refine aw_if_ne (tgt := 66) X dX11_tick_58 rfl (fun c58 => ?_) (fun c58 => ?_)
            · refine aw_iconst X dX11_tick_66 ci_0 ?_
              refine aw_istore_n (lv' := [(3, _), (2, _), (0, _), (1, _)]) X dX11_tick_67 rfl (by decide) rfl ?_
              refine aw_lv [0, 1, 2, 3] rfl ?_
              refine J0 _ ?_ h9
              unfold mo_tm; rw [if_neg c41, if_neg c58]
            · refine aw_aload_n X dX11_tick_61 rfl rfl ?_
              refine aw_iconst X dX11_tick_62 ci_1 ?_
              refine aw_callV X (kX11_comes _ _ _ _ hq _ (tk_bt he i)) okm_X11_comes okX11 mw_0 ml_X11_301 im_X11_comes se_X11_X11_comes rfl rfl (Nat.le_of_ble_eq_true rfl) ⟨Nat.le_of_ble_eq_true rfl, Nat.le_of_ble_eq_true rfl, Nat.le_of_ble_eq_true rfl, Nat.le_of_ble_eq_true rfl⟩ dX11_tick_63 (fun v w2 hp => ?_)
              obtain ⟨rfl, rfl⟩ := hp
              refine aw_iconst X dX11_tick_66 ci_0 ?_
              refine aw_istore_n (lv' := [(3, _), (2, _), (0, _), (1, _)]) X dX11_tick_67 rfl (by decide) rfl ?_
              refine aw_lv [0, 1, 2, 3] rfl ?_
              refine J0 _ ?_ h9
              unfold mo_tm; rw [if_neg c41, if_pos c58]
    refine aw_lv [0, 1, 2] rfl ?_
    exact L (N + 1) 0 _ rfl (by omega) (by omega)
  · rw [bI_0] at c14
    refine aw_bipush X dX11_tick_17 cb_m3 ?_
    refine RTN (some (.int _)) _ _ _ _ _ dX11_tick_19 (⟨_, rfl⟩) (Nat.le_of_ble_eq_true rfl) (Nat.le_of_ble_eq_true rfl) ?_
    first | (constructor <;> ((try simp only [mo_tick, c14, if_true, if_false, not_true_eq_false, not_false_eq_true, and_self, true_and, and_true, false_and, and_false, or_true, true_or, or_false, false_or, reduceCtorEq, ne_eq, va_us, pk_us]); (try rfl); done)) | (clear RTN X; constructor <;> ((try simp_all only [mo_tick, if_true, if_false, not_true_eq_false, not_false_eq_true, and_self, true_and, and_true, false_and, and_false, or_true, true_or, or_false, false_or, reduceCtorEq, ne_eq, va_us, pk_us]); (try rfl); done))
