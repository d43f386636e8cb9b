/-! ticks and events -/
theorem cr_sh {K M : MS} {tl : Int32} (h : CR K M tl) : ∀ j, CR (ch_sh K j) (mo_shift M j) tl
  | 0 => h
  | j + 1 => by
    obtain ⟨h0, h1, h2, h4, h5, h3, h6⟩ := cr_sh h j
    refine ⟨h0, h1, h2, h4, h5, h3, ?_⟩
    show upd ((ch_sh K j).2.2 6) (nI j).toNatClampNeg ((ch_sh K j).2.2 6 (nI j + 1).toNatClampNeg) = upd ((mo_shift M j).2.2 43) (nI (j + 1) - 1).toNatClampNeg ((mo_shift M j).2.2 43 (nI (j + 1)).toNatClampNeg)
    have e : nI (j + 1) - 1 = nI j := by rw [← nI_1, Int32.add_sub_cancel]
    rw [h6, nI_1, e]
theorem cr_44 {K M : MS} {tl x : Int32} (h : CR K M tl) : CR (sI K 4 x) (sI M 44 x) tl := ⟨h.1, h.2.1, h.2.2.1, rfl, h.2.2.2.2.1, h.2.2.2.2.2.1, h.2.2.2.2.2.2⟩
theorem sh_44 {M : MS} {x : Int32} : ∀ j, mo_shift (sI M 44 x) j = sI (mo_shift M j) 44 x
  | 0 => rfl
  | j + 1 => by
    show sF (mo_shift (sI M 44 x) j) 43 _ ((mo_shift (sI M 44 x) j).2.2 43 _) = _
    rw [sh_44 j]
    rfl
theorem sh_0 {M : MS} {x : Int32} : ∀ j, mo_shift (sI M 0 x) j = sI (mo_shift M j) 0 x
  | 0 => rfl
  | j + 1 => by
    show sF (mo_shift (sI M 0 x) j) 43 _ ((mo_shift (sI M 0 x) j).2.2 43 _) = _
    rw [sh_0 j]
    rfl
theorem rl_044 {G : GG} {M : MS} {ad : AD} {gi : GI} {w : WM} {y : Int32} (h : RLa G (sI M 44 y) ad gi w) : RLa G (sI (sI M 0 0) 44 y) ad gi w := h
theorem cr_0 {K M : MS} {tl x : Int32} (h : CR K M tl) : CR K (sI M 0 x) tl := h
theorem cm_0 {M M' : MS} (h : CM (sI M 0 0) M') : CM (sI M 0 0) M' := h
theorem rX0_passTick (G : GG) (l : Launch) (M : MS) (ad : AD) (gi : GI) (w : WM) (hL : RLa G M ad gi w) (hb : bt (M.1 44) 0 8) (hT : (M.1 39).toInt < 2 ^ 30) : MC G l yX0_passTick cX0_passTick 2 (none) ({ frames := 1, cells := 0, slots := 0, locals := 21 } : Room) [.ref (ad 6 0)] w (fun v w' => v = none ∧ ∃ gi', RLa G (mo_t1 M) ad gi' w') := by
  refine mc_imp (mc_frame (chw_sub hL) (kX0_passTick G l (cq ad) (kC M (gi 3 0 0)) (cq_inj hL) hb)) ?_
  rintro v w' ⟨w2, ⟨h1, h2⟩, h3⟩
  obtain ⟨tl', h4, h5⟩ := cr_pass (kC_cr M (gi 3 0 0)) hb hL.2.2.2.2.1 hT
  rw [h2] at h3
  exact ⟨h1, _, rl_ch hL h3 h4 (cm_t1 (cm_refl M)) h5⟩
theorem rX0_takeEldest (G : GG) (l : Launch) (M : MS) (ad : AD) (gi : GI) (w : WM) (hL : RLa G M ad gi w) (hb : bt (M.1 44) 0 8) : MC G l yX0_takeEldest cX0_takeEldest 3 ((Option.some .int)) ({ frames := 0, cells := 0, slots := 0, locals := 0 } : Room) [.ref (ad 6 0)] w (fun v w' => v = some (.int (mo_event M).1) ∧ ∃ gi', RLa G (mo_event M).2 ad gi' w') := by
  refine mc_imp (mc_frame (chw_sub hL) (kX0_takeEldest G l (cq ad) (kC M (gi 3 0 0)) (cq_inj hL) hb)) ?_
  rintro v w' ⟨w2, ⟨h1, h2⟩, h3⟩
  rw [h2] at h3
  have hk : CR (kC M (gi 3 0 0)) M (gi 3 0 0) := kC_cr M (gi 3 0 0)
  have e4 : (kC M (gi 3 0 0)).1 4 = M.1 44 := rfl
  unfold ch_take at h1 h3
  rw [e4] at h1 h3
  by_cases h0 : M.1 44 = 0
  · rw [if_pos h0] at h1 h3
    unfold mo_event
    rw [if_pos h0]
    exact ⟨h1, _, rl_0 (rl_ch hL h3 hk (cm_refl M) hL.2.2.2.2.1)⟩
  · rw [if_neg h0] at h1 h3
    unfold mo_event
    rw [if_neg h0]
    have hn := bt_iff.mp hb
    have n0 : (M.1 44).toInt ≠ 0 := fun z => h0 ((i32_eq _ 0).mpr z)
    have hs := ti_sub (a := M.1 44) (b := 1) (y := 1) rfl rfl (by omega)
    have hN : (M.1 44 - 1).toNatClampNeg = (M.1 44).toNatClampNeg - 1 := by
      have a1 : (M.1 44 - 1).toNatClampNeg = (M.1 44 - 1).toInt.toNat := rfl
      have a2 : (M.1 44).toNatClampNeg = (M.1 44).toInt.toNat := rfl
      omega
    refine ⟨h1, gu gi 3 0 (fun _ => gi 3 0 0), ?_⟩
    show RLa G (sI (mo_shift (sI M 0 0) ((M.1 44).toNatClampNeg - 1)) 44 (M.1 44 - 1)) ad _ w'
    rw [sh_0]
    refine rl_044 (rl_ch (M' := sI (mo_shift M ((M.1 44).toNatClampNeg - 1)) 44 (M.1 44 - 1)) hL h3 ?_ (cm_44 (cm_shift (cm_refl M) _)) ?_)
    · rw [← sh_44, hN]
      exact cr_sh (cr_44 hk) _
    · have := hL.2.2.2.2.1
      unfold sdt
      show 0 ≤ ((mo_shift M _).1 41).toInt ∧ ((mo_shift M _).1 41).toInt ≤ ((mo_shift M _).1 39).toInt ∧ (0 < ((mo_shift M _).1 40).toInt → (gi 3 0 0).toInt = ((mo_shift M _).1 40).toInt - (((mo_shift M _).1 39).toInt - ((mo_shift M _).1 41).toInt) % ((mo_shift M _).1 40).toInt)
      rw [shift_1]
      exact this
set_option maxRecDepth 100000 in
set_option maxHeartbeats 4000000 in
theorem kX10_event (G : GG) (l : Launch) (M : MS) (ad : AD) (gi : GI) (w : WM) (hL : RLa G M ad gi w) (hb : bt (M.1 44) 0 8) : MC G l yX10_event cX10_event 1 ((Option.some .int)) ({ frames := 1, cells := 0, slots := 0, locals := 22 } : Room) [.ref (ad 0 0)] w (fun v w' => v = some (.int (mo_event M ).1) ∧ ∃ ad' gi', RLa G (mo_event M ).2 ad' gi' w' ∧ ad' 0 0 = ad 0 0) := by
  refine mc_int (by decide) (Nat.le_of_ble_eq_true rfl) rfl rfl ?_
  intro p e s m args below meth c A H0 Q X hnm RTN
  have X : Cx G p s m args meth c A H0 cX10_event 1 RX10 := X
  have k0_ : w (ad 0 0) = some (.inr (11, [.ref (ad 1 0), .ref (ad 2 0), .ref (ad 3 0), .ref (ad 4 0), .ref (ad 5 0), .ref (ad 6 0), va_rf (sAd M ad (M.1 20)), .int (M.1 7), .int (M.1 29), .int (M.1 38), .int ((M.2.1 21).toInt32), .int ((M.2.1 22).toInt32), .int (M.1 5)])) := hL.1 0 0 (lvf 0 (by decide))
  have k6_ : w (ad 6 0) = some (.inr (2, [.int (M.1 39), .int (M.1 40), .int (gi 3 0 0), .ref (ad 7 0), .int (M.1 44), .int (M.1 45), .ref (ad 8 0)])) := hL.1 6 0 (lvf 6 (by decide))
  refine aw_aload_n X dX10_event_0 rfl rfl ?_
  refine aw_get X okX10 (k := 5) k0_ (Nat.le_of_ble_eq_true rfl) fl_X10_42 (Or.inl rfl) rfl dX10_event_1 ?_
  refine aw_callV X (rX0_takeEldest _ _ _ _ _ _ hL hb) okm_X0_takeEldest okX0 k6_ ml_X10_356 im_X0_takeEldest se_X0_X0_takeEldest rfl rfl (Nat.le_of_ble_eq_true rfl) ⟨Nat.le_of_ble_eq_true rfl, Nat.le_of_ble_eq_true rfl, Nat.le_of_ble_eq_true rfl, Nat.le_of_ble_eq_true rfl⟩ dX10_event_4 (fun v w2 hp => ?_)
  obtain ⟨rfl, gi2, hL2⟩ := hp
  refine RTN (some (.int _)) _ _ _ _ _ dX10_event_7 (⟨_, rfl⟩) (Nat.le_of_ble_eq_true rfl) (Nat.le_of_ble_eq_true rfl) ?_
  exact ⟨rfl, ad, gi2, hL2, rfl⟩
theorem comes_39 {M : MS} {e : Int32} : (mo_comes M e).1 39 = M.1 39 := comes_1 (by decide) (by decide)
theorem tk_39 {M : MS} (hT : (M.1 39).toInt < 2 ^ 29) : ∀ i : Nat, i ≤ 1000 → ((mo_tk (sI M 0 0) i).1 39).toInt = (M.1 39).toInt + i
  | 0, _ => (Int.add_zero _).symm
  | i + 1, h => by
    have ih := tk_39 hT i (by omega)
    show ((mo_t1 (mo_tk (sI M 0 0) i)).1 39).toInt = _
    unfold mo_t1
    rw [lf_1 (by decide) (by decide), lf_1 (by decide) (by decide), tm_39]
    have h2 : -(2 ^ 31 : Int) ≤ (M.1 39).toInt := Int32.le_toInt _
    have := ti_add (a := (mo_tk (sI M 0 0) i).1 39) (b := 1) (y := 1) ih rfl (by omega)
    omega
set_option maxRecDepth 100000 in
set_option maxHeartbeats 4000000 in
theorem kX10_tick (G : GG) (l : Launch) (M : MS) (ad : AD) (gi : GI) (w : WM) (hL : RLa G M ad gi w) (hb : bt (M.1 44) 0 8) (hT : (M.1 39).toInt < 2 ^ 29) (n : Int32) : MC G l yX10_tick cX10_tick 3 ((Option.some .int)) ({ frames := 2, cells := 0, slots := 0, locals := 42 } : Room) [.ref (ad 0 0), .int n] w (fun v w' => v = some (.int (mo_tick M n).1) ∧ ∃ ad' gi', RLa G (mo_tick M n).2 ad' gi' w' ∧ ad' 0 0 = ad 0 0) := by
  refine mc_int (by decide) (Nat.le_of_ble_eq_true rfl) rfl rfl ?_
  intro p e s m args below meth c A H0 Q X hnm RTN
  have X : Cx G p s m args meth c A H0 cX10_tick 3 RX10 := X
  have hT1 : ∀ i : Nat, i ≤ 1000 → ((mo_tk (sI M 0 0) i).1 39).toInt = (M.1 39).toInt + i := tk_39 hT
  have k0_ : w (ad 0 0) = some (.inr (11, [.ref (ad 1 0), .ref (ad 2 0), .ref (ad 3 0), .ref (ad 4 0), .ref (ad 5 0), .ref (ad 6 0), va_rf (sAd M ad (M.1 20)), .int (M.1 7), .int (M.1 29), .int (M.1 38), .int ((M.2.1 21).toInt32), .int ((M.2.1 22).toInt32), .int (M.1 5)])) := hL.1 0 0 (lvf 0 (by decide))
  refine aw_iload_n X dX10_tick_0 rfl rfl ?_
  refine aw_iconst X dX10_tick_1 ci_0 ?_
  refine aw_sipush X dX10_tick_2 cs_1000 ?_
  refine aw_callS X (kX10_within _ _ _ _ _ _ 0 1000 rfl rfl) okm_X10_within ml_X10_50 st_X10_within rfl rfl (Nat.le_of_ble_eq_true rfl) ⟨Nat.le_of_ble_eq_true rfl, Nat.le_of_ble_eq_true rfl, Nat.le_of_ble_eq_true rfl, Nat.le_of_ble_eq_true rfl⟩ dX10_tick_5 (fun v w2 hp => ?_)
  obtain ⟨rfl, hw9⟩ := hp
  have hw9 := hw9.symm
  subst hw9
  refine aw_if_ne (tgt := 14) X dX10_tick_8 rfl (fun c8 => ?_) (fun c8 => ?_)
  · rw [bI_n0] at c8
    refine aw_iconst X dX10_tick_14 ci_0 ?_
    refine aw_istore_n (lv' := [(2, _), (0, _), (1, _)]) X dX10_tick_15 rfl (by decide) rfl ?_
    obtain ⟨N, hN, hNe, _⟩ := bt_nat (hi := 1000) c8
    subst hNe
    have L : ∀ (nn : Nat) (i : Nat) (x : Int32) (M1 : MS) (gi1 : GI) (w1 : WM), (x = nI i) → (RLa G M1 ad gi1 w1) → (M1 = mo_tk (sI M 0 0) i) → (i ≤ N) → (N + 1 ≤ i + nn) → AW G p l e ({ frames := 2, cells := 0, slots := 0, locals := 42 } : Room) s m args below meth c 3 A H0 Q w1 0 0 16 [(2, .int x), (0, .ref (ad 0 0)), (1, .int (nI N))] [] := by
      intro nn
      induction nn with
      | zero => intro i x M1 gi1 w1 hx hL1 hM1 h1 h2; exact absurd h2 (by omega)
      | succ nn ih =>
        intro i x M1 gi1 w1 hx hL1 hM1 h1 h2
        subst hx
        have k0_ : w1 (ad 0 0) = some (.inr (11, [.ref (ad 1 0), .ref (ad 2 0), .ref (ad 3 0), .ref (ad 4 0), .ref (ad 5 0), .ref (ad 6 0), va_rf (sAd M1 ad (M1.1 20)), .int (M1.1 7), .int (M1.1 29), .int (M1.1 38), .int ((M1.2.1 21).toInt32), .int ((M1.2.1 22).toInt32), .int (M1.1 5)])) := hL1.1 0 0 (lvf 0 (by decide))
        have k6_ : w1 (ad 6 0) = some (.inr (2, [.int (M1.1 39), .int (M1.1 40), .int (gi1 3 0 0), .ref (ad 7 0), .int (M1.1 44), .int (M1.1 45), .ref (ad 8 0)])) := hL1.1 6 0 (lvf 6 (by decide))
        refine aw_iload_n X dX10_tick_16 rfl rfl ?_
        refine aw_iload_n X dX10_tick_17 rfl rfl ?_
        refine aw_icmp_ge (tgt := 34) X dX10_tick_18 rfl (fun c18 => ?_) (fun c18 => ?_)
        · have h9 : i = N := by have := (nI_leI (a := N) (b := i) (by omega) (by omega)).mp c18; omega
          subst h9
          refine aw_aload_n X dX10_tick_34 rfl rfl ?_
          refine aw_get X okX10 (k := 5) k0_ (Nat.le_of_ble_eq_true rfl) fl_X10_42 (Or.inl rfl) rfl dX10_tick_35 ?_
          refine aw_get X okX0 (k := 4) k6_ (Nat.le_of_ble_eq_true rfl) fl_X10_353 (Or.inl rfl) rfl dX10_tick_38 ?_
          refine RTN (some (.int _)) _ _ _ _ _ dX10_tick_41 (⟨_, rfl⟩) (Nat.le_of_ble_eq_true rfl) (Nat.le_of_ble_eq_true rfl) ?_
          have hm : mo_tick M (nI i) = (M1.1 44, M1) := by simp only [mo_tick, c8, if_true, nI_clamp (show i < 2 ^ 31 by omega), hM1]
          rw [hm]
          exact ⟨rfl, ad, gi1, hL1, rfl⟩
        · have h9 : i < N := Nat.lt_of_not_le (fun h => c18 ((nI_leI (a := N) (b := i) (by omega) (by omega)).mpr h))
          refine aw_aload_n X dX10_tick_21 rfl rfl ?_
          refine aw_get X okX10 (k := 5) k0_ (Nat.le_of_ble_eq_true rfl) fl_X10_42 (Or.inl rfl) rfl dX10_tick_22 ?_
          refine aw_callV X (rX0_passTick _ _ _ _ _ _ hL1 (by rw [hM1]; exact tk_bt (M := sI M 0 0) hb i) (by rw [hM1, hT1 i (by omega)]; omega)) okm_X0_passTick okX0 k6_ ml_X10_350 im_X0_passTick se_X0_X0_passTick rfl rfl (Nat.le_of_ble_eq_true rfl) ⟨Nat.le_of_ble_eq_true rfl, Nat.le_of_ble_eq_true rfl, Nat.le_of_ble_eq_true rfl, Nat.le_of_ble_eq_true rfl⟩ dX10_tick_25 (fun v w2 hp => ?_)
          obtain ⟨rfl, gi2, hL2⟩ := hp
          rw [hM1] at hL2
          refine aw_iinc (lv' := [(2, _), (0, _), (1, _)]) X dX10_tick_28 rfl (iinc_1 _) (by decide) rfl ?_
          refine aw_goto (tgt := 16) X dX10_tick_31 rfl ?_
          refine aw_lv [0, 1, 2] rfl ?_
          exact ih (i + 1) _ _ gi2 _ (nI_1 i) hL2 rfl (by omega) (by omega)
    refine aw_lv [0, 1, 2] rfl ?_
    exact L (N + 1) 0 _ _ gi _ rfl (rl_0 hL) rfl (by omega) (by omega)
  · rw [bI_0] at c8
    refine aw_bipush X dX10_tick_11 cb_m3 ?_
    refine RTN (some (.int _)) _ _ _ _ _ dX10_tick_13 (⟨_, rfl⟩) (Nat.le_of_ble_eq_true rfl) (Nat.le_of_ble_eq_true rfl) ?_
    have hm : mo_tick M n = (-3, sI M 0 0) := by simp only [mo_tick, c8, if_true, if_false, not_true_eq_false, not_false_eq_true, and_self, true_and, and_true, false_and, and_false, or_true, true_or, or_false, false_or, reduceCtorEq, ne_eq, va_us, pk_us]
    rw [hm]
    exact ⟨rfl, ad, gi, rl_0 hL, rfl⟩
