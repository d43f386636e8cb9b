/-! timer, sound, exists -/
theorem rl_wL {G : GG} {M M' : MS} {ad : AD} {gi gi' : GI} {w w' : WM} (h : RLa G M ad gi w) (L : List (Nat × Nat)) (hL0 : ∀ q ∈ L, lvT M q.1 q.2 ∧ rdo q.1 = false) (hw : ∀ b, (∀ q ∈ L, b ≠ ad q.1 q.2) → w' b = w b) (hlv : ∀ t i, lvT M' t i → lvT M t i) (hc : ∀ t i, lvT M' t i → (t, i) ∉ L → cel G M' ad gi' t i = cel G M ad gi t i) (he : ∀ q ∈ L, lvT M' q.1 q.2 → w' (ad q.1 q.2) = some (cel G M' ad gi' q.1 q.2)) (hs : sdS M' gi') : RLa G M' ad gi' w' := by
  refine ⟨fun t i hl => ?_, fun t i t' i' h1 h2 h3 => h.2.1 t i t' i' (hlv t i h1) (hlv t' i' h2) h3, hs⟩
  by_cases hti : (t, i) ∈ L
  · exact he (t, i) hti hl
  · rw [hw _ (fun q hq => rl_ne h (hlv t i hl) (hL0 q hq).1 (Or.inr (hL0 q hq).2) (fun z => hti (by rw [z.1, z.2]; exact hq))), h.1 t i (hlv t i hl), hc t i hl hti]
theorem cF_is {M : MS} {ad : AD} {k : Nat} (h : isr M k) : cF M ad k = some (ad 17 k) := if_pos h
/-- the first reference of a file is its own first -/
def mi_ff (M : MS) : Prop := ∀ r, isr M r → isr M (M.2.2 34 r).toNatClampNeg ∧ M.2.2 34 (M.2.2 34 r).toNatClampNeg = nI (M.2.2 34 r).toNatClampNeg
theorem sdt_new {M : MS} {n : Int32} {gi : GI} (h : sd_t M gi) : sd_t (sI (sI (sI M 0 0) 40 n) 41 (M.1 39)) (gu gi 3 0 (fun _ => n)) := by
  refine ⟨Int.le_trans h.1 h.2.1, Int.le_refl _, fun _ => ?_⟩
  show n.toInt = n.toInt - ((M.1 39).toInt - (M.1 39).toInt) % n.toInt
  rw [Int.sub_self, Int.zero_emod, Int.sub_zero]
set_option maxRecDepth 100000 in
set_option maxHeartbeats 4000000 in
theorem kX10_timer (G : GG) (l : Launch) (M : MS) (ad : AD) (gi : GI) (w : WM) (hL : RLa G M ad gi w) (n : Int32) : MC G l yX10_timer cX10_timer 3 ((Option.some .int)) ({ frames := 1, cells := 0, slots := 0, locals := 22 } : Room) [.ref (ad 0 0), .int n] w (fun v w' => v = some (.int (mo_timer M n).1) ∧ ∃ ad' gi', RLa G (mo_timer M n).2 ad' gi' w' ∧ ad' 0 0 = ad 0 0) := by
  refine mc_int (by decide) (Nat.le_of_ble_eq_true rfl) rfl rfl ?_
  intro p e s m args below meth c A H0 Q X hnm RTN
  have X : Cx G p s m args meth c A H0 cX10_timer 3 RX10 := X
  have k0_ : w (ad 0 0) = some (.inr (11, [.ref (ad 1 0), .ref (ad 2 0), .ref (ad 3 0), .ref (ad 4 0), .ref (ad 5 0), .ref (ad 6 0), va_rf (sAd M ad (M.1 20)), .int (M.1 7), .int (M.1 29), .int (M.1 38), .int ((M.2.1 21).toInt32), .int ((M.2.1 22).toInt32), .int (M.1 5)])) := hL.1 0 0 (lvf 0 (by decide))
  have k6_ : w (ad 6 0) = some (.inr (2, [.int (M.1 39), .int (M.1 40), .int (gi 3 0 0), .ref (ad 7 0), .int (M.1 44), .int (M.1 45), .ref (ad 8 0)])) := hL.1 6 0 (lvf 6 (by decide))
  refine aw_iload_n X dX10_timer_0 rfl rfl ?_
  refine aw_iconst X dX10_timer_1 ci_0 ?_
  refine aw_sipush X dX10_timer_2 cs_1000 ?_
  refine aw_callS X (kX10_within _ _ _ _ _ _ 0 1000 rfl rfl) okm_X10_within ml_X10_50 st_X10_within rfl rfl (Nat.le_of_ble_eq_true rfl) ⟨Nat.le_of_ble_eq_true rfl, Nat.le_of_ble_eq_true rfl, Nat.le_of_ble_eq_true rfl, Nat.le_of_ble_eq_true rfl⟩ dX10_timer_5 (fun v w2 hp => ?_)
  obtain ⟨rfl, hw9⟩ := hp
  have hw9 := hw9.symm
  subst hw9
  refine aw_if_ne (tgt := 14) X dX10_timer_8 rfl (fun c8 => ?_) (fun c8 => ?_)
  · rw [bI_n0] at c8
    refine aw_aload_n X dX10_timer_14 rfl rfl ?_
    refine aw_get X okX10 (k := 5) k0_ (Nat.le_of_ble_eq_true rfl) fl_X10_42 (Or.inl rfl) rfl dX10_timer_15 ?_
    refine aw_get X okX0 (k := 1) k6_ (Nat.le_of_ble_eq_true rfl) fl_X10_341 (Or.inl rfl) rfl dX10_timer_18 ?_
    refine aw_istore_n (lv' := [(2, _), (0, _), (1, _)]) X dX10_timer_21 rfl (by decide) rfl ?_
    refine aw_aload_n X dX10_timer_22 rfl rfl ?_
    refine aw_get X okX10 (k := 5) k0_ (Nat.le_of_ble_eq_true rfl) fl_X10_42 (Or.inl rfl) rfl dX10_timer_23 ?_
    refine aw_iload_n X dX10_timer_26 rfl rfl ?_
    refine aw_put2 X okX0 (k := 1) (fs' := [.int (M.1 39), .int n, .int (gi 3 0 0), .ref (ad 7 0), .int (M.1 44), .int (M.1 45), .ref (ad 8 0)]) k6_ (Nat.le_of_ble_eq_true rfl) fl_X10_341 (Or.inl rfl) rfl (rfl ) ( rfl) (Nat.le_of_ble_eq_true rfl) rfl dX10_timer_27 (fun w1 hk2 hn3 he4 => ?_)
    have hk5 := (hn3 _ (rl_ne hL (t := 0) (i := 0) (t' := 6) (i' := 0) (lvf 0 (by decide)) (lvf 6 (by decide)) (Or.inl rfl) (fun z => absurd z.1 (by decide)))).trans k0_
    refine aw_aload_n X dX10_timer_30 rfl rfl ?_
    refine aw_get X okX10 (k := 5) hk5 (Nat.le_of_ble_eq_true rfl) fl_X10_42 (Or.inl rfl) rfl dX10_timer_31 ?_
    refine aw_iload_n X dX10_timer_34 rfl rfl ?_
    refine aw_put2 X okX0 (k := 2) (fs' := [.int (M.1 39), .int n, .int n, .ref (ad 7 0), .int (M.1 44), .int (M.1 45), .ref (ad 8 0)]) hk2 (Nat.le_of_ble_eq_true rfl) fl_X10_344 (Or.inl rfl) rfl (rfl ) ( rfl) (Nat.le_of_ble_eq_true rfl) rfl dX10_timer_35 (fun w6 hk7 hn8 he9 => ?_)
    have hk10 := (hn8 _ (rl_ne hL (t := 0) (i := 0) (t' := 6) (i' := 0) (lvf 0 (by decide)) (lvf 6 (by decide)) (Or.inl rfl) (fun z => absurd z.1 (by decide)))).trans hk5
    refine aw_iload_n X dX10_timer_38 rfl rfl ?_
    refine RTN (some (.int _)) _ _ _ _ _ dX10_timer_39 (⟨_, rfl⟩) (Nat.le_of_ble_eq_true rfl) (Nat.le_of_ble_eq_true rfl) ?_
    have hm : mo_timer M n = (M.1 40, sI (sI (sI M 0 0) 40 n) 41 (M.1 39)) := by simp only [mo_timer, c8, if_true, if_false, not_true_eq_false, not_false_eq_true, and_self, true_and, and_true, false_and, and_false, or_true, true_or, or_false, false_or, reduceCtorEq, ne_eq, va_us, pk_us]
    rw [hm]
    exact ⟨rfl, ad, gu gi 3 0 (fun _ => n), rl_w1 hL 6 0 (lvf 6 (by decide)) rfl (fun b hb => by rw [he9, wm_upn hb, he4, wm_upn hb]) (fun _ _ h => h) (fun t i hl hn0 => by
    match t, hl, hn0 with
    | 0, _, _ => exact rfl
    | 1, _, _ => exact rfl
    | 2, _, _ => exact rfl
    | 3, _, _ => exact rfl
    | 4, _, _ => exact rfl
    | 5, _, _ => exact rfl
    | 6, hl, hn0 => exact absurd ⟨rfl, (show _ ∧ i = 0 from hl).2⟩ hn0
    | 7, _, _ => exact rfl
    | 8, _, _ => exact rfl
    | 9, _, _ => exact rfl
    | 10, _, _ => exact rfl
    | 11, _, _ => exact rfl
    | 12, _, _ => exact rfl
    | 13, _, _ => exact rfl
    | 14, _, _ => exact rfl
    | 15, _, _ => exact rfl
    | 16, _, _ => exact rfl
    | 17, _, _ => exact rfl
    | 18, _, _ => exact rfl
    | 19, _, _ => exact rfl
    | 20, _, _ => exact rfl
    | 21, _, _ => exact rfl
    | 22, _, _ => exact rfl
    | 23, _, _ => exact rfl
    | n + 24, hl, hn0 => exact absurd (show n + 24 ≤ 10 ∧ i = 0 from hl).1 (by omega)) hk7 ⟨hL.2.2.1, hL.2.2.2.1, sdt_new hL.2.2.2.2.1, hL.2.2.2.2.2⟩, rfl⟩
  · rw [bI_0] at c8
    refine aw_bipush X dX10_timer_11 cb_m3 ?_
    refine RTN (some (.int _)) _ _ _ _ _ dX10_timer_13 (⟨_, rfl⟩) (Nat.le_of_ble_eq_true rfl) (Nat.le_of_ble_eq_true rfl) ?_
    have hm : mo_timer M n = (-3, sI M 0 0) := by simp only [mo_timer, c8, if_true, if_false, not_true_eq_false, not_false_eq_true, and_self, true_and, and_true, false_and, and_false, or_true, true_or, or_false, false_or, reduceCtorEq, ne_eq, va_us, pk_us]
    rw [hm]
    exact ⟨rfl, ad, gi, rl_0 hL, rfl⟩
set_option maxRecDepth 100000 in
set_option maxHeartbeats 4000000 in
theorem kX10_sound (G : GG) (l : Launch) (M : MS) (ad : AD) (gi : GI) (w : WM) (hL : RLa G M ad gi w) (ch t : Int32) : MC G l yX10_sound cX10_sound 4 ((Option.some .int)) ({ frames := 1, cells := 0, slots := 0, locals := 22 } : Room) [.ref (ad 0 0), .int ch, .int t] w (fun v w' => v = some (.int (mo_sound M ch t).1) ∧ ∃ ad' gi', RLa G (mo_sound M ch t).2 ad' gi' w' ∧ ad' 0 0 = ad 0 0) := by
  refine mc_int (by decide) (Nat.le_of_ble_eq_true rfl) rfl rfl ?_
  intro p e s m args below meth c A H0 Q X hnm RTN
  have X : Cx G p s m args meth c A H0 cX10_sound 4 RX10 := X
  have k0_ : w (ad 0 0) = some (.inr (11, [.ref (ad 1 0), .ref (ad 2 0), .ref (ad 3 0), .ref (ad 4 0), .ref (ad 5 0), .ref (ad 6 0), va_rf (sAd M ad (M.1 20)), .int (M.1 7), .int (M.1 29), .int (M.1 38), .int ((M.2.1 21).toInt32), .int ((M.2.1 22).toInt32), .int (M.1 5)])) := hL.1 0 0 (lvf 0 (by decide))
  have k6_ : w (ad 6 0) = some (.inr (2, [.int (M.1 39), .int (M.1 40), .int (gi 3 0 0), .ref (ad 7 0), .int (M.1 44), .int (M.1 45), .ref (ad 8 0)])) := hL.1 6 0 (lvf 6 (by decide))
  have k7_ : w (ad 7 0) = some (.inl (gA G 0, 2, .inl (M.2.2 42))) := hL.1 7 0 (lvf 7 (by decide))
  refine aw_iload_n X dX10_sound_0 rfl rfl ?_
  refine aw_iconst X dX10_sound_1 ci_0 ?_
  refine aw_iconst X dX10_sound_2 ci_1 ?_
  refine aw_callS X (kX10_within _ _ _ _ _ _ 0 1 rfl rfl) okm_X10_within ml_X10_50 st_X10_within rfl rfl (Nat.le_of_ble_eq_true rfl) ⟨Nat.le_of_ble_eq_true rfl, Nat.le_of_ble_eq_true rfl, Nat.le_of_ble_eq_true rfl, Nat.le_of_ble_eq_true rfl⟩ dX10_sound_3 (fun v w2 hp => ?_)
  obtain ⟨rfl, hw9⟩ := hp
  have hw9 := hw9.symm
  subst hw9
  refine aw_if_eq (tgt := 20) X dX10_sound_6 rfl (fun c6 => ?_) (fun c6 => ?_)
  · rw [bI_0] at c6
    refine aw_bipush X dX10_sound_20 cb_m3 ?_
    refine RTN (some (.int _)) _ _ _ _ _ dX10_sound_22 (⟨_, rfl⟩) (Nat.le_of_ble_eq_true rfl) (Nat.le_of_ble_eq_true rfl) ?_
    have hm : mo_sound M ch t = (-3, sI M 0 0) := by simp only [mo_sound, c6, if_true, if_false, not_true_eq_false, not_false_eq_true, and_self, true_and, and_true, false_and, and_false, or_true, true_or, or_false, false_or, reduceCtorEq, ne_eq, va_us, pk_us]
    rw [hm]
    exact ⟨rfl, ad, gi, rl_0 hL, rfl⟩
  · rw [bI_n0] at c6
    refine aw_iload_n X dX10_sound_9 rfl rfl ?_
    refine aw_iconst X dX10_sound_10 ci_0 ?_
    refine aw_sipush X dX10_sound_11 cs_1000 ?_
    refine aw_callS X (kX10_within _ _ _ _ _ _ 0 1000 rfl rfl) okm_X10_within ml_X10_50 st_X10_within rfl rfl (Nat.le_of_ble_eq_true rfl) ⟨Nat.le_of_ble_eq_true rfl, Nat.le_of_ble_eq_true rfl, Nat.le_of_ble_eq_true rfl, Nat.le_of_ble_eq_true rfl⟩ dX10_sound_14 (fun v w2 hp => ?_)
    obtain ⟨rfl, hw9⟩ := hp
    have hw9 := hw9.symm
    subst hw9
    refine aw_if_ne (tgt := 23) X dX10_sound_17 rfl (fun c17 => ?_) (fun c17 => ?_)
    · rw [bI_n0] at c17
      refine aw_aload_n X dX10_sound_23 rfl rfl ?_
      refine aw_get X okX10 (k := 5) k0_ (Nat.le_of_ble_eq_true rfl) fl_X10_42 (Or.inl rfl) rfl dX10_sound_24 ?_
      refine aw_get X okX0 (k := 3) k6_ (Nat.le_of_ble_eq_true rfl) fl_X10_347 (Or.inl rfl) rfl dX10_sound_27 ?_
      refine aw_iload_n X dX10_sound_30 rfl rfl ?_
      refine aw_iald X k7_ (bt_vp c6 (by decide) (by decide)) dX10_sound_31 ?_
      refine aw_istore_n (lv' := [(3, _), (0, _), (1, _), (2, _)]) X dX10_sound_32 rfl (by decide) rfl ?_
      refine aw_aload_n X dX10_sound_33 rfl rfl ?_
      refine aw_get X okX10 (k := 5) k0_ (Nat.le_of_ble_eq_true rfl) fl_X10_42 (Or.inl rfl) rfl dX10_sound_34 ?_
      refine aw_get X okX0 (k := 3) k6_ (Nat.le_of_ble_eq_true rfl) fl_X10_347 (Or.inl rfl) rfl dX10_sound_37 ?_
      refine aw_iload_n X dX10_sound_40 rfl rfl ?_
      refine aw_iload_n X dX10_sound_41 rfl rfl ?_
      refine aw_iast2 X k7_ (bt_vp c6 (by decide) (by decide)) dX10_sound_42 (fun w11 hk12 hn13 he14 => ?_)
      have hk15 := (hn13 _ (rl_ne hL (t := 0) (i := 0) (t' := 7) (i' := 0) (lvf 0 (by decide)) (lvf 7 (by decide)) (Or.inl rfl) (fun z => absurd z.1 (by decide)))).trans k0_
      have hk16 := (hn13 _ (rl_ne hL (t := 6) (i := 0) (t' := 7) (i' := 0) (lvf 6 (by decide)) (lvf 7 (by decide)) (Or.inl rfl) (fun z => absurd z.1 (by decide)))).trans k6_
      refine aw_iload_n X dX10_sound_43 rfl rfl ?_
      refine RTN (some (.int _)) _ _ _ _ _ dX10_sound_44 (⟨_, rfl⟩) (Nat.le_of_ble_eq_true rfl) (Nat.le_of_ble_eq_true rfl) ?_
      have hm : mo_sound M ch t = (M.2.2 42 ch.toNatClampNeg, sF (sI M 0 0) 42 ch.toNatClampNeg t) := by simp only [mo_sound, c6, c17, if_true, if_false, not_true_eq_false, not_false_eq_true, and_self, true_and, and_true, false_and, and_false, or_true, true_or, or_false, false_or, reduceCtorEq, ne_eq, va_us, pk_us]
      rw [hm]
      exact ⟨rfl, ad, gi, rl_up hL 7 0 (lvf 7 (by decide)) rfl he14 (fun _ _ h => h) (fun t i hl hn0 => by
    match t, hl, hn0 with
    | 0, _, _ => exact rfl
    | 1, _, _ => exact rfl
    | 2, _, _ => exact rfl
    | 3, _, _ => exact rfl
    | 4, _, _ => exact rfl
    | 5, _, _ => exact rfl
    | 6, _, _ => exact rfl
    | 7, hl, hn0 => exact absurd ⟨rfl, (show _ ∧ i = 0 from hl).2⟩ hn0
    | 8, _, _ => exact rfl
    | 9, _, _ => exact rfl
    | 10, _, _ => exact rfl
    | 11, _, _ => exact rfl
    | 12, _, _ => exact rfl
    | 13, _, _ => exact rfl
    | 14, _, _ => exact rfl
    | 15, _, _ => exact rfl
    | 16, _, _ => exact rfl
    | 17, _, _ => exact rfl
    | 18, _, _ => exact rfl
    | 19, _, _ => exact rfl
    | 20, _, _ => exact rfl
    | 21, _, _ => exact rfl
    | 22, _, _ => exact rfl
    | 23, _, _ => exact rfl
    | n + 24, hl, hn0 => exact absurd (show n + 24 ≤ 10 ∧ i = 0 from hl).1 (by omega)) rfl hL.2.2, rfl⟩
    · rw [bI_0] at c17
      refine aw_bipush X dX10_sound_20 cb_m3 ?_
      refine RTN (some (.int _)) _ _ _ _ _ dX10_sound_22 (⟨_, rfl⟩) (Nat.le_of_ble_eq_true rfl) (Nat.le_of_ble_eq_true rfl) ?_
      have hm : mo_sound M ch t = (-3, sI M 0 0) := by simp only [mo_sound, c6, c17, if_true, if_false, not_true_eq_false, not_false_eq_true, and_self, true_and, and_true, false_and, and_false, or_true, true_or, or_false, false_or, reduceCtorEq, ne_eq, va_us, pk_us]
      rw [hm]
      exact ⟨rfl, ad, gi, rl_0 hL, rfl⟩
set_option maxRecDepth 100000 in
set_option maxHeartbeats 4000000 in
theorem kX10_exists (G : GG) (l : Launch) (M : MS) (ad : AD) (gi : GI) (w : WM) (hL : RLa G M ad gi w) (hrc : mi_refs M) (hFF : mi_ff M) (r : Int32) : MC G l yX10_exists cX10_exists 3 ((Option.some .int)) ({ frames := 2, cells := 0, slots := 0, locals := 43 } : Room) [.ref (ad 0 0), .int r] w (fun v w' => v = some (.int (mo_exists M r).1) ∧ ∃ ad' gi', RLa G (mo_exists M r).2 ad' gi' w' ∧ ad' 0 0 = ad 0 0) := by
  refine mc_int (by decide) (Nat.le_of_ble_eq_true rfl) rfl rfl ?_
  intro p e s m args below meth c A H0 Q X hnm RTN
  have X : Cx G p s m args meth c A H0 cX10_exists 3 RX10 := X
  have k0_ : w (ad 0 0) = some (.inr (11, [.ref (ad 1 0), .ref (ad 2 0), .ref (ad 3 0), .ref (ad 4 0), .ref (ad 5 0), .ref (ad 6 0), va_rf (sAd M ad (M.1 20)), .int (M.1 7), .int (M.1 29), .int (M.1 38), .int ((M.2.1 21).toInt32), .int ((M.2.1 22).toInt32), .int (M.1 5)])) := hL.1 0 0 (lvf 0 (by decide))
  have k4_ : w (ad 4 0) = some (rA (gA G 6) 20 (cF M ad)) := hL.1 4 0 (lvf 4 (by decide))
  refine aw_aload_n X dX10_exists_0 rfl rfl ?_
  refine aw_iload_n X dX10_exists_1 rfl rfl ?_
  refine aw_callV X (kX10_isReference _ _ _ _ _ _ _ _ _ _ _ _ _ _ _ _ _ k0_ _) okm_X10_isReference okX10 k0_ ml_X10_71 im_X10_isReference se_X10_X10_isReference rfl rfl (Nat.le_of_ble_eq_true rfl) ⟨Nat.le_of_ble_eq_true rfl, Nat.le_of_ble_eq_true rfl, Nat.le_of_ble_eq_true rfl, Nat.le_of_ble_eq_true rfl⟩ dX10_exists_2 (fun v w2 hp => ?_)
  obtain ⟨rfl, hw9⟩ := hp
  have hw9 := hw9.symm
  subst hw9
  refine aw_if_ne (tgt := 11) X dX10_exists_5 rfl (fun c5 => ?_) (fun c5 => ?_)
  · rw [bI_n0] at c5
    refine aw_aload_n X dX10_exists_11 rfl rfl ?_
    refine aw_get X okX10 (k := 3) k0_ (Nat.le_of_ble_eq_true rfl) fl_X10_28 (Or.inl rfl) rfl dX10_exists_12 ?_
    refine aw_iload_n X dX10_exists_15 rfl rfl ?_
    refine aw_aald X 6 k4_ rfl (bt_vp (rc_bt hrc c5).1 (by decide) (by decide)) dX10_exists_16 ?_
    have hri : isr M r.toNatClampNeg := (rc_bt hrc c5).2
    rw [cF_is hri]
    refine aw_get X okX6 (k := 3) (hL.1 17 r.toNatClampNeg hri) (Nat.le_of_ble_eq_true rfl) fl_X10_129 (Or.inl rfl) rfl dX10_exists_17 ?_
    refine aw_astore_n (lv' := [(2, _), (0, _), (1, _)]) X dX10_exists_20 rfl (by decide) rfl ?_
    refine aw_aload_n X dX10_exists_21 rfl rfl ?_
    refine aw_get X okX8 (k := 2) (hL.1 15 (M.2.2 34 r.toNatClampNeg).toNatClampNeg (hFF _ hri)) (Nat.le_of_ble_eq_true rfl) fl_X10_133 (Or.inl rfl) rfl dX10_exists_22 ?_
    refine aw_if_eq (tgt := 35) X dX10_exists_25 rfl (fun c25 => ?_) (fun c25 => ?_)
    · refine aw_iconst X dX10_exists_35 ci_m1 ?_
      refine RTN (some (.int _)) _ _ _ _ _ dX10_exists_36 (⟨_, rfl⟩) (Nat.le_of_ble_eq_true rfl) (Nat.le_of_ble_eq_true rfl) ?_
      have hm : mo_exists M r = (-1, sI M 0 0) := by simp only [mo_exists, c5, (eq_true c25), if_true, if_false, not_true_eq_false, not_false_eq_true, and_self, true_and, and_true, false_and, and_false, or_true, true_or, or_false, false_or, reduceCtorEq, ne_eq, va_us, pk_us]
      rw [hm]
      exact ⟨rfl, ad, gi, rl_0 hL, rfl⟩
    · refine aw_aload_n X dX10_exists_28 rfl rfl ?_
      refine aw_get X okX8 (k := 1) (hL.1 15 (M.2.2 34 r.toNatClampNeg).toNatClampNeg (hFF _ hri)) (Nat.le_of_ble_eq_true rfl) fl_X10_303 (Or.inl rfl) rfl dX10_exists_29 ?_
      refine aw_goto (tgt := 36) X dX10_exists_32 rfl ?_
      refine RTN (some (.int _)) _ _ _ _ _ dX10_exists_36 (⟨_, rfl⟩) (Nat.le_of_ble_eq_true rfl) (Nat.le_of_ble_eq_true rfl) ?_
      have hm : mo_exists M r = (M.2.2 36 (M.2.2 34 r.toNatClampNeg).toNatClampNeg, sI M 0 0) := by simp only [mo_exists, c5, c25, if_true, if_false, not_true_eq_false, not_false_eq_true, and_self, true_and, and_true, false_and, and_false, or_true, true_or, or_false, false_or, reduceCtorEq, ne_eq, va_us, pk_us]
      rw [hm]
      exact ⟨rfl, ad, gi, rl_0 hL, rfl⟩
  · rw [bI_0] at c5
    refine aw_bipush X dX10_exists_8 cb_m2 ?_
    refine RTN (some (.int _)) _ _ _ _ _ dX10_exists_10 (⟨_, rfl⟩) (Nat.le_of_ble_eq_true rfl) (Nat.le_of_ble_eq_true rfl) ?_
    have hm : mo_exists M r = (-2, sI M 0 0) := by simp only [mo_exists, c5, if_true, if_false, not_true_eq_false, not_false_eq_true, and_self, true_and, and_true, false_and, and_false, or_true, true_or, or_false, false_or, reduceCtorEq, ne_eq, va_us, pk_us]
    rw [hm]
    exact ⟨rfl, ad, gi, rl_0 hL, rfl⟩
