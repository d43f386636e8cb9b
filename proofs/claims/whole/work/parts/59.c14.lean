/-! what is told -/
def gu (gi : GI) (t i : Nat) (f : Nat → Int32) : GI := fun t' i' => if t' = t ∧ i' = i then f else gi t' i'
theorem sAd_some {M : MS} {ad : AD} {t : Int32} {a : Nat} (h : sAd M ad t = some a) : ∃ k, a = ad 13 k ∧ mo_pl M t = some k := by
  unfold sAd at h
  cases hp : mo_pl M t with
  | none => rw [hp] at h; cases h
  | some k => rw [hp] at h; exact ⟨k, (Option.some.inj h).symm, rfl⟩
theorem sAd_none {M : MS} {ad : AD} {t : Int32} (h : sAd M ad t = none) : mo_pl M t = none := by
  unfold sAd at h
  cases hp : mo_pl M t with
  | none => rfl
  | some k => rw [hp] at h; cases h
theorem sAd_opn {M : MS} {ad : AD} {t : Int32} {k : Nat} (h : mo_pl M t = some k) : sAd M ad t = some (ad 13 k) := by unfold sAd; rw [h]; rfl
/-- the current stream is open, or there is none -/
def mi_now (M : MS) : Prop := M.1 20 = 0 ∨ ∃ k, mo_pl M (M.1 20) = some k
theorem now_0 {M : MS} (h : mi_now M) (h0 : mo_pl M (M.1 20) = none) : M.1 20 = 0 := by
  rcases h with h | ⟨k, h⟩
  · exact h
  · rw [h0] at h; cases h
set_option maxRecDepth 100000 in
set_option maxHeartbeats 4000000 in
theorem kX10_numberOf0 (G : GG) (l : Launch) (w : WM) : MC G l yX10_numberOf cX10_numberOf 1 ((Option.some .int)) ({ frames := 0, cells := 0, slots := 0, locals := 0 } : Room) [.null] w (fun v w' => v = some (.int 0) ∧ w' = w) := by
  refine mc_int (by decide) (Nat.le_of_ble_eq_true rfl) rfl rfl ?_
  intro p e s m args below meth c A H0 Q X hnm RTN
  have X : Cx G p s m args meth c A H0 cX10_numberOf 1 RX10 := X
  refine aw_aload_nN X dX10_numberOf_0 rfl rfl ?_
  refine aw_ifnonnullN X dX10_numberOf_1 ?_
  refine aw_iconst X dX10_numberOf_4 ci_0 ?_
  refine aw_goto (tgt := 12) X dX10_numberOf_5 rfl ?_
  refine RTN (some (.int _)) _ _ _ _ _ dX10_numberOf_12 (⟨_, rfl⟩) (Nat.le_of_ble_eq_true rfl) (Nat.le_of_ble_eq_true rfl) ?_
  exact ⟨rfl, rfl⟩
set_option maxRecDepth 100000 in
set_option maxHeartbeats 4000000 in
theorem kX10_numberOf (G : GG) (l : Launch) (M : MS) (ad : AD) (gi : GI) (w : WM) (hL : RLa G M ad gi w) (k : Nat) (ho : opn M k) : MC G l yX10_numberOf cX10_numberOf 1 ((Option.some .int)) ({ frames := 0, cells := 0, slots := 0, locals := 0 } : Room) [.ref (ad 13 k)] w (fun v w' => v = some (.int (M.2.2 6 k)) ∧ w' = w) := by
  refine mc_int (by decide) (Nat.le_of_ble_eq_true rfl) rfl rfl ?_
  intro p e s m args below meth c A H0 Q X hnm RTN
  have X : Cx G p s m args meth c A H0 cX10_numberOf 1 RX10 := X
  refine aw_aload_n X dX10_numberOf_0 rfl rfl ?_
  refine aw_ifnonnull (tgt := 8) X dX10_numberOf_1 rfl ?_
  refine aw_aload_n X dX10_numberOf_8 rfl rfl ?_
  refine aw_getS X (k := 3) (v := .int (M.2.2 6 k)) (rl_st hL ho) (by decide) fl_X10_240 rfl dX10_numberOf_9 ?_
  refine RTN (some (.int _)) _ _ _ _ _ dX10_numberOf_12 (⟨_, rfl⟩) (Nat.le_of_ble_eq_true rfl) (Nat.le_of_ble_eq_true rfl) ?_
  exact ⟨rfl, rfl⟩
set_option maxRecDepth 100000 in
set_option maxHeartbeats 4000000 in
theorem kX10_openStreams (G : GG) (l : Launch) (M : MS) (ad : AD) (gi : GI) (w : WM) (hL : RLa G M ad gi w) : MC G l yX10_openStreams cX10_openStreams 6 ((Option.some .int)) ({ frames := 0, cells := 0, slots := 0, locals := 0 } : Room) [.ref (ad 0 0)] w (fun v w' => v = some (.int (mo_on M 8)) ∧ w' = w) := by
  refine mc_int (by decide) (Nat.le_of_ble_eq_true rfl) rfl rfl ?_
  intro p e s m args below meth c A H0 Q X hnm RTN
  have X : Cx G p s m args meth c A H0 cX10_openStreams 6 RX10 := X
  have k0_ : w (ad 0 0) = some (.inr (11, [.ref (ad 1 0), .ref (ad 2 0), .ref (ad 3 0), .ref (ad 4 0), .ref (ad 5 0), .ref (ad 6 0), va_rf (sAd M ad (M.1 20)), .int (M.1 7), .int (M.1 29), .int (M.1 38), .int ((M.2.1 21).toInt32), .int ((M.2.1 22).toInt32), .int (M.1 5)])) := hL.1 0 0 (lvf 0 (by decide))
  have k3_ : w (ad 3 0) = some (rA (gA G 5) 8 (cS M ad)) := hL.1 3 0 (lvf 3 (by decide))
  have L : ∀ (nn : Nat) (i : Nat) (x : Int32), (x = nI i) → (i ≤ 8) → (9 ≤ i + nn) → AW G p l e ({ frames := 0, cells := 0, slots := 0, locals := 0 } : Room) s m args below meth c 6 A H0 Q w 0 0 13 [(4, .int x), (3, .int 8), (2, .ref (ad 3 0)), (1, .int (mo_on M i)), (0, .ref (ad 0 0))] [] := by
    intro nn
    induction nn with
    | zero => intro i x hx h1 h2; exact absurd h2 (by omega)
    | succ nn ih =>
      intro i x hx h1 h2
      subst hx
      refine aw_iload X dX10_openStreams_13 rfl ?_
      refine aw_iload_n X dX10_openStreams_15 rfl rfl ?_
      refine aw_icmp_ge (tgt := 39) X dX10_openStreams_16 rfl (fun c16 => ?_) (fun c16 => ?_)
      · have h9 : i = 8 := by have := ge_i (N := 8) rfl (by omega) (by decide) c16; omega
        subst h9
        refine aw_iload_n X dX10_openStreams_39 rfl rfl ?_
        refine RTN (some (.int _)) _ _ _ _ _ dX10_openStreams_40 (⟨_, rfl⟩) (Nat.le_of_ble_eq_true rfl) (Nat.le_of_ble_eq_true rfl) ?_
        exact ⟨rfl, rfl⟩
      · have h9 : i < 8 := lt_i (N := 8) rfl (by omega) (by decide) c16
        refine aw_aload_n X dX10_openStreams_19 rfl rfl ?_
        refine aw_iload X dX10_openStreams_20 rfl ?_
        refine aw_aaldn X 5 (j := i) k3_ rfl (h9) (by decide) dX10_openStreams_22 ?_
        rcases hr1 : (cS M ad) i with _ | a2
        · refine aw_astoreN (lv' := [(5, _), (4, _), (3, _), (2, _), (1, _), (0, _)]) X dX10_openStreams_23 (by decide) rfl ?_
          refine aw_aloadN X dX10_openStreams_25 rfl ?_
          refine aw_ifnullN (tgt := 33) X dX10_openStreams_27 rfl ?_
          refine aw_iinc (lv' := [(4, _), (5, _), (3, _), (2, _), (1, _), (0, _)]) X dX10_openStreams_33 rfl (iinc_1 _) (by decide) rfl ?_
          refine aw_goto (tgt := 13) X dX10_openStreams_36 rfl ?_
          refine aw_lv [0, 2, 3, 4, 5] rfl ?_
          have hc : (mo_on M i) = mo_on M (i + 1) := by show _ = mo_on M i + _; rw [if_pos (by have h := cS_none hr1 h9; rw [Int32.not_lt] at h; exact h), Int32.add_zero]
          rw [hc]
          exact ih (i + 1) _ (nI_1 i) (by omega) (by omega)
        · obtain ⟨he3, ho4⟩ := cS_some hr1
          subst he3
          refine aw_astore (lv' := [(5, _), (4, _), (3, _), (2, _), (1, _), (0, _)]) X dX10_openStreams_23 (by decide) rfl ?_
          refine aw_aload X dX10_openStreams_25 rfl ?_
          refine aw_ifnull X dX10_openStreams_27 ?_
          refine aw_iinc (lv' := [(1, _), (5, _), (4, _), (3, _), (2, _), (0, _)]) X dX10_openStreams_30 rfl (iinc_1 _) (by decide) rfl ?_
          refine aw_iinc (lv' := [(4, _), (1, _), (5, _), (3, _), (2, _), (0, _)]) X dX10_openStreams_33 rfl (iinc_1 _) (by decide) rfl ?_
          refine aw_goto (tgt := 13) X dX10_openStreams_36 rfl ?_
          refine aw_lv [0, 3, 4, 1, 5] rfl ?_
          have hc : (mo_on M i) + 1 = mo_on M (i + 1) := by show _ = mo_on M i + _; rw [if_neg (by rw [Int32.not_le]; exact ho4.2)]
          rw [hc]
          exact ih (i + 1) _ (nI_1 i) (by omega) (by omega)
  refine aw_iconst X dX10_openStreams_0 ci_0 ?_
  refine aw_istore_n (lv' := [(1, _), (0, _)]) X dX10_openStreams_1 rfl (by decide) rfl ?_
  refine aw_aload_n X dX10_openStreams_2 rfl rfl ?_
  refine aw_get X okX10 (k := 2) k0_ (Nat.le_of_ble_eq_true rfl) fl_X10_22 (Or.inl rfl) rfl dX10_openStreams_3 ?_
  refine aw_astore_n (lv' := [(2, _), (1, _), (0, _)]) X dX10_openStreams_6 rfl (by decide) rfl ?_
  refine aw_aload_n X dX10_openStreams_7 rfl rfl ?_
  refine aw_alen X 5 k3_ rfl (v := 8) rfl dX10_openStreams_8 ?_
  refine aw_istore_n (lv' := [(3, _), (2, _), (1, _), (0, _)]) X dX10_openStreams_9 rfl (by decide) rfl ?_
  refine aw_iconst X dX10_openStreams_10 ci_0 ?_
  refine aw_istore (lv' := [(4, _), (3, _), (2, _), (1, _), (0, _)]) X dX10_openStreams_11 (by decide) rfl ?_
  refine aw_lv [0, 1, 2, 3, 4] rfl ?_
  exact L 9 0 _ rfl (by omega) (by omega)
set_option maxRecDepth 100000 in
set_option maxHeartbeats 4000000 in
theorem kX10_told (G : GG) (l : Launch) (M : MS) (ad : AD) (gi : GI) (w : WM) (hL : RLa G M ad gi w) (hNow : mi_now M) (what : Int32) : MC G l yX10_told cX10_told 2 ((Option.some .int)) ({ frames := 1, cells := 0, slots := 0, locals := 25 } : Room) [.ref (ad 0 0), .int what] w (fun v w' => v = some (.int (mo_told M what).1) ∧ ∃ ad' gi', RLa G (mo_told M what).2 ad' gi' w' ∧ ad' 0 0 = ad 0 0) := by
  refine mc_int (by decide) (Nat.le_of_ble_eq_true rfl) rfl rfl ?_
  intro p e s m args below meth c A H0 Q X hnm RTN
  have X : Cx G p s m args meth c A H0 cX10_told 2 RX10 := X
  have k0_ : w (ad 0 0) = some (.inr (11, [.ref (ad 1 0), .ref (ad 2 0), .ref (ad 3 0), .ref (ad 4 0), .ref (ad 5 0), .ref (ad 6 0), va_rf (sAd M ad (M.1 20)), .int (M.1 7), .int (M.1 29), .int (M.1 38), .int ((M.2.1 21).toInt32), .int ((M.2.1 22).toInt32), .int (M.1 5)])) := hL.1 0 0 (lvf 0 (by decide))
  have k5_ : w (ad 5 0) = some (.inr (6, [.ref (ad 9 0), .int (M.1 27), .int (M.1 28)])) := hL.1 5 0 (lvf 5 (by decide))
  have k6_ : w (ad 6 0) = some (.inr (2, [.int (M.1 39), .int (M.1 40), .int (gi 3 0 0), .ref (ad 7 0), .int (M.1 44), .int (M.1 45), .ref (ad 8 0)])) := hL.1 6 0 (lvf 6 (by decide))
  refine aw_iload_n X dX10_told_0 rfl rfl ?_
  rcases sw_8 what with c1 | c1 | c1 | c1 | c1 | c1 | c1 | c1 | c1
  · refine aw_tableOut (tgt := 100) X dX10_told_1 c1 rfl ?_
    refine aw_bipush X dX10_told_100 cb_m3 ?_
    refine RTN (some (.int _)) _ _ _ _ _ dX10_told_102 (⟨_, rfl⟩) (Nat.le_of_ble_eq_true rfl) (Nat.le_of_ble_eq_true rfl) ?_
    refine ⟨?_, ad, gi, rl_0 hL, rfl⟩
    simp only [mo_told]
    rw [swi_out]
    exact c1
  · refine aw_tableIn (tgt := 48) (off := 47) X dX10_told_1 (by rw [c1]; decide) (by rw [c1]; decide) (by rw [c1]; rfl) rfl ?_
    refine aw_aload_n X dX10_told_48 rfl rfl ?_
    refine aw_callV X (kX10_openStreams _ _ _ _ _ _ hL) okm_X10_openStreams okX10 k0_ ml_X10_359 im_X10_openStreams se_X10_X10_openStreams rfl rfl (Nat.le_of_ble_eq_true rfl) ⟨Nat.le_of_ble_eq_true rfl, Nat.le_of_ble_eq_true rfl, Nat.le_of_ble_eq_true rfl, Nat.le_of_ble_eq_true rfl⟩ dX10_told_49 (fun v w2 hp => ?_)
    obtain ⟨rfl, hw9⟩ := hp
    have hw9 := hw9.symm
    subst hw9
    refine RTN (some (.int _)) _ _ _ _ _ dX10_told_52 (⟨_, rfl⟩) (Nat.le_of_ble_eq_true rfl) (Nat.le_of_ble_eq_true rfl) ?_
    subst c1
    exact ⟨rfl, ad, gi, rl_0 hL, rfl⟩
  · refine aw_tableIn (tgt := 53) (off := 52) X dX10_told_1 (by rw [c1]; decide) (by rw [c1]; decide) (by rw [c1]; rfl) rfl ?_
    refine aw_aload_n X dX10_told_53 rfl rfl ?_
    refine aw_get X okX10 (k := 6) k0_ (Nat.le_of_ble_eq_true rfl) fl_X10_211 (Or.inl rfl) rfl dX10_told_54 ?_
    rcases hr5 : (sAd M ad (M.1 20)) with _ | a6
    · refine aw_callS X (kX10_numberOf0 _ _ _) okm_X10_numberOf ml_X10_227 st_X10_numberOf rfl rfl (Nat.le_of_ble_eq_true rfl) ⟨Nat.le_of_ble_eq_true rfl, Nat.le_of_ble_eq_true rfl, Nat.le_of_ble_eq_true rfl, Nat.le_of_ble_eq_true rfl⟩ dX10_told_57 (fun v w2 hp => ?_)
      obtain ⟨rfl, hw9⟩ := hp
      have hw9 := hw9.symm
      subst hw9
      refine RTN (some (.int _)) _ _ _ _ _ dX10_told_60 (⟨_, rfl⟩) (Nat.le_of_ble_eq_true rfl) (Nat.le_of_ble_eq_true rfl) ?_
      subst c1
      refine ⟨?_, ad, gi, rl_0 hL, rfl⟩
      show _ = some (Value.int (M.1 20)); rw [now_0 hNow (sAd_none hr5)]
    · obtain ⟨k7, he8, hp9⟩ := sAd_some hr5
      subst he8
      have ho10 := (pl_opn hp9).1
      refine aw_callS X (kX10_numberOf _ _ _ _ _ _ hL _ ho10) okm_X10_numberOf ml_X10_227 st_X10_numberOf rfl rfl (Nat.le_of_ble_eq_true rfl) ⟨Nat.le_of_ble_eq_true rfl, Nat.le_of_ble_eq_true rfl, Nat.le_of_ble_eq_true rfl, Nat.le_of_ble_eq_true rfl⟩ dX10_told_57 (fun v w2 hp => ?_)
      obtain ⟨rfl, hw9⟩ := hp
      have hw9 := hw9.symm
      subst hw9
      refine RTN (some (.int _)) _ _ _ _ _ dX10_told_60 (⟨_, rfl⟩) (Nat.le_of_ble_eq_true rfl) (Nat.le_of_ble_eq_true rfl) ?_
      subst c1
      refine ⟨?_, ad, gi, rl_0 hL, rfl⟩
      show _ = some (Value.int (M.1 20)); rw [(pl_opn hp9).2]
  · refine aw_tableIn (tgt := 61) (off := 60) X dX10_told_1 (by rw [c1]; decide) (by rw [c1]; decide) (by rw [c1]; rfl) rfl ?_
    refine aw_aload_n X dX10_told_61 rfl rfl ?_
    refine aw_get X okX10 (k := 9) k0_ (Nat.le_of_ble_eq_true rfl) fl_X10_146 (Or.inl rfl) rfl dX10_told_62 ?_
    refine RTN (some (.int _)) _ _ _ _ _ dX10_told_65 (⟨_, rfl⟩) (Nat.le_of_ble_eq_true rfl) (Nat.le_of_ble_eq_true rfl) ?_
    subst c1
    exact ⟨rfl, ad, gi, rl_0 hL, rfl⟩
  · refine aw_tableIn (tgt := 66) (off := 65) X dX10_told_1 (by rw [c1]; decide) (by rw [c1]; decide) (by rw [c1]; rfl) rfl ?_
    refine aw_aload_n X dX10_told_66 rfl rfl ?_
    refine aw_get X okX10 (k := 8) k0_ (Nat.le_of_ble_eq_true rfl) fl_X10_282 (Or.inl rfl) rfl dX10_told_67 ?_
    refine RTN (some (.int _)) _ _ _ _ _ dX10_told_70 (⟨_, rfl⟩) (Nat.le_of_ble_eq_true rfl) (Nat.le_of_ble_eq_true rfl) ?_
    subst c1
    exact ⟨rfl, ad, gi, rl_0 hL, rfl⟩
  · refine aw_tableIn (tgt := 71) (off := 70) X dX10_told_1 (by rw [c1]; decide) (by rw [c1]; decide) (by rw [c1]; rfl) rfl ?_
    refine aw_aload_n X dX10_told_71 rfl rfl ?_
    refine aw_get X okX10 (k := 4) k0_ (Nat.le_of_ble_eq_true rfl) fl_X10_35 (Or.inl rfl) rfl dX10_told_72 ?_
    refine aw_get X okX4 (k := 2) k5_ (Nat.le_of_ble_eq_true rfl) fl_X10_362 (Or.inl rfl) rfl dX10_told_75 ?_
    refine RTN (some (.int _)) _ _ _ _ _ dX10_told_78 (⟨_, rfl⟩) (Nat.le_of_ble_eq_true rfl) (Nat.le_of_ble_eq_true rfl) ?_
    subst c1
    exact ⟨rfl, ad, gi, rl_0 hL, rfl⟩
  · refine aw_tableIn (tgt := 79) (off := 78) X dX10_told_1 (by rw [c1]; decide) (by rw [c1]; decide) (by rw [c1]; rfl) rfl ?_
    refine aw_aload_n X dX10_told_79 rfl rfl ?_
    refine aw_get X okX10 (k := 5) k0_ (Nat.le_of_ble_eq_true rfl) fl_X10_42 (Or.inl rfl) rfl dX10_told_80 ?_
    refine aw_get X okX0 (k := 0) k6_ (Nat.le_of_ble_eq_true rfl) fl_X10_365 (Or.inl rfl) rfl dX10_told_83 ?_
    refine RTN (some (.int _)) _ _ _ _ _ dX10_told_86 (⟨_, rfl⟩) (Nat.le_of_ble_eq_true rfl) (Nat.le_of_ble_eq_true rfl) ?_
    subst c1
    exact ⟨rfl, ad, gi, rl_0 hL, rfl⟩
  · refine aw_tableIn (tgt := 87) (off := 86) X dX10_told_1 (by rw [c1]; decide) (by rw [c1]; decide) (by rw [c1]; rfl) rfl ?_
    refine aw_aload_n X dX10_told_87 rfl rfl ?_
    refine aw_get X okX10 (k := 5) k0_ (Nat.le_of_ble_eq_true rfl) fl_X10_42 (Or.inl rfl) rfl dX10_told_88 ?_
    refine aw_get X okX0 (k := 5) k6_ (Nat.le_of_ble_eq_true rfl) fl_X10_368 (Or.inl rfl) rfl dX10_told_91 ?_
    refine RTN (some (.int _)) _ _ _ _ _ dX10_told_94 (⟨_, rfl⟩) (Nat.le_of_ble_eq_true rfl) (Nat.le_of_ble_eq_true rfl) ?_
    subst c1
    exact ⟨rfl, ad, gi, rl_0 hL, rfl⟩
  · refine aw_tableIn (tgt := 95) (off := 94) X dX10_told_1 (by rw [c1]; decide) (by rw [c1]; decide) (by rw [c1]; rfl) rfl ?_
    refine aw_aload_n X dX10_told_95 rfl rfl ?_
    refine aw_get X okX10 (k := 12) k0_ (Nat.le_of_ble_eq_true rfl) fl_X10_114 (Or.inl rfl) rfl dX10_told_96 ?_
    refine RTN (some (.int _)) _ _ _ _ _ dX10_told_99 (⟨_, rfl⟩) (Nat.le_of_ble_eq_true rfl) (Nat.le_of_ble_eq_true rfl) ?_
    subst c1
    exact ⟨rfl, ad, gi, rl_0 hL, rfl⟩
theorem rl_up {G : GG} {M M' : MS} {ad : AD} {gi gi' : GI} {w w' : WM} (h : RLa G M ad gi w) {e : va_E} (t0 : Nat) (i0 : Nat) (hl0 : lvT M t0 i0) (hr0 : rdo t0 = false) (hw : w' = wm_up w (ad t0 i0) e) (hlv : ∀ t i, lvT M' t i → lvT M t i) (hc : ∀ t i, lvT M' t i → ¬ (t = t0 ∧ i = i0) → cel G M' ad gi' t i = cel G M ad gi t i) (he : e = cel G M' ad gi' t0 i0) (hs : sdS M' gi') : RLa G M' ad gi' w' :=
  rl_w1 h t0 i0 hl0 hr0 (fun b hb => by rw [hw, wm_upn hb]) hlv hc (by rw [hw, wm_ups, he]) hs
theorem oI_ge {x : Option Nat} {k : Nat} (h : x = some k) (hk : k < 2 ^ 31) : 0 ≤ oI x := by
  rw [h, i32_le, show oI (some k) = nI k from rfl, nI_toInt hk]
  exact Int.natCast_nonneg k
theorem oI_ng {x : Option Nat} (h : x = none) : ¬ 0 ≤ oI x := by rw [h]; decide
theorem mopl_0 {M : MS} {x t : Int32} : mo_pl (sI M 0 x) t = mo_pl M t := rfl
theorem mo_pl0 {M : MS} : mo_pl M 0 = none := by
  unfold mo_pl
  exact fr_none (fun j hj => rfl)
set_option maxRecDepth 100000 in
set_option maxHeartbeats 4000000 in
theorem kX10_current (G : GG) (l : Launch) (M : MS) (ad : AD) (gi : GI) (w : WM) (hL : RLa G M ad gi w) (hNow : mi_now M) (t : Int32) : MC G l yX10_current cX10_current 4 ((Option.some .int)) ({ frames := 2, cells := 0, slots := 0, locals := 44 } : Room) [.ref (ad 0 0), .int t] w (fun v w' => v = some (.int (mo_current M t).1) ∧ ∃ ad' gi', RLa G (mo_current M t).2 ad' gi' w' ∧ ad' 0 0 = ad 0 0) := by
  refine mc_int (by decide) (Nat.le_of_ble_eq_true rfl) rfl rfl ?_
  intro p e s m args below meth c A H0 Q X hnm RTN
  have X : Cx G p s m args meth c A H0 cX10_current 4 RX10 := X
  have k0_ : w (ad 0 0) = some (.inr (11, [.ref (ad 1 0), .ref (ad 2 0), .ref (ad 3 0), .ref (ad 4 0), .ref (ad 5 0), .ref (ad 6 0), va_rf (sAd M ad (M.1 20)), .int (M.1 7), .int (M.1 29), .int (M.1 38), .int ((M.2.1 21).toInt32), .int ((M.2.1 22).toInt32), .int (M.1 5)])) := hL.1 0 0 (lvf 0 (by decide))
  refine aw_aload_n X dX10_current_0 rfl rfl ?_
  refine aw_iload_n X dX10_current_1 rfl rfl ?_
  refine aw_callV X (kX10_streamOf _ _ _ _ _ _ hL _) okm_X10_streamOf okX10 k0_ ml_X10_169 im_X10_streamOf se_X10_X10_streamOf rfl rfl (Nat.le_of_ble_eq_true rfl) ⟨Nat.le_of_ble_eq_true rfl, Nat.le_of_ble_eq_true rfl, Nat.le_of_ble_eq_true rfl, Nat.le_of_ble_eq_true rfl⟩ dX10_current_2 (fun v w2 hp => ?_)
  obtain ⟨rfl, hw9⟩ := hp
  have hw9 := hw9.symm
  subst hw9
  rcases hr11 : sAd M ad t with _ | a12
  · refine aw_astore_nN (lv' := [(2, _), (0, _), (1, _)]) X dX10_current_5 rfl (by decide) rfl ?_
    refine aw_aload_nN X dX10_current_6 rfl rfl ?_
    refine aw_ifnonnullN X dX10_current_7 ?_
    refine aw_iload_n X dX10_current_10 rfl rfl ?_
    refine aw_if_eq (tgt := 17) X dX10_current_11 rfl (fun c11 => ?_) (fun c11 => ?_)
    · refine aw_aload_n X dX10_current_17 rfl rfl ?_
      refine aw_get X okX10 (k := 6) k0_ (Nat.le_of_ble_eq_true rfl) fl_X10_211 (Or.inl rfl) rfl dX10_current_18 ?_
      rcases hr13 : (sAd M ad (M.1 20)) with _ | a14
      · refine aw_callS X (kX10_numberOf0 _ _ _) okm_X10_numberOf ml_X10_227 st_X10_numberOf rfl rfl (Nat.le_of_ble_eq_true rfl) ⟨Nat.le_of_ble_eq_true rfl, Nat.le_of_ble_eq_true rfl, Nat.le_of_ble_eq_true rfl, Nat.le_of_ble_eq_true rfl⟩ dX10_current_21 (fun v w2 hp => ?_)
        obtain ⟨rfl, hw9⟩ := hp
        have hw9 := hw9.symm
        subst hw9
        refine aw_istore_n (lv' := [(3, _), (2, _), (0, _), (1, _)]) X dX10_current_24 rfl (by decide) rfl ?_
        refine aw_aload_n X dX10_current_25 rfl rfl ?_
        refine aw_aload_nN X dX10_current_26 rfl rfl ?_
        refine aw_put2 X okX10 (k := 6) (fs' := [.ref (ad 1 0), .ref (ad 2 0), .ref (ad 3 0), .ref (ad 4 0), .ref (ad 5 0), .ref (ad 6 0), .null, .int (M.1 7), .int (M.1 29), .int (M.1 38), .int ((M.2.1 21).toInt32), .int ((M.2.1 22).toInt32), .int (M.1 5)]) k0_ (Nat.le_of_ble_eq_true rfl) fl_X10_211 (Or.inl rfl) rfl (rfl ) ( rfl) (Nat.le_of_ble_eq_true rfl) rfl dX10_current_27 (fun w15 hk16 hn17 he18 => ?_)
        refine aw_iload_n X dX10_current_30 rfl rfl ?_
        refine RTN (some (.int _)) _ _ _ _ _ dX10_current_31 (⟨_, rfl⟩) (Nat.le_of_ble_eq_true rfl) (Nat.le_of_ble_eq_true rfl) ?_
        subst c11
        have hok : (0 : Int32) = 0 ∨ 0 ≤ oI (mo_pl (sI M 0 0) 0) := Or.inl rfl
        have hv : (0 : Int32) = M.1 20 := (now_0 hNow (sAd_none hr13)).symm
        have hm : mo_current M 0 = (M.1 20, sI (sI M 0 0) 20 0) := by unfold mo_current; rw [if_pos hok]
        rw [hm]
        refine ⟨by rw [hv], ad, gi, ?_, rfl⟩
        exact rl_up hL 0 0 (lvf 0 (by decide)) rfl he18 (fun _ _ h => h) (fun t i hl hn0 => by
    match t, hl, hn0 with
    | 0, hl, hn0 => exact absurd ⟨rfl, (show _ ∧ i = 0 from hl).2⟩ hn0
    | 1, _, _ => exact rfl
    | 2, _, _ => exact rfl
    | 3, _, _ => exact rfl
    | 4, _, _ => exact rfl
    | 5, _, _ => exact rfl
    | 6, _, _ => exact rfl
    | 7, _, _ => exact rfl
    | 8, _, _ => exact rfl
    | 9, _, _ => exact rfl
    | 10, _, _ => exact rfl
    | 11, _, _ => exact rfl
    | 12, _, _ => exact rfl
    | 13, _, _ => exact rfl
    | 14, _, _ => exact rfl
    | 15, _, _ => exact rfl
    | 16, _, _ => exact rfl
    | 17, _, _ => exact rfl
    | 18, _, _ => exact rfl
    | 19, _, _ => exact rfl
    | 20, _, _ => exact rfl
    | 21, _, _ => exact rfl
    | 22, _, _ => exact rfl
    | 23, _, _ => exact rfl
    | n + 24, hl, hn0 => exact absurd (show n + 24 ≤ 10 ∧ i = 0 from hl).1 (by omega)) (by show _ = oC (ad 1 0) (ad 2 0) (ad 3 0) (ad 4 0) (ad 5 0) (ad 6 0) (sAd M ad 0) (M.1 7) (M.1 29) (M.1 38) (M.2.1 21).toInt32 (M.2.1 22).toInt32 (M.1 5); rw [show sAd M ad 0 = none by unfold sAd; rw [mo_pl0]; rfl]; rfl) hL.2.2
      · obtain ⟨k19, he20, hp21⟩ := sAd_some hr13
        subst he20
        have ho22 := (pl_opn hp21).1
        refine aw_callS X (kX10_numberOf _ _ _ _ _ _ hL _ ho22) okm_X10_numberOf ml_X10_227 st_X10_numberOf rfl rfl (Nat.le_of_ble_eq_true rfl) ⟨Nat.le_of_ble_eq_true rfl, Nat.le_of_ble_eq_true rfl, Nat.le_of_ble_eq_true rfl, Nat.le_of_ble_eq_true rfl⟩ dX10_current_21 (fun v w2 hp => ?_)
        obtain ⟨rfl, hw9⟩ := hp
        have hw9 := hw9.symm
        subst hw9
        refine aw_istore_n (lv' := [(3, _), (2, _), (0, _), (1, _)]) X dX10_current_24 rfl (by decide) rfl ?_
        refine aw_aload_n X dX10_current_25 rfl rfl ?_
        refine aw_aload_nN X dX10_current_26 rfl rfl ?_
        refine aw_put2 X okX10 (k := 6) (fs' := [.ref (ad 1 0), .ref (ad 2 0), .ref (ad 3 0), .ref (ad 4 0), .ref (ad 5 0), .ref (ad 6 0), .null, .int (M.1 7), .int (M.1 29), .int (M.1 38), .int ((M.2.1 21).toInt32), .int ((M.2.1 22).toInt32), .int (M.1 5)]) k0_ (Nat.le_of_ble_eq_true rfl) fl_X10_211 (Or.inl rfl) rfl (rfl ) ( rfl) (Nat.le_of_ble_eq_true rfl) rfl dX10_current_27 (fun w23 hk24 hn25 he26 => ?_)
        have hk27 := (hn25 _ (rl_ne hL (t := 13) (i := k19) (t' := 0) (i' := 0) (ho22) (lvf 0 (by decide)) (Or.inl rfl) (fun z => absurd z.1 (by decide)))).trans (rl_st hL ho22)
        refine aw_iload_n X dX10_current_30 rfl rfl ?_
        refine RTN (some (.int _)) _ _ _ _ _ dX10_current_31 (⟨_, rfl⟩) (Nat.le_of_ble_eq_true rfl) (Nat.le_of_ble_eq_true rfl) ?_
        subst c11
        have hok : (0 : Int32) = 0 ∨ 0 ≤ oI (mo_pl (sI M 0 0) 0) := Or.inl rfl
        have hv : M.2.2 6 k19 = M.1 20 := (pl_opn hp21).2
        have hm : mo_current M 0 = (M.1 20, sI (sI M 0 0) 20 0) := by unfold mo_current; rw [if_pos hok]
        rw [hm]
        refine ⟨by rw [hv], ad, gi, ?_, rfl⟩
        exact rl_up hL 0 0 (lvf 0 (by decide)) rfl he26 (fun _ _ h => h) (fun t i hl hn0 => by
    match t, hl, hn0 with
    | 0, hl, hn0 => exact absurd ⟨rfl, (show _ ∧ i = 0 from hl).2⟩ hn0
    | 1, _, _ => exact rfl
    | 2, _, _ => exact rfl
    | 3, _, _ => exact rfl
    | 4, _, _ => exact rfl
    | 5, _, _ => exact rfl
    | 6, _, _ => exact rfl
    | 7, _, _ => exact rfl
    | 8, _, _ => exact rfl
    | 9, _, _ => exact rfl
    | 10, _, _ => exact rfl
    | 11, _, _ => exact rfl
    | 12, _, _ => exact rfl
    | 13, _, _ => exact rfl
    | 14, _, _ => exact rfl
    | 15, _, _ => exact rfl
    | 16, _, _ => exact rfl
    | 17, _, _ => exact rfl
    | 18, _, _ => exact rfl
    | 19, _, _ => exact rfl
    | 20, _, _ => exact rfl
    | 21, _, _ => exact rfl
    | 22, _, _ => exact rfl
    | 23, _, _ => exact rfl
    | n + 24, hl, hn0 => exact absurd (show n + 24 ≤ 10 ∧ i = 0 from hl).1 (by omega)) (by show _ = oC (ad 1 0) (ad 2 0) (ad 3 0) (ad 4 0) (ad 5 0) (ad 6 0) (sAd M ad 0) (M.1 7) (M.1 29) (M.1 38) (M.2.1 21).toInt32 (M.2.1 22).toInt32 (M.1 5); rw [show sAd M ad 0 = none by unfold sAd; rw [mo_pl0]; rfl]; rfl) hL.2.2
    · refine aw_bipush X dX10_current_14 cb_m2 ?_
      refine RTN (some (.int _)) _ _ _ _ _ dX10_current_16 (⟨_, rfl⟩) (Nat.le_of_ble_eq_true rfl) (Nat.le_of_ble_eq_true rfl) ?_
      have hp5 := sAd_none hr11
      have hm : mo_current M t = (-2, sI M 0 0) := by simp only [mo_current, mopl_0, (eq_false (oI_ng hp5)), hr11, c11, if_true, if_false, not_true_eq_false, not_false_eq_true, and_self, true_and, and_true, false_and, and_false, or_true, true_or, or_false, false_or, reduceCtorEq, ne_eq, va_us, pk_us]
      rw [hm]
      exact ⟨rfl, ad, gi, rl_0 hL, rfl⟩
  · obtain ⟨k28, he29, hp30⟩ := sAd_some hr11
    subst he29
    have ho31 := (pl_opn hp30).1
    refine aw_astore_n (lv' := [(2, _), (0, _), (1, _)]) X dX10_current_5 rfl (by decide) rfl ?_
    refine aw_aload_n X dX10_current_6 rfl rfl ?_
    refine aw_ifnonnull (tgt := 17) X dX10_current_7 rfl ?_
    refine aw_aload_n X dX10_current_17 rfl rfl ?_
    refine aw_get X okX10 (k := 6) k0_ (Nat.le_of_ble_eq_true rfl) fl_X10_211 (Or.inl rfl) rfl dX10_current_18 ?_
    rcases hr32 : (sAd M ad (M.1 20)) with _ | a33
    · refine aw_callS X (kX10_numberOf0 _ _ _) okm_X10_numberOf ml_X10_227 st_X10_numberOf rfl rfl (Nat.le_of_ble_eq_true rfl) ⟨Nat.le_of_ble_eq_true rfl, Nat.le_of_ble_eq_true rfl, Nat.le_of_ble_eq_true rfl, Nat.le_of_ble_eq_true rfl⟩ dX10_current_21 (fun v w2 hp => ?_)
      obtain ⟨rfl, hw9⟩ := hp
      have hw9 := hw9.symm
      subst hw9
      refine aw_istore_n (lv' := [(3, _), (2, _), (0, _), (1, _)]) X dX10_current_24 rfl (by decide) rfl ?_
      refine aw_aload_n X dX10_current_25 rfl rfl ?_
      refine aw_aload_n X dX10_current_26 rfl rfl ?_
      refine aw_put2 X okX10 (k := 6) (fs' := [.ref (ad 1 0), .ref (ad 2 0), .ref (ad 3 0), .ref (ad 4 0), .ref (ad 5 0), .ref (ad 6 0), .ref (ad 13 k28), .int (M.1 7), .int (M.1 29), .int (M.1 38), .int ((M.2.1 21).toInt32), .int ((M.2.1 22).toInt32), .int (M.1 5)]) k0_ (Nat.le_of_ble_eq_true rfl) fl_X10_211 (Or.inl rfl) rfl (rfl ) ( rfl) (Nat.le_of_ble_eq_true rfl) rfl dX10_current_27 (fun w34 hk35 hn36 he37 => ?_)
      have hk38 := (hn36 _ (rl_ne hL (t := 13) (i := k28) (t' := 0) (i' := 0) (ho31) (lvf 0 (by decide)) (Or.inl rfl) (fun z => absurd z.1 (by decide)))).trans (rl_st hL ho31)
      refine aw_iload_n X dX10_current_30 rfl rfl ?_
      refine RTN (some (.int _)) _ _ _ _ _ dX10_current_31 (⟨_, rfl⟩) (Nat.le_of_ble_eq_true rfl) (Nat.le_of_ble_eq_true rfl) ?_
      have hok : t = 0 ∨ 0 ≤ oI (mo_pl (sI M 0 0) t) := Or.inr (oI_ge (x := mo_pl M t) hp30 (by have := pl_lt hp30; omega))
      have hv : (0 : Int32) = M.1 20 := (now_0 hNow (sAd_none hr32)).symm
      have hm : mo_current M t = (M.1 20, sI (sI M 0 0) 20 t) := by unfold mo_current; rw [if_pos hok]
      rw [hm]
      refine ⟨by rw [hv], ad, gi, ?_, rfl⟩
      exact rl_up hL 0 0 (lvf 0 (by decide)) rfl he37 (fun _ _ h => h) (fun t i hl hn0 => by
    match t, hl, hn0 with
    | 0, hl, hn0 => exact absurd ⟨rfl, (show _ ∧ i = 0 from hl).2⟩ hn0
    | 1, _, _ => exact rfl
    | 2, _, _ => exact rfl
    | 3, _, _ => exact rfl
    | 4, _, _ => exact rfl
    | 5, _, _ => exact rfl
    | 6, _, _ => exact rfl
    | 7, _, _ => exact rfl
    | 8, _, _ => exact rfl
    | 9, _, _ => exact rfl
    | 10, _, _ => exact rfl
    | 11, _, _ => exact rfl
    | 12, _, _ => exact rfl
    | 13, _, _ => exact rfl
    | 14, _, _ => exact rfl
    | 15, _, _ => exact rfl
    | 16, _, _ => exact rfl
    | 17, _, _ => exact rfl
    | 18, _, _ => exact rfl
    | 19, _, _ => exact rfl
    | 20, _, _ => exact rfl
    | 21, _, _ => exact rfl
    | 22, _, _ => exact rfl
    | 23, _, _ => exact rfl
    | n + 24, hl, hn0 => exact absurd (show n + 24 ≤ 10 ∧ i = 0 from hl).1 (by omega)) (by show _ = oC (ad 1 0) (ad 2 0) (ad 3 0) (ad 4 0) (ad 5 0) (ad 6 0) (sAd M ad t) (M.1 7) (M.1 29) (M.1 38) (M.2.1 21).toInt32 (M.2.1 22).toInt32 (M.1 5); rw [sAd_opn hp30]; rfl) hL.2.2
    · obtain ⟨k39, he40, hp41⟩ := sAd_some hr32
      subst he40
      have ho42 := (pl_opn hp41).1
      refine aw_callS X (kX10_numberOf _ _ _ _ _ _ hL _ ho42) okm_X10_numberOf ml_X10_227 st_X10_numberOf rfl rfl (Nat.le_of_ble_eq_true rfl) ⟨Nat.le_of_ble_eq_true rfl, Nat.le_of_ble_eq_true rfl, Nat.le_of_ble_eq_true rfl, Nat.le_of_ble_eq_true rfl⟩ dX10_current_21 (fun v w2 hp => ?_)
      obtain ⟨rfl, hw9⟩ := hp
      have hw9 := hw9.symm
      subst hw9
      refine aw_istore_n (lv' := [(3, _), (2, _), (0, _), (1, _)]) X dX10_current_24 rfl (by decide) rfl ?_
      refine aw_aload_n X dX10_current_25 rfl rfl ?_
      refine aw_aload_n X dX10_current_26 rfl rfl ?_
      refine aw_put2 X okX10 (k := 6) (fs' := [.ref (ad 1 0), .ref (ad 2 0), .ref (ad 3 0), .ref (ad 4 0), .ref (ad 5 0), .ref (ad 6 0), .ref (ad 13 k28), .int (M.1 7), .int (M.1 29), .int (M.1 38), .int ((M.2.1 21).toInt32), .int ((M.2.1 22).toInt32), .int (M.1 5)]) k0_ (Nat.le_of_ble_eq_true rfl) fl_X10_211 (Or.inl rfl) rfl (rfl ) ( rfl) (Nat.le_of_ble_eq_true rfl) rfl dX10_current_27 (fun w43 hk44 hn45 he46 => ?_)
      have hk47 := (hn45 _ (rl_ne hL (t := 13) (i := k28) (t' := 0) (i' := 0) (ho31) (lvf 0 (by decide)) (Or.inl rfl) (fun z => absurd z.1 (by decide)))).trans (rl_st hL ho31)
      have hk48 := (hn45 _ (rl_ne hL (t := 13) (i := k39) (t' := 0) (i' := 0) (ho42) (lvf 0 (by decide)) (Or.inl rfl) (fun z => absurd z.1 (by decide)))).trans (rl_st hL ho42)
      refine aw_iload_n X dX10_current_30 rfl rfl ?_
      refine RTN (some (.int _)) _ _ _ _ _ dX10_current_31 (⟨_, rfl⟩) (Nat.le_of_ble_eq_true rfl) (Nat.le_of_ble_eq_true rfl) ?_
      have hok : t = 0 ∨ 0 ≤ oI (mo_pl (sI M 0 0) t) := Or.inr (oI_ge (x := mo_pl M t) hp30 (by have := pl_lt hp30; omega))
      have hv : M.2.2 6 k39 = M.1 20 := (pl_opn hp41).2
      have hm : mo_current M t = (M.1 20, sI (sI M 0 0) 20 t) := by unfold mo_current; rw [if_pos hok]
      rw [hm]
      refine ⟨by rw [hv], ad, gi, ?_, rfl⟩
      exact rl_up hL 0 0 (lvf 0 (by decide)) rfl he46 (fun _ _ h => h) (fun t i hl hn0 => by
    match t, hl, hn0 with
    | 0, hl, hn0 => exact absurd ⟨rfl, (show _ ∧ i = 0 from hl).2⟩ hn0
    | 1, _, _ => exact rfl
    | 2, _, _ => exact rfl
    | 3, _, _ => exact rfl
    | 4, _, _ => exact rfl
    | 5, _, _ => exact rfl
    | 6, _, _ => exact rfl
    | 7, _, _ => exact rfl
    | 8, _, _ => exact rfl
    | 9, _, _ => exact rfl
    | 10, _, _ => exact rfl
    | 11, _, _ => exact rfl
    | 12, _, _ => exact rfl
    | 13, _, _ => exact rfl
    | 14, _, _ => exact rfl
    | 15, _, _ => exact rfl
    | 16, _, _ => exact rfl
    | 17, _, _ => exact rfl
    | 18, _, _ => exact rfl
    | 19, _, _ => exact rfl
    | 20, _, _ => exact rfl
    | 21, _, _ => exact rfl
    | 22, _, _ => exact rfl
    | 23, _, _ => exact rfl
    | n + 24, hl, hn0 => exact absurd (show n + 24 ≤ 10 ∧ i = 0 from hl).1 (by omega)) (by show _ = oC (ad 1 0) (ad 2 0) (ad 3 0) (ad 4 0) (ad 5 0) (ad 6 0) (sAd M ad t) (M.1 7) (M.1 29) (M.1 38) (M.2.1 21).toInt32 (M.2.1 22).toInt32 (M.1 5); rw [sAd_opn hp30]; rfl) hL.2.2
