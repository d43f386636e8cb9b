/-! open and drop -/
theorem fo_blk {M : MS} {f : Int32} : (List.range 8).any (fo M f) = (List.range 8).any (blk M f 1) := by
  have e : fo M f = blk M f 1 := by
    funext k
    unfold fo blk
    rw [show (!decide ((1 : Int32) = 2)) = true from rfl, Bool.true_or, Bool.and_true]
  rw [e]
theorem fr_eq {M : MS} {f mode : Int32} {u0 : Bool} : ∀ i, mo_fr M f mode u0 i = (u0 && !(List.range i).any (blk M f mode))
  | 0 => by show u0 = _; rw [show (List.range 0).any (blk M f mode) = false from rfl]; cases u0 <;> rfl
  | i + 1 => by
    show (if blk M f mode i then false else mo_fr M f mode u0 i) = _
    rw [fr_eq i, List.range_succ, List.any_append]
    cases h : blk M f mode i
    · rw [if_neg (by decide)]
      simp [h]
    · rw [if_pos rfl]
      simp [h]
theorem rl_drop {G : GG} {M : MS} {ad : AD} {gi : GI} {w w' : WM} {F : Nat} (hL : RLa G M ad gi w) (hF : lvT M 15 F) (h1 : w' (ad 15 F) = some (.inr (10, [.ref (ad 16 F), .int (M.2.2 36 F), .int 0]))) (h2 : w' (ad 0 0) = some (oC (ad 1 0) (ad 2 0) (ad 3 0) (ad 4 0) (ad 5 0) (ad 6 0) (sAd M ad (M.1 20)) (M.1 7) (M.1 29) (M.1 38 - 1) (M.2.1 21).toInt32 (M.2.1 22).toInt32 (M.1 5))) (h3 : ∀ b, b ≠ ad 15 F → b ≠ ad 0 0 → w' b = w b) : RLa G (sI (sF (sI M 0 0) 35 F 0) 38 (M.1 38 - 1)) ad gi w' := by
  refine rl_w2 hL 15 F 0 0 hF rfl (lvf 0 (by decide)) rfl h3 (fun _ _ h => h) (fun t i hl hn0 hn1 => by
    match t, hl, hn0, hn1 with
    | 0, hl, hn0, hn1 => exact absurd ⟨rfl, (show _ ∧ i = 0 from hl).2⟩ hn1
    | 1, _, _, _ => exact cc_1 rfl
    | 2, _, _, _ => exact cc_2 rfl
    | 3, _, _, _ => exact cc_3 rfl
    | 4, _, _, _ => exact cc_4 rfl
    | 5, _, _, _ => exact cc_5 rfl
    | 6, _, _, _ => exact cc_6 rfl
    | 7, _, _, _ => exact cc_7 rfl
    | 8, _, _, _ => exact cc_8 rfl
    | 9, _, _, _ => exact cc_9 rfl
    | 10, _, _, _ => exact cc_10 rfl
    | 11, _, _, _ => exact cc_11 rfl
    | 12, _, _, _ => exact cc_12 rfl
    | 13, _, _, _ => exact cc_13 rfl
    | 14, _, _, _ => exact cc_14 rfl
    | 15, hl, hn0, hn1 => (have hi : i ≠ F := fun z => hn0 ⟨rfl, z⟩; show (Sum.inr (10, [Value.ref (ad 16 i), Value.int (M.2.2 36 i), Value.int (upd (M.2.2 35) F 0 i)]) : va_E) = Sum.inr (10, [Value.ref (ad 16 i), Value.int (M.2.2 36 i), Value.int (M.2.2 35 i)]); rw [upd_n hi])
    | 16, _, _, _ => exact cc_16 rfl
    | 17, _, _, _ => exact cc_17 rfl
    | 18, _, _, _ => exact cc_18 rfl
    | 19, _, _, _ => exact cc_19 rfl
    | 20, _, _, _ => exact cc_20 rfl
    | 21, _, _, _ => exact cc_21 rfl
    | 22, _, _, _ => exact cc_22 rfl
    | 23, _, _, _ => exact cc_23 rfl
    | n + 24, hl, hn0, hn1 => exact absurd (show n + 24 ≤ 10 ∧ i = 0 from hl).1 (by omega)) ?_ h2 hL.2.2
  rw [h1]
  show some (Sum.inr (10, [Value.ref (ad 16 F), Value.int (M.2.2 36 F), Value.int 0])) = some (Sum.inr (10, [Value.ref (ad 16 F), Value.int (M.2.2 36 F), Value.int (upd (M.2.2 35) F 0 F)]))
  rw [upd_s]
theorem rl_make {G : GG} {M : MS} {ad : AD} {gi : GI} {w w' : WM} {F : Nat} (hL : RLa G M ad gi w) (hF : lvT M 15 F) (h1 : w' (ad 15 F) = some (.inr (10, [.ref (ad 16 F), .int 0, .int 1]))) (h2 : w' (ad 0 0) = some (oC (ad 1 0) (ad 2 0) (ad 3 0) (ad 4 0) (ad 5 0) (ad 6 0) (sAd M ad (M.1 20)) (M.1 7) (M.1 29) (M.1 38 + 1) (M.2.1 21).toInt32 (M.2.1 22).toInt32 (M.1 5))) (h3 : ∀ b, b ≠ ad 15 F → b ≠ ad 0 0 → w' b = w b) : RLa G (sF (sI (sF (sI M 0 0) 35 F 1) 38 (M.1 38 + 1)) 36 F 0) ad gi w' := by
  refine rl_w2 hL 15 F 0 0 hF rfl (lvf 0 (by decide)) rfl h3 (fun _ _ h => h) (fun t i hl hn0 hn1 => by
    match t, hl, hn0, hn1 with
    | 0, hl, hn0, hn1 => exact absurd ⟨rfl, (show _ ∧ i = 0 from hl).2⟩ hn1
    | 1, _, _, _ => exact cc_1 rfl
    | 2, _, _, _ => exact cc_2 rfl
    | 3, _, _, _ => exact cc_3 rfl
    | 4, _, _, _ => exact cc_4 rfl
    | 5, _, _, _ => exact cc_5 rfl
    | 6, _, _, _ => exact cc_6 rfl
    | 7, _, _, _ => exact cc_7 rfl
    | 8, _, _, _ => exact cc_8 rfl
    | 9, _, _, _ => exact cc_9 rfl
    | 10, _, _, _ => exact cc_10 rfl
    | 11, _, _, _ => exact cc_11 rfl
    | 12, _, _, _ => exact cc_12 rfl
    | 13, _, _, _ => exact cc_13 rfl
    | 14, _, _, _ => exact cc_14 rfl
    | 15, hl, hn0, hn1 => (have hi : i ≠ F := fun z => hn0 ⟨rfl, z⟩; show (Sum.inr (10, [Value.ref (ad 16 i), Value.int (upd (M.2.2 36) F 0 i), Value.int (upd (M.2.2 35) F 1 i)]) : va_E) = Sum.inr (10, [Value.ref (ad 16 i), Value.int (M.2.2 36 i), Value.int (M.2.2 35 i)]); rw [upd_n hi, upd_n hi])
    | 16, _, _, _ => exact cc_16 rfl
    | 17, _, _, _ => exact cc_17 rfl
    | 18, _, _, _ => exact cc_18 rfl
    | 19, _, _, _ => exact cc_19 rfl
    | 20, _, _, _ => exact cc_20 rfl
    | 21, _, _, _ => exact cc_21 rfl
    | 22, _, _, _ => exact cc_22 rfl
    | 23, _, _, _ => exact cc_23 rfl
    | n + 24, hl, hn0, hn1 => exact absurd (show n + 24 ≤ 10 ∧ i = 0 from hl).1 (by omega)) ?_ h2 hL.2.2
  rw [h1]
  show some (Sum.inr (10, [Value.ref (ad 16 F), Value.int 0, Value.int 1])) = some (Sum.inr (10, [Value.ref (ad 16 F), Value.int (upd (M.2.2 36) F 0 F), Value.int (upd (M.2.2 35) F 1 F)]))
  rw [upd_s, upd_s]
/-- what the opening leaves of the file's length -/
theorem o3_v {N : MS} {f mode wide : Int32} : (mo_o3 N f mode wide).2.2 36 f.toNatClampNeg = (if mode = 1 then 0 else N.2.2 36 f.toNatClampNeg) - (if mode = 5 ∧ ¬ wide = 0 then (if mode = 1 then 0 else N.2.2 36 f.toNatClampNeg) - (if mode = 1 then 0 else N.2.2 36 f.toNatClampNeg) / 4 * 4 else 0) := by
  have e1 : (mo_o1 N f mode).2.2 36 f.toNatClampNeg = if mode = 1 then 0 else N.2.2 36 f.toNatClampNeg := upd_s
  have e : (mo_o3 N f mode wide).2.2 36 f.toNatClampNeg = (mo_o1 N f mode).2.2 36 f.toNatClampNeg - (if mode = 5 ∧ ¬ wide = 0 then (mo_o1 N f mode).2.2 36 f.toNatClampNeg - (mo_o1 N f mode).2.2 36 f.toNatClampNeg / 4 * 4 else 0) := upd_s
  rw [e, e1]
theorem o3_len {N : MS} {f mode wide : Int32} : (mo_o3 N f mode wide).2.2 36 f.toNatClampNeg = fs_len mode wide (N.2.2 36 f.toNatClampNeg) := by
  rw [o3_v]
  generalize N.2.2 36 f.toNatClampNeg = ln
  unfold fs_len
  by_cases h1 : mode = 1
  · rw [if_pos h1, if_pos h1, if_neg (fun z => by rw [h1] at z; exact absurd z.1 (by decide))]
    rfl
  · rw [if_neg h1, if_neg h1]
    by_cases h5 : mode = 5
    · rw [if_pos h5]
      unfold wdt
      by_cases hw : wide = 0
      · rw [if_neg (fun z => z.2 hw), if_pos hw, Int32.sub_zero, Int32.div_one, Int32.mul_one]
      · rw [if_pos ⟨h5, hw⟩, if_neg hw]
        generalize ln / 4 * 4 = a
        rw [Int32.sub_eq_add_neg, Int32.neg_sub, Int32.add_comm, Int32.sub_add_cancel]
    · rw [if_neg h5, if_neg (fun z => h5 z.1), Int32.sub_zero]
theorem dv4 {x : Int32} (h : bt x 0 60) : x / 4 * 4 / 4 = x / 4 := by
  have a := bt_iff.mp h
  have e4 : (4 : Int32).toInt = 4 := rfl
  have d : (x / 4).toInt = x.toInt / 4 := by
    rw [Int32.toInt_div, e4, Int.tdiv_eq_ediv_of_nonneg a.1]
    exact Int.bmod_eq_of_le (by omega) (by omega)
  have m := ti_mul (b := 4) (y := 4) d rfl (by omega)
  have d2 : (x / 4 * 4 / 4).toInt = x.toInt / 4 * 4 / 4 := by
    rw [Int32.toInt_div, m, e4, Int.tdiv_eq_ediv_of_nonneg (by omega)]
    exact Int.bmod_eq_of_le (by omega) (by omega)
  rw [i32_eq, d2, d]
  omega
theorem o6_eq {N : MS} {f mode wide : Int32} {k : Nat} (hk : k < 8) (hb : bt (N.2.2 36 f.toNatClampNeg) 0 60) : mo_o6 N f mode wide (nI k) = BG (mo_o3 N f mode wide) k (N.2.2 18) 2 wide mode (fs_new mode wide (N.2.2 36 f.toNatClampNeg) 4) 0 0 f := by
  have ek : (nI k).toNatClampNeg = k := nI_clamp (by omega)
  have e5 : mo_o5 N f mode wide (nI k) = BG (mo_o3 N f mode wide) k (N.2.2 18) 2 wide mode 0 0 0 f := by
    unfold mo_o5
    rw [ek, bg_0, bg_16]
    rfl
  unfold mo_o6
  rw [e5, ek, bg_11]
  have ep : (if mode = 5 then mo_end (BG (mo_o3 N f mode wide) k (N.2.2 18) 2 wide mode 0 0 0 f) k else 0) = fs_new mode wide (N.2.2 36 f.toNatClampNeg) 4 := by
    show _ = if mode = 5 then N.2.2 36 f.toNatClampNeg / wdt wide else 0
    by_cases h5 : mode = 5
    · rw [if_pos h5, if_pos h5]
      unfold mo_end
      have a8 : (BG (mo_o3 N f mode wide) k (N.2.2 18) 2 wide mode 0 0 0 f).2.2 8 k = 2 := if_pos rfl
      have a16 : (BG (mo_o3 N f mode wide) k (N.2.2 18) 2 wide mode 0 0 0 f).2.2 16 k = f := if_pos rfl
      have a9 : (BG (mo_o3 N f mode wide) k (N.2.2 18) 2 wide mode 0 0 0 f).2.2 9 k = wide := if_pos rfl
      have a36 : (BG (mo_o3 N f mode wide) k (N.2.2 18) 2 wide mode 0 0 0 f).2.2 36 = (mo_o3 N f mode wide).2.2 36 := rfl
      rw [if_pos a8, a16, a9, a36, o3_len]
      unfold fs_len
      rw [if_neg (by rw [h5]; decide), if_pos h5]
      show _ / wdt wide = _
      by_cases hw : wide = 0
      · have e1 : wdt wide = 1 := if_pos hw
        rw [e1, Int32.div_one, Int32.mul_one, Int32.div_one]
      · have e1 : wdt wide = 4 := if_neg hw
        rw [e1]
        exact dv4 hb
    · rw [if_neg h5, if_neg h5]
  rw [ep]
theorem rl_o3 {G : GG} {N : MS} {ad : AD} {gi : GI} {w w' : WM} {f mode wide : Int32} (hL : RLa G N ad gi w) (hF : lvT N 15 f.toNatClampNeg) (h1 : w' (ad 15 f.toNatClampNeg) = some (.inr (10, [.ref (ad 16 f.toNatClampNeg), .int (fs_len mode wide (N.2.2 36 f.toNatClampNeg)), .int (N.2.2 35 f.toNatClampNeg)]))) (h3 : ∀ b, b ≠ ad 15 f.toNatClampNeg → w' b = w b) : RLa G (mo_o3 N f mode wide) ad gi w' := by
  refine rl_w1 hL 15 f.toNatClampNeg hF rfl h3 (fun _ _ h => h) (fun t i hl hn0 => by
    match t, hl, hn0 with
    | 0, _, _ => exact cc_0 rfl
    | 1, _, _ => exact cc_1 rfl
    | 2, _, _ => exact cc_2 rfl
    | 3, _, _ => exact cc_3 rfl
    | 4, _, _ => exact cc_4 rfl
    | 5, _, _ => exact cc_5 rfl
    | 6, _, _ => exact cc_6 rfl
    | 7, _, _ => exact cc_7 rfl
    | 8, _, _ => exact cc_8 rfl
    | 9, _, _ => exact cc_9 rfl
    | 10, _, _ => exact cc_10 rfl
    | 11, _, _ => exact cc_11 rfl
    | 12, _, _ => exact cc_12 rfl
    | 13, _, _ => exact cc_13 rfl
    | 14, _, _ => exact cc_14 rfl
    | 15, hl, hn0 => (have hi : i ≠ f.toNatClampNeg := fun z => hn0 ⟨rfl, z⟩; show (Sum.inr (10, [Value.ref (ad 16 i), Value.int (upd (upd (N.2.2 36) f.toNatClampNeg (if mode = 1 then 0 else N.2.2 36 f.toNatClampNeg)) f.toNatClampNeg ((mo_o1 N f mode).2.2 36 f.toNatClampNeg - (if mode = 5 ∧ ¬ wide = 0 then (mo_o1 N f mode).2.2 36 f.toNatClampNeg - (mo_o1 N f mode).2.2 36 f.toNatClampNeg / 4 * 4 else 0)) i), Value.int (N.2.2 35 i)]) : va_E) = Sum.inr (10, [Value.ref (ad 16 i), Value.int (N.2.2 36 i), Value.int (N.2.2 35 i)]); rw [upd_n hi, upd_n hi])
    | 16, _, _ => exact cc_16 rfl
    | 17, _, _ => exact cc_17 rfl
    | 18, _, _ => exact cc_18 rfl
    | 19, _, _ => exact cc_19 rfl
    | 20, _, _ => exact cc_20 rfl
    | 21, _, _ => exact cc_21 rfl
    | 22, _, _ => exact cc_22 rfl
    | 23, _, _ => exact cc_23 rfl
    | n + 24, hl, hn0 => exact absurd (show n + 24 ≤ 10 ∧ i = 0 from hl).1 (by omega)) ?_ hL.2.2
  rw [h1]
  show _ = some (Sum.inr (10, [Value.ref (ad 16 f.toNatClampNeg), Value.int ((mo_o3 N f mode wide).2.2 36 f.toNatClampNeg), Value.int (N.2.2 35 f.toNatClampNeg)]))
  rw [o3_len]
theorem fF {md wd ln x : Int32} {G0 : Nat → Int32} (h : ∀ j, G0 j = (match j with | 0 => 2 | 1 => md | 2 => wd | 3 => x | 4 => fs_new md wd ln 4 | 9 => wdt wd | _ => 0)) : upd (fs_new md wd ln) 3 x = G0 := by
  funext j
  rw [h j]
  match j with
  | 0 => rfl
  | 1 => rfl
  | 2 => rfl
  | 3 => rfl
  | 4 => rfl
  | 5 => rfl
  | 6 => rfl
  | 7 => rfl
  | 8 => rfl
  | 9 => rfl
  | j + 10 =>
    rw [upd_n (by omega)]
    show (if j + 10 = 0 then (2 : Int32) else if j + 10 = 1 then md else if j + 10 = 2 then wd else if j + 10 = 4 then (if md = 5 then ln / wdt wd else 0) else if j + 10 = 9 then wdt wd else 0) = 0
    rw [if_neg (by omega), if_neg (by omega), if_neg (by omega), if_neg (by omega), if_neg (by omega)]
set_option maxRecDepth 100000 in
set_option maxHeartbeats 4000000 in
theorem kX10_drop (G : GG) (l : Launch) (M : MS) (ad : AD) (gi : GI) (w : WM) (hL : RLa G M ad gi w) (hN : mi_nn M) (hrc : mi_refs M) (hFF : mi_ff M) (hsf : mi_sf M) (hft : bt (M.1 38) 0 6) (hby : mi_bytes M) (hfi : mi_first M) (rf : Int32) : MC G l yX10_drop cX10_drop 3 ((Option.some .int)) ({ frames := 2, cells := 0, slots := 0, locals := 43 } : Room) [.ref (ad 0 0), .int rf] w (fun v w' => v = some (.int (mo_drop M rf).1) ∧ ∃ ad' gi', RLa G (mo_drop M rf).2 ad' gi' w' ∧ ad' 0 0 = ad 0 0) := by
  refine mc_int (by decide) (Nat.le_of_ble_eq_true rfl) rfl rfl ?_
  intro p e s m args below meth c A H0 Q X hnm RTN
  have X : Cx G p s m args meth c A H0 cX10_drop 3 RX10 := X
  have k0_ : w (ad 0 0) = some (.inr (11, [.ref (ad 1 0), .ref (ad 2 0), .ref (ad 3 0), .ref (ad 4 0), .ref (ad 5 0), .ref (ad 6 0), va_rf (sAd M ad (M.1 20)), .int (M.1 7), .int (M.1 29), .int (M.1 38), .int ((M.2.1 21).toInt32), .int ((M.2.1 22).toInt32), .int (M.1 5)])) := hL.1 0 0 (lvf 0 (by decide))
  have k3_ : w (ad 3 0) = some (rA (gA G 5) 8 (cS M ad)) := hL.1 3 0 (lvf 3 (by decide))
  have k4_ : w (ad 4 0) = some (rA (gA G 6) 20 (cF M ad)) := hL.1 4 0 (lvf 4 (by decide))
  refine aw_aload_n X dX10_drop_0 rfl rfl ?_
  refine aw_iload_n X dX10_drop_1 rfl rfl ?_
  refine aw_callV X (kX10_isReference _ _ _ _ _ _ _ _ _ _ _ _ _ _ _ _ _ k0_ _) okm_X10_isReference okX10 k0_ ml_X10_71 im_X10_isReference se_X10_X10_isReference rfl rfl (Nat.le_of_ble_eq_true rfl) ⟨Nat.le_of_ble_eq_true rfl, Nat.le_of_ble_eq_true rfl, Nat.le_of_ble_eq_true rfl, Nat.le_of_ble_eq_true rfl⟩ dX10_drop_2 (fun v w2 hp => ?_)
  obtain ⟨rfl, hw9⟩ := hp
  have hw9 := hw9.symm
  subst hw9
  refine aw_if_ne (tgt := 11) X dX10_drop_5 rfl (fun c5 => ?_) (fun c5 => ?_)
  · rw [bI_n0] at c5
    refine aw_aload_n X dX10_drop_11 rfl rfl ?_
    refine aw_get X okX10 (k := 3) k0_ (Nat.le_of_ble_eq_true rfl) fl_X10_28 (Or.inl rfl) rfl dX10_drop_12 ?_
    refine aw_iload_n X dX10_drop_15 rfl rfl ?_
    refine aw_aald X 6 k4_ rfl (bt_vp (rc_bt hrc c5).1 (by decide) (by decide)) dX10_drop_16 ?_
    have hri : isr M rf.toNatClampNeg := (rc_bt hrc c5).2
    have hfl : lvT M 15 (M.2.2 34 rf.toNatClampNeg).toNatClampNeg := hFF _ hri
    rw [cF_is hri]
    refine aw_get X okX6 (k := 3) (hL.1 17 rf.toNatClampNeg hri) (Nat.le_of_ble_eq_true rfl) fl_X10_129 (Or.inl rfl) rfl dX10_drop_17 ?_
    refine aw_astore_n (lv' := [(2, _), (0, _), (1, _)]) X dX10_drop_20 rfl (by decide) rfl ?_
    refine aw_aload_n X dX10_drop_21 rfl rfl ?_
    refine aw_aload_n X dX10_drop_22 rfl rfl ?_
    refine aw_iconst X dX10_drop_23 ci_1 ?_
    refine aw_callV X (kX10_isInTheWay _ _ _ _ _ _ hL hsf hrc _ hfl _) okm_X10_isInTheWay okX10 k0_ ml_X10_138 im_X10_isInTheWay se_X10_X10_isInTheWay rfl rfl (Nat.le_of_ble_eq_true rfl) ⟨Nat.le_of_ble_eq_true rfl, Nat.le_of_ble_eq_true rfl, Nat.le_of_ble_eq_true rfl, Nat.le_of_ble_eq_true rfl⟩ dX10_drop_24 (fun v w2 hp => ?_)
    obtain ⟨rfl, hw9⟩ := hp
    have hw9 := hw9.symm
    subst hw9
    refine aw_if_eq (tgt := 33) X dX10_drop_27 rfl (fun c27 => ?_) (fun c27 => ?_)
    · rw [bI_0] at c27
      refine aw_aload_n X dX10_drop_33 rfl rfl ?_
      refine aw_get X okX8 (k := 2) (hL.1 15 (M.2.2 34 rf.toNatClampNeg).toNatClampNeg hfl) (Nat.le_of_ble_eq_true rfl) fl_X10_133 (Or.inl rfl) rfl dX10_drop_34 ?_
      refine aw_if_ne (tgt := 42) X dX10_drop_37 rfl (fun c37 => ?_) (fun c37 => ?_)
      · refine aw_aload_n X dX10_drop_42 rfl rfl ?_
        refine aw_iconst X dX10_drop_43 ci_0 ?_
        refine aw_put2 X okX8 (k := 2) (fs' := [.ref (ad 16 (M.2.2 34 rf.toNatClampNeg).toNatClampNeg), .int (M.2.2 36 (M.2.2 34 rf.toNatClampNeg).toNatClampNeg), .int 0]) (hL.1 15 (M.2.2 34 rf.toNatClampNeg).toNatClampNeg hfl) (Nat.le_of_ble_eq_true rfl) fl_X10_133 (Or.inl rfl) rfl (rfl ) ( rfl) (Nat.le_of_ble_eq_true rfl) rfl dX10_drop_44 (fun w101 hk102 hn103 he104 => ?_)
        have hk105 := (hn103 _ (rl_ne hL (t := 0) (i := 0) (t' := 15) (i' := (M.2.2 34 rf.toNatClampNeg).toNatClampNeg) (lvf 0 (by decide)) (hfl) (Or.inl rfl) (fun z => absurd z.1 (by decide)))).trans k0_
        have hk106 := (hn103 _ (rl_ne hL (t := 3) (i := 0) (t' := 15) (i' := (M.2.2 34 rf.toNatClampNeg).toNatClampNeg) (lvf 3 (by decide)) (hfl) (Or.inl rfl) (fun z => absurd z.1 (by decide)))).trans k3_
        have hk107 := (hn103 _ (rl_ne hL (t := 4) (i := 0) (t' := 15) (i' := (M.2.2 34 rf.toNatClampNeg).toNatClampNeg) (lvf 4 (by decide)) (hfl) (Or.inl rfl) (fun z => absurd z.1 (by decide)))).trans k4_
        have hk108 := (hn103 _ (rl_ne hL (t := 17) (i := rf.toNatClampNeg) (t' := 15) (i' := (M.2.2 34 rf.toNatClampNeg).toNatClampNeg) (hri) (hfl) (Or.inl rfl) (fun z => absurd z.1 (by decide)))).trans (hL.1 17 rf.toNatClampNeg hri)
        refine aw_aload_n X dX10_drop_47 rfl rfl ?_
        refine aw_dup X dX10_drop_48 rfl ?_
        refine aw_get X okX10 (k := 9) hk105 (Nat.le_of_ble_eq_true rfl) fl_X10_146 (Or.inl rfl) rfl dX10_drop_49 ?_
        refine aw_iconst X dX10_drop_52 ci_1 ?_
        refine aw_isub X dX10_drop_53 ?_
        refine aw_put2 X okX10 (k := 9) (fs' := [.ref (ad 1 0), .ref (ad 2 0), .ref (ad 3 0), .ref (ad 4 0), .ref (ad 5 0), .ref (ad 6 0), va_rf (sAd M ad (M.1 20)), .int (M.1 7), .int (M.1 29), .int ((M.1 38) - 1), .int ((M.2.1 21).toInt32), .int ((M.2.1 22).toInt32), .int (M.1 5)]) hk105 (Nat.le_of_ble_eq_true rfl) fl_X10_146 (Or.inl rfl) rfl (rfl ) ( rfl) (Nat.le_of_ble_eq_true rfl) rfl dX10_drop_54 (fun w109 hk110 hn111 he112 => ?_)
        have hk113 := (hn111 _ (rl_ne hL (t := 3) (i := 0) (t' := 0) (i' := 0) (lvf 3 (by decide)) (lvf 0 (by decide)) (Or.inl rfl) (fun z => absurd z.1 (by decide)))).trans hk106
        have hk114 := (hn111 _ (rl_ne hL (t := 4) (i := 0) (t' := 0) (i' := 0) (lvf 4 (by decide)) (lvf 0 (by decide)) (Or.inl rfl) (fun z => absurd z.1 (by decide)))).trans hk107
        have hk115 := (hn111 _ (rl_ne hL (t := 17) (i := rf.toNatClampNeg) (t' := 0) (i' := 0) (hri) (lvf 0 (by decide)) (Or.inl rfl) (fun z => absurd z.1 (by decide)))).trans hk108
        have hk116 := (hn111 _ (rl_ne hL (t := 15) (i := (M.2.2 34 rf.toNatClampNeg).toNatClampNeg) (t' := 0) (i' := 0) (hfl) (lvf 0 (by decide)) (Or.inl rfl) (fun z => absurd z.1 (by decide)))).trans hk102
        refine aw_iconst X dX10_drop_57 ci_1 ?_
        refine RTN (some (.int _)) _ _ _ _ _ dX10_drop_58 (⟨_, rfl⟩) (Nat.le_of_ble_eq_true rfl) (Nat.le_of_ble_eq_true rfl) ?_
        have enf : nI (M.2.2 34 rf.toNatClampNeg).toNatClampNeg = M.2.2 34 rf.toNatClampNeg := nI_cl (bt_iff.mp (hfi _ (by have := bt_iff.mp hrc; unfold isr at hri; omega))).1
        rw [enf, ← fo_blk] at c27
        have hm : mo_drop M rf = (1, sI (sF (sI M 0 0) 35 (M.2.2 34 rf.toNatClampNeg).toNatClampNeg 0) 38 (M.1 38 - 1)) := by unfold mo_drop; rw [if_pos c5, if_neg c27, if_neg c37]
        rw [hm]
        exact ⟨rfl, ad, gi, rl_drop hL hfl hk116 hk110 (fun b h1 h2 => by rw [he112, wm_upn h2, he104, wm_upn h1]), rfl⟩
      · refine aw_iconst X dX10_drop_40 ci_0 ?_
        refine RTN (some (.int _)) _ _ _ _ _ dX10_drop_41 (⟨_, rfl⟩) (Nat.le_of_ble_eq_true rfl) (Nat.le_of_ble_eq_true rfl) ?_
        have enf : nI (M.2.2 34 rf.toNatClampNeg).toNatClampNeg = M.2.2 34 rf.toNatClampNeg := nI_cl (bt_iff.mp (hfi _ (by have := bt_iff.mp hrc; unfold isr at hri; omega))).1
        rw [enf, ← fo_blk] at c27
        have hm : mo_drop M rf = (0, sI M 0 0) := by unfold mo_drop; rw [if_pos c5, if_neg c27, if_pos c37]
        rw [hm]
        exact ⟨rfl, ad, gi, rl_0 hL, rfl⟩
    · rw [bI_n0] at c27
      refine aw_bipush X dX10_drop_30 cb_m4 ?_
      refine RTN (some (.int _)) _ _ _ _ _ dX10_drop_32 (⟨_, rfl⟩) (Nat.le_of_ble_eq_true rfl) (Nat.le_of_ble_eq_true rfl) ?_
      have enf : nI (M.2.2 34 rf.toNatClampNeg).toNatClampNeg = M.2.2 34 rf.toNatClampNeg := nI_cl (bt_iff.mp (hfi _ (by have := bt_iff.mp hrc; unfold isr at hri; omega))).1
      rw [enf, ← fo_blk] at c27
      have hm : mo_drop M rf = (-4, sI M 0 0) := by unfold mo_drop; rw [if_pos c5, if_pos c27]
      rw [hm]
      exact ⟨rfl, ad, gi, rl_0 hL, rfl⟩
  · rw [bI_0] at c5
    refine aw_bipush X dX10_drop_8 cb_m2 ?_
    refine RTN (some (.int _)) _ _ _ _ _ dX10_drop_10 (⟨_, rfl⟩) (Nat.le_of_ble_eq_true rfl) (Nat.le_of_ble_eq_true rfl) ?_
    have hm : mo_drop M rf = (-2, sI M 0 0) := by simp only [mo_drop, c5, if_true, if_false, not_true_eq_false, not_false_eq_true, and_self, true_and, and_true, false_and, and_false, or_true, true_or, or_false, false_or, reduceCtorEq, ne_eq, va_us, pk_us]
    rw [hm]
    exact ⟨rfl, ad, gi, rl_0 hL, rfl⟩
theorem lv15_c {M N : MS} {i : Nat} (a : N.1 29 = M.1 29) (b : N.2.2 34 = M.2.2 34) (h : lvT M 15 i) : lvT N 15 i := by
  have h : isr M i ∧ M.2.2 34 i = nI i := h
  show isr N i ∧ N.2.2 34 i = nI i
  unfold isr at *
  rw [a, b]
  exact h
theorem num_c {M N : MS} (h6 : N.2.2 6 = M.2.2 6) (h17 : N.2.2 17 = M.2.2 17) (h7 : N.1 7 = M.1 7) (h20 : N.1 20 = M.1 20) (h : mi_num M) : mi_num N := by
  unfold mi_num at *
  rw [h6, h17, h7, h20]
  exact h
theorem sg_c {M N : MS} (h : N.2.2 19 = M.2.2 19) (h0 : mi_signs M) : mi_signs N := by
  unfold mi_signs at *
  rw [h]
  exact h0
theorem ls_c {M N : MS} (h : N.2.2 12 = M.2.2 12) (h0 : mi_last M) : mi_last N := by
  unfold mi_last at *
  rw [h]
  exact h0
theorem fp_c {M N : MS} (h : N.2.2 6 = M.2.2 6) : mo_fp N = mo_fp M := by
  unfold mo_fp
  rw [h]
theorem rl_o6 {G : GG} {N : MS} {ad : AD} {gi : GI} {w w' : WM} {f mode wide : Int32} {k q : Nat} {xo : Option Nat} {ln : Int32} (hln : N.2.2 36 f.toNatClampNeg = ln) (hL : RLa G (mo_o3 N f mode wide) ad gi w) (hk : mo_fp N = some k) (hb : bt (N.2.2 36 f.toNatClampNeg) 0 60) (hn : mi_num N) (hsg : mi_signs N) (hls : mi_last N) (hq : ∀ t i, lvT N t i → q ≠ ad t i) (hx : xo = some (ad 15 f.toNatClampNeg))
    (hB : w' q = some (sC (upd (fs_new mode wide ln) 3 ((mo_o3 N f mode wide).1 7 + 1)) none xo))
    (hO : w' (ad 0 0) = some (oC (ad 1 0) (ad 2 0) (ad 3 0) (ad 4 0) (ad 5 0) (ad 6 0) (sAd (mo_o3 N f mode wide) ad ((mo_o3 N f mode wide).1 20)) ((mo_o3 N f mode wide).1 7 + 1) ((mo_o3 N f mode wide).1 29) ((mo_o3 N f mode wide).1 38) ((mo_o3 N f mode wide).2.1 21).toInt32 ((mo_o3 N f mode wide).2.1 22).toInt32 ((mo_o3 N f mode wide).1 5)))
    (hT : w' (ad 3 0) = some (rA (gA G 5) 8 (va_up (cS (mo_o3 N f mode wide) ad) k (some q))))
    (hR : ∀ c, c ≠ ad 0 0 → c ≠ q → c ≠ ad 3 0 → w' c = w c) : ∃ ad' gi', RLa G (mo_o6 N f mode wide (nI k)) ad' gi' w' ∧ ad' 0 0 = ad 0 0 := by
  subst hln
  have hk2 := fp_some hk
  rw [o6_eq hk2.1 hb]
  have q2 : ∀ t i, lvT (mo_o3 N f mode wide) t i → q ≠ ad t i := fun t i h => hq t i h
  have g36 : (mo_o3 N f mode wide).2.2 18 = N.2.2 18 := rfl
  have n1 : mi_num (mo_o3 N f mode wide) := num_c rfl rfl rfl rfl hn
  have n2 : mi_signs (mo_o3 N f mode wide) := sg_c rfl hsg
  have n3 : mi_last (mo_o3 N f mode wide) := ls_c rfl hls
  have n4 : (mo_o3 N f mode wide).2.2 6 k = 0 := hk2.2
  rw [← g36]
  generalize mo_o3 N f mode wide = M2 at *
  refine ⟨_, _, rl_bg (b := q) (pa := 0) (it := 0) (iv := 0) (g6 := fun _ => 0) hL hk2.1 n4 n1 n2 n3 (fun x _ => rfl) q2 (fun z => absurd z (by decide)) (fun z => absurd z (by decide)) (fun z => absurd z (by decide)) hB ?_ ?_ hO hT (fun c h1 h2 h3 _ => hR c h1 h2 h3), ?_⟩
  · rw [bg_SI]
    refine fF (fun j => ?_)
    match j with
    | 0 => rfl
    | 1 => rfl
    | 2 => rfl
    | 3 => rfl
    | 4 => rfl
    | 5 => rfl
    | 6 => rfl
    | 7 => rfl
    | 8 => rfl
    | 9 => rfl
    | 10 => rfl
    | n + 11 => rfl
  · rw [bg_X, hx]
    rfl
  · exact congrFun bd_0 0
theorem rl_o2 {G : GG} {N : MS} {ad : AD} {gi : GI} {w w' : WM} {q : Nat} {f mode wide : Int32} (hL : RLa G N ad gi w) (hq : ∀ t i, lvT N t i → q ≠ ad t i) (hF : lvT N 15 f.toNatClampNeg) (h1 : w' (ad 15 f.toNatClampNeg) = some (.inr (10, [.ref (ad 16 f.toNatClampNeg), .int (fs_len mode wide (N.2.2 36 f.toNatClampNeg)), .int (N.2.2 35 f.toNatClampNeg)]))) (h3 : ∀ b, b ≠ q → b ≠ ad 15 f.toNatClampNeg → w' b = w b) : RLa G (mo_o3 N f mode wide) ad gi w' := by
  refine rl_o3 (w := fun c => if c = q then w' q else w c) ⟨fun t i hl => ?_, hL.2⟩ hF h1 (fun b hb => ?_)
  · show (if ad t i = q then w' q else w (ad t i)) = _
    rw [if_neg (Ne.symm (hq t i hl))]
    exact hL.1 t i hl
  · show w' b = if b = q then w' q else w b
    by_cases hz : b = q
    · rw [if_pos hz, hz]
    · rw [if_neg hz]
      exact h3 b hz hb
set_option maxRecDepth 100000 in
set_option maxHeartbeats 4000000 in
theorem kX10_open (G : GG) (l : Launch) (M : MS) (ad : AD) (gi : GI) (w : WM) (hL : RLa G M ad gi w) (hN : mi_nn M) (hrc : mi_refs M) (hFF : mi_ff M) (hsf : mi_sf M) (hft : bt (M.1 38) 0 6) (hby : mi_bytes M) (hfi : mi_first M) (hn : mi_num M) (hsg : mi_signs M) (hls : mi_last M) (rf mode wide : Int32) (hwd : wide = 0 ∨ wide = 1) : MC G l yX10_open cX10_open 5 ((Option.some .int)) ({ frames := 3, cells := 1, slots := 10, locals := 66 } : Room) [.ref (ad 0 0), .int rf, .int mode, .int wide] w (fun v w' => v = some (.int (mo_open M rf mode wide).1) ∧ ∃ ad' gi', RLa G (mo_open M rf mode wide).2 ad' gi' w' ∧ ad' 0 0 = ad 0 0) := by
  refine mc_int (by decide) (Nat.le_of_ble_eq_true rfl) rfl rfl ?_
  intro p e s m args below meth c A H0 Q X hnm RTN
  have X : Cx G p s m args meth c A H0 cX10_open 5 RX10 := X
  have k0_ : w (ad 0 0) = some (.inr (11, [.ref (ad 1 0), .ref (ad 2 0), .ref (ad 3 0), .ref (ad 4 0), .ref (ad 5 0), .ref (ad 6 0), va_rf (sAd M ad (M.1 20)), .int (M.1 7), .int (M.1 29), .int (M.1 38), .int ((M.2.1 21).toInt32), .int ((M.2.1 22).toInt32), .int (M.1 5)])) := hL.1 0 0 (lvf 0 (by decide))
  have k3_ : w (ad 3 0) = some (rA (gA G 5) 8 (cS M ad)) := hL.1 3 0 (lvf 3 (by decide))
  have k4_ : w (ad 4 0) = some (rA (gA G 6) 20 (cF M ad)) := hL.1 4 0 (lvf 4 (by decide))
  refine aw_aload_n X dX10_open_0 rfl rfl ?_
  refine aw_iload_n X dX10_open_1 rfl rfl ?_
  refine aw_callV X (kX10_isReference _ _ _ _ _ _ _ _ _ _ _ _ _ _ _ _ _ k0_ _) okm_X10_isReference okX10 k0_ ml_X10_71 im_X10_isReference se_X10_X10_isReference rfl rfl (Nat.le_of_ble_eq_true rfl) ⟨Nat.le_of_ble_eq_true rfl, Nat.le_of_ble_eq_true rfl, Nat.le_of_ble_eq_true rfl, Nat.le_of_ble_eq_true rfl⟩ dX10_open_2 (fun v w2 hp => ?_)
  obtain ⟨rfl, hw9⟩ := hp
  have hw9 := hw9.symm
  subst hw9
  refine aw_if_ne (tgt := 11) X dX10_open_5 rfl (fun c5 => ?_) (fun c5 => ?_)
  · rw [bI_n0] at c5
    refine aw_iload_n X dX10_open_11 rfl rfl ?_
    refine aw_iconst X dX10_open_12 ci_1 ?_
    refine aw_iconst X dX10_open_13 ci_3 ?_
    refine aw_callS X (kX10_within _ _ _ _ _ _ 1 3 rfl rfl) okm_X10_within ml_X10_50 st_X10_within rfl rfl (Nat.le_of_ble_eq_true rfl) ⟨Nat.le_of_ble_eq_true rfl, Nat.le_of_ble_eq_true rfl, Nat.le_of_ble_eq_true rfl, Nat.le_of_ble_eq_true rfl⟩ dX10_open_14 (fun v w2 hp => ?_)
    obtain ⟨rfl, hw9⟩ := hp
    have hw9 := hw9.symm
    subst hw9
    refine aw_if_ne (tgt := 28) X dX10_open_17 rfl (fun c17 => ?_) (fun c17 => ?_)
    · rw [bI_n0] at c17
      refine aw_aload_n X dX10_open_28 rfl rfl ?_
      refine aw_get X okX10 (k := 3) k0_ (Nat.le_of_ble_eq_true rfl) fl_X10_28 (Or.inl rfl) rfl dX10_open_29 ?_
      refine aw_iload_n X dX10_open_32 rfl rfl ?_
      refine aw_aald X 6 k4_ rfl (bt_vp (rc_bt hrc c5).1 (by decide) (by decide)) dX10_open_33 ?_
      have hri : isr M rf.toNatClampNeg := (rc_bt hrc c5).2
      have hfl : lvT M 15 (M.2.2 34 rf.toNatClampNeg).toNatClampNeg := hFF _ hri
      rw [cF_is hri]
      refine aw_get X okX6 (k := 3) (hL.1 17 rf.toNatClampNeg hri) (Nat.le_of_ble_eq_true rfl) fl_X10_129 (Or.inl rfl) rfl dX10_open_34 ?_
      refine aw_astore (lv' := [(4, _), (0, _), (1, _), (2, _), (3, _)]) X dX10_open_37 (by decide) rfl ?_
      refine aw_iload_n X dX10_open_39 rfl rfl ?_
      refine aw_iconst X dX10_open_40 ci_2 ?_
      refine aw_icmp_ne (tgt := 52) X dX10_open_41 rfl (fun c41 => ?_) (fun c41 => ?_)
      · refine aw_aload_n X dX10_open_52 rfl rfl ?_
        refine aw_aload X dX10_open_53 rfl ?_
        refine aw_iload_n X dX10_open_55 rfl rfl ?_
        refine aw_callV X (kX10_isInTheWay _ _ _ _ _ _ hL hsf hrc _ hfl _) okm_X10_isInTheWay okX10 k0_ ml_X10_138 im_X10_isInTheWay se_X10_X10_isInTheWay rfl rfl (Nat.le_of_ble_eq_true rfl) ⟨Nat.le_of_ble_eq_true rfl, Nat.le_of_ble_eq_true rfl, Nat.le_of_ble_eq_true rfl, Nat.le_of_ble_eq_true rfl⟩ dX10_open_56 (fun v w2 hp => ?_)
        obtain ⟨rfl, hw9⟩ := hp
        have hw9 := hw9.symm
        subst hw9
        refine aw_if_eq (tgt := 65) X dX10_open_59 rfl (fun c59 => ?_) (fun c59 => ?_)
        · rw [bI_0] at c59
          refine aw_aload_n X dX10_open_65 rfl rfl ?_
          refine aw_callV X (kX10_freeSlot _ _ _ _ _ _ hL hN) okm_X10_freeSlot okX10 k0_ ml_X10_142 im_X10_freeSlot se_X10_X10_freeSlot rfl rfl (Nat.le_of_ble_eq_true rfl) ⟨Nat.le_of_ble_eq_true rfl, Nat.le_of_ble_eq_true rfl, Nat.le_of_ble_eq_true rfl, Nat.le_of_ble_eq_true rfl⟩ dX10_open_66 (fun v w2 hp => ?_)
          obtain ⟨rfl, hw9⟩ := hp
          have hw9 := hw9.symm
          subst hw9
          rcases hp9 : mo_fp M with _ | k9
          · rw [show oI (none : Option Nat) = -1 from rfl]
            refine aw_iconst X dX10_open_69 ci_m1 ?_
            refine aw_icmp_eq (tgt := 90) X dX10_open_70 rfl (fun c70 => ?_) (fun c70 => ?_)
            · refine aw_bipush X dX10_open_90 cb_m5 ?_
              refine RTN (some (.int _)) _ _ _ _ _ dX10_open_92 (⟨_, rfl⟩) (Nat.le_of_ble_eq_true rfl) (Nat.le_of_ble_eq_true rfl) ?_
              have enf : nI (M.2.2 34 rf.toNatClampNeg).toNatClampNeg = M.2.2 34 rf.toNatClampNeg := nI_cl (bt_iff.mp (hfi _ (by have := bt_iff.mp hrc; unfold isr at hri; omega))).1
              have hfree : mo_free M rf mode = (((!decide (mode = 2)) || !decide (M.2.2 35 (M.2.2 34 rf.toNatClampNeg).toNatClampNeg = 0)) && !(List.range 8).any (blk M (M.2.2 34 rf.toNatClampNeg) mode)) := fr_eq 8
              rw [enf] at c59
              have hyes : mo_free M rf mode = true := by rw [hfree, Bool.eq_false_iff.mpr c59]; rw [decide_eq_false c41]; rfl
              have hm : mo_open M rf mode wide = (-5, sI M 0 0) := by unfold mo_open; rw [if_pos c5, if_pos (Or.inl c17), if_pos hyes, if_pos (by rw [show mo_fp (sI M 0 0) = none from hp9]; decide)]
              rw [hm]
              exact ⟨rfl, ad, gi, rl_0 hL, rfl⟩
            · exact absurd c70 (by decide)
          · rw [show oI (some k9) = nI k9 from rfl]
            have ho9 := (fp_some hp9).1
            refine aw_iconst X dX10_open_69 ci_m1 ?_
            refine aw_icmp_eq (tgt := 90) X dX10_open_70 rfl (fun c70 => ?_) (fun c70 => ?_)
            · exact absurd c70 (oI_n1 (x := some k9) rfl (by omega))
            · refine aw_aload X dX10_open_73 rfl ?_
              refine aw_get X okX8 (k := 2) (hL.1 15 (M.2.2 34 rf.toNatClampNeg).toNatClampNeg hfl) (Nat.le_of_ble_eq_true rfl) fl_X10_133 (Or.inl rfl) rfl dX10_open_75 ?_
              refine aw_if_ne (tgt := 93) X dX10_open_78 rfl (fun c78 => ?_) (fun c78 => ?_)
              · refine aw_aload X dX10_open_93 rfl ?_
                refine aw_get X okX8 (k := 2) (hL.1 15 (M.2.2 34 rf.toNatClampNeg).toNatClampNeg hfl) (Nat.le_of_ble_eq_true rfl) fl_X10_133 (Or.inl rfl) rfl dX10_open_95 ?_
                refine aw_if_ne (tgt := 116) X dX10_open_98 rfl (fun c98 => ?_) (fun c98 => ?_)
                · refine aw_aload_n X dX10_open_116 rfl rfl ?_
                  refine aw_new2 X okX1 cl_X10_152 is_X1 in_X1 rfl (Nat.le_of_ble_eq_true rfl) (Nat.le_of_ble_eq_true rfl) dX10_open_117 (fun q117 w118 hf119 hk120 hn121 he122 => ?_)
                  have hk123 := (hn121 _ (ne_fr k0_ hf119)).trans k0_
                  have hk124 := (hn121 _ (ne_fr k3_ hf119)).trans k3_
                  have hk125 := (hn121 _ (ne_fr k4_ hf119)).trans k4_
                  have hk126 := (hn121 _ (ne_fr (hL.1 17 rf.toNatClampNeg hri) hf119)).trans (hL.1 17 rf.toNatClampNeg hri)
                  have hk127 := (hn121 _ (ne_fr (hL.1 15 (M.2.2 34 rf.toNatClampNeg).toNatClampNeg hfl) hf119)).trans (hL.1 15 (M.2.2 34 rf.toNatClampNeg).toNatClampNeg hfl)
                  refine aw_dup X dX10_open_120 rfl ?_
                  refine aw_aload X dX10_open_121 rfl ?_
                  refine aw_iload_n X dX10_open_123 rfl rfl ?_
                  refine aw_iload_n X dX10_open_124 rfl rfl ?_
                  refine aw_callI X (kX1_init _ _ _ q117 _ _ _ hwd hk120 _ _ _ hk127) okm_X1_init rfl ml_X10_154 im_X1_init rfl rfl (Nat.le_of_ble_eq_true rfl) ⟨Nat.le_of_ble_eq_true rfl, Nat.le_of_ble_eq_true rfl, Nat.le_of_ble_eq_true rfl, Nat.le_of_ble_eq_true rfl⟩ dX10_open_125 (fun v w2 hp => ?_)
                  obtain ⟨rfl, hk128, hk129, hb130⟩ := hp
                  have hk131 := (hb130 (ad 0 0) (ne_ci hk123 hk120 (by decide)) (rl_ne hL (t := 0) (i := 0) (t' := 15) (i' := (M.2.2 34 rf.toNatClampNeg).toNatClampNeg) (lvf 0 (by decide)) (hfl) (Or.inl rfl) (fun z => absurd z.1 (by decide)))).trans hk123
                  have hk132 := (hb130 (ad 3 0) (Ne.symm (ne_oa hk120 hk124)) (rl_ne hL (t := 3) (i := 0) (t' := 15) (i' := (M.2.2 34 rf.toNatClampNeg).toNatClampNeg) (lvf 3 (by decide)) (hfl) (Or.inl rfl) (fun z => absurd z.1 (by decide)))).trans hk124
                  have hk133 := (hb130 (ad 4 0) (Ne.symm (ne_oa hk120 hk125)) (rl_ne hL (t := 4) (i := 0) (t' := 15) (i' := (M.2.2 34 rf.toNatClampNeg).toNatClampNeg) (lvf 4 (by decide)) (hfl) (Or.inl rfl) (fun z => absurd z.1 (by decide)))).trans hk125
                  have hk134 := (hb130 (ad 17 rf.toNatClampNeg) (ne_ci hk126 hk120 (by decide)) (rl_ne hL (t := 17) (i := rf.toNatClampNeg) (t' := 15) (i' := (M.2.2 34 rf.toNatClampNeg).toNatClampNeg) (hri) (hfl) (Or.inl rfl) (fun z => absurd z.1 (by decide)))).trans hk126
                  have hL1 : RLa G (sI M 0 0) ad gi w118 := rl_ext (rl_0 hL) (fun c hc => by rw [he122, wm_upn (fun z => hc (by rw [z]; exact hf119))])
                  have hqa : ∀ t i, lvT (sI M 0 0) t i → q117 ≠ ad t i := fr_ad (rl_0 hL) hf119
                  have hlen : bt ((sI M 0 0).2.2 36 (M.2.2 34 rf.toNatClampNeg).toNatClampNeg) 0 60 = true := hby _ (by have h1 : isr M (M.2.2 34 rf.toNatClampNeg).toNatClampNeg := hfl.1; have h2 := bt_iff.mp hrc; unfold isr at h1; omega)
                  have hfw : w2 (ad 15 (M.2.2 34 rf.toNatClampNeg).toNatClampNeg) = some (.inr (10, [.ref (ad 16 (M.2.2 34 rf.toNatClampNeg).toNatClampNeg), .int (fs_len mode wide ((sI M 0 0).2.2 36 (M.2.2 34 rf.toNatClampNeg).toNatClampNeg)), .int ((sI M 0 0).2.2 35 (M.2.2 34 rf.toNatClampNeg).toNatClampNeg)])) := hk129
                  have hL2 := rl_o2 (mode := mode) (wide := wide) hL1 hqa (lv15_c (M := M) rfl rfl hfl) hfw (fun b h1 h2 => hb130 b h1 h2)
                  refine aw_callV X (kX10_admit _ _ _ _ _ _ hL2 hN _ _ _ _ hk128) okm_X10_admit okX10 hk131 ml_X10_120 im_X10_admit se_X10_X10_admit rfl rfl (Nat.le_of_ble_eq_true rfl) ⟨Nat.le_of_ble_eq_true rfl, Nat.le_of_ble_eq_true rfl, Nat.le_of_ble_eq_true rfl, Nat.le_of_ble_eq_true rfl⟩ dX10_open_128 (fun v w2 hp => ?_)
                  obtain ⟨rfl, hA9⟩ := hp
                  refine RTN (some (.int _)) _ _ _ _ _ dX10_open_131 (⟨_, rfl⟩) (Nat.le_of_ble_eq_true rfl) (Nat.le_of_ble_eq_true rfl) ?_
                  have enf : nI (M.2.2 34 rf.toNatClampNeg).toNatClampNeg = M.2.2 34 rf.toNatClampNeg := nI_cl (bt_iff.mp (hfi _ (by have := bt_iff.mp hrc; unfold isr at hri; omega))).1
                  have hfree : mo_free M rf mode = (((!decide (mode = 2)) || !decide (M.2.2 35 (M.2.2 34 rf.toNatClampNeg).toNatClampNeg = 0)) && !(List.range 8).any (blk M (M.2.2 34 rf.toNatClampNeg) mode)) := fr_eq 8
                  rw [enf] at c59
                  have hyes : mo_free M rf mode = true := by rw [hfree, Bool.eq_false_iff.mpr c59]; rw [decide_eq_false c41]; rfl
                  have hm : mo_open M rf mode wide = (M.1 7 + 1, mo_o6 (sI M 0 0) (M.2.2 34 rf.toNatClampNeg) mode wide (nI k9)) := by unfold mo_open; rw [if_pos c5, if_pos (Or.inl c17), if_pos hyes, if_neg (by rw [fp_oI hp9, i32_lt, nI_toInt (by omega)]; have e0 : (0 : Int32).toInt = 0 := rfl; omega), if_neg c98, fp_oI hp9]
                  rw [hm]
                  have hfpN : mo_fp (sI M 0 0) = mo_fp M := fp_c rfl
                  have hfpN2 : mo_fp (mo_o3 (sI M 0 0) (M.2.2 34 rf.toNatClampNeg) mode wide) = mo_fp (sI M 0 0) := fp_c rfl
                  rcases hA9 with ⟨hf9, hw9⟩ | ⟨k, hf9, hO9, hB9, hT9, hR9⟩
                  · rw [hfpN2, hfpN, hp9] at hf9; cases hf9
                  · have ek : k = k9 := Option.some.inj (((hfpN2.trans hfpN).symm.trans hf9).symm.trans hp9)
                    subst ek
                    exact ⟨congrArg (fun x => some (Value.int x)) (adm_s hf9), rl_o6 rfl hL2 (hfpN.trans hp9) hlen (num_c rfl rfl rfl rfl hn) (sg_c rfl hsg) (ls_c rfl hls) hqa rfl hB9 hO9 hT9 hR9⟩
                · exact absurd c98 c78
              · refine aw_aload_n X dX10_open_81 rfl rfl ?_
                refine aw_get X okX10 (k := 9) k0_ (Nat.le_of_ble_eq_true rfl) fl_X10_146 (Or.inl rfl) rfl dX10_open_82 ?_
                refine aw_bipush X dX10_open_85 cb_6 ?_
                refine aw_icmp_lt (tgt := 93) X dX10_open_87 rfl (fun c87 => ?_) (fun c87 => ?_)
                · refine aw_aload X dX10_open_93 rfl ?_
                  refine aw_get X okX8 (k := 2) (hL.1 15 (M.2.2 34 rf.toNatClampNeg).toNatClampNeg hfl) (Nat.le_of_ble_eq_true rfl) fl_X10_133 (Or.inl rfl) rfl dX10_open_95 ?_
                  refine aw_if_ne (tgt := 116) X dX10_open_98 rfl (fun c98 => ?_) (fun c98 => ?_)
                  · exact absurd c78 c98
                  · refine aw_aload X dX10_open_101 rfl ?_
                    refine aw_callV X (kX8_make _ _ _ _ _ _ _ (hL.1 15 (M.2.2 34 rf.toNatClampNeg).toNatClampNeg hfl)) okm_X8_make okX8 (hL.1 15 (M.2.2 34 rf.toNatClampNeg).toNatClampNeg hfl) ml_X10_149 im_X8_make se_X8_X8_make rfl rfl (Nat.le_of_ble_eq_true rfl) ⟨Nat.le_of_ble_eq_true rfl, Nat.le_of_ble_eq_true rfl, Nat.le_of_ble_eq_true rfl, Nat.le_of_ble_eq_true rfl⟩ dX10_open_103 (fun v w2 hp => ?_)
                    obtain ⟨rfl, hw135⟩ := hp
                    have hk136 := (congrFun hw135 (ad 15 (M.2.2 34 rf.toNatClampNeg).toNatClampNeg)).trans wm_ups
                    have hk137 := ((congrFun hw135 (ad 0 0)).trans (wm_upn (rl_ne hL (t := 0) (i := 0) (t' := 15) (i' := (M.2.2 34 rf.toNatClampNeg).toNatClampNeg) (lvf 0 (by decide)) (hfl) (Or.inl rfl) (fun z => absurd z.1 (by decide))))).trans k0_
                    have hk138 := ((congrFun hw135 (ad 3 0)).trans (wm_upn (rl_ne hL (t := 3) (i := 0) (t' := 15) (i' := (M.2.2 34 rf.toNatClampNeg).toNatClampNeg) (lvf 3 (by decide)) (hfl) (Or.inl rfl) (fun z => absurd z.1 (by decide))))).trans k3_
                    have hk139 := ((congrFun hw135 (ad 4 0)).trans (wm_upn (rl_ne hL (t := 4) (i := 0) (t' := 15) (i' := (M.2.2 34 rf.toNatClampNeg).toNatClampNeg) (lvf 4 (by decide)) (hfl) (Or.inl rfl) (fun z => absurd z.1 (by decide))))).trans k4_
                    have hk140 := ((congrFun hw135 (ad 17 rf.toNatClampNeg)).trans (wm_upn (rl_ne hL (t := 17) (i := rf.toNatClampNeg) (t' := 15) (i' := (M.2.2 34 rf.toNatClampNeg).toNatClampNeg) (hri) (hfl) (Or.inl rfl) (fun z => absurd z.1 (by decide))))).trans (hL.1 17 rf.toNatClampNeg hri)
                    refine aw_aload_n X dX10_open_106 rfl rfl ?_
                    refine aw_dup X dX10_open_107 rfl ?_
                    refine aw_get X okX10 (k := 9) hk137 (Nat.le_of_ble_eq_true rfl) fl_X10_146 (Or.inl rfl) rfl dX10_open_108 ?_
                    refine aw_iconst X dX10_open_111 ci_1 ?_
                    refine aw_iadd X dX10_open_112 ?_
                    refine aw_put2 X okX10 (k := 9) (fs' := [.ref (ad 1 0), .ref (ad 2 0), .ref (ad 3 0), .ref (ad 4 0), .ref (ad 5 0), .ref (ad 6 0), va_rf (sAd M ad (M.1 20)), .int (M.1 7), .int (M.1 29), .int ((M.1 38) + 1), .int ((M.2.1 21).toInt32), .int ((M.2.1 22).toInt32), .int (M.1 5)]) hk137 (Nat.le_of_ble_eq_true rfl) fl_X10_146 (Or.inl rfl) rfl (rfl ) ( rfl) (Nat.le_of_ble_eq_true rfl) rfl dX10_open_113 (fun w141 hk142 hn143 he144 => ?_)
                    have hk145 := (hn143 _ (rl_ne hL (t := 3) (i := 0) (t' := 0) (i' := 0) (lvf 3 (by decide)) (lvf 0 (by decide)) (Or.inl rfl) (fun z => absurd z.1 (by decide)))).trans hk138
                    have hk146 := (hn143 _ (rl_ne hL (t := 4) (i := 0) (t' := 0) (i' := 0) (lvf 4 (by decide)) (lvf 0 (by decide)) (Or.inl rfl) (fun z => absurd z.1 (by decide)))).trans hk139
                    have hk147 := (hn143 _ (rl_ne hL (t := 17) (i := rf.toNatClampNeg) (t' := 0) (i' := 0) (hri) (lvf 0 (by decide)) (Or.inl rfl) (fun z => absurd z.1 (by decide)))).trans hk140
                    have hk148 := (hn143 _ (rl_ne hL (t := 15) (i := (M.2.2 34 rf.toNatClampNeg).toNatClampNeg) (t' := 0) (i' := 0) (hfl) (lvf 0 (by decide)) (Or.inl rfl) (fun z => absurd z.1 (by decide)))).trans hk136
                    refine aw_aload_n X dX10_open_116 rfl rfl ?_
                    refine aw_new2 X okX1 cl_X10_152 is_X1 in_X1 rfl (Nat.le_of_ble_eq_true rfl) (Nat.le_of_ble_eq_true rfl) dX10_open_117 (fun q149 w150 hf151 hk152 hn153 he154 => ?_)
                    have hk155 := (hn153 _ (ne_fr hk142 hf151)).trans hk142
                    have hk156 := (hn153 _ (ne_fr hk145 hf151)).trans hk145
                    have hk157 := (hn153 _ (ne_fr hk146 hf151)).trans hk146
                    have hk158 := (hn153 _ (ne_fr hk147 hf151)).trans hk147
                    have hk159 := (hn153 _ (ne_fr hk148 hf151)).trans hk148
                    refine aw_dup X dX10_open_120 rfl ?_
                    refine aw_aload X dX10_open_121 rfl ?_
                    refine aw_iload_n X dX10_open_123 rfl rfl ?_
                    refine aw_iload_n X dX10_open_124 rfl rfl ?_
                    refine aw_callI X (kX1_init _ _ _ q149 _ _ _ hwd hk152 _ _ _ hk159) okm_X1_init rfl ml_X10_154 im_X1_init rfl rfl (Nat.le_of_ble_eq_true rfl) ⟨Nat.le_of_ble_eq_true rfl, Nat.le_of_ble_eq_true rfl, Nat.le_of_ble_eq_true rfl, Nat.le_of_ble_eq_true rfl⟩ dX10_open_125 (fun v w2 hp => ?_)
                    obtain ⟨rfl, hk160, hk161, hb162⟩ := hp
                    have hk163 := (hb162 (ad 0 0) (ne_ci hk155 hk152 (by decide)) (rl_ne hL (t := 0) (i := 0) (t' := 15) (i' := (M.2.2 34 rf.toNatClampNeg).toNatClampNeg) (lvf 0 (by decide)) (hfl) (Or.inl rfl) (fun z => absurd z.1 (by decide)))).trans hk155
                    have hk164 := (hb162 (ad 3 0) (Ne.symm (ne_oa hk152 hk156)) (rl_ne hL (t := 3) (i := 0) (t' := 15) (i' := (M.2.2 34 rf.toNatClampNeg).toNatClampNeg) (lvf 3 (by decide)) (hfl) (Or.inl rfl) (fun z => absurd z.1 (by decide)))).trans hk156
                    have hk165 := (hb162 (ad 4 0) (Ne.symm (ne_oa hk152 hk157)) (rl_ne hL (t := 4) (i := 0) (t' := 15) (i' := (M.2.2 34 rf.toNatClampNeg).toNatClampNeg) (lvf 4 (by decide)) (hfl) (Or.inl rfl) (fun z => absurd z.1 (by decide)))).trans hk157
                    have hk166 := (hb162 (ad 17 rf.toNatClampNeg) (ne_ci hk158 hk152 (by decide)) (rl_ne hL (t := 17) (i := rf.toNatClampNeg) (t' := 15) (i' := (M.2.2 34 rf.toNatClampNeg).toNatClampNeg) (hri) (hfl) (Or.inl rfl) (fun z => absurd z.1 (by decide)))).trans hk158
                    have hL0 : RLa G (sF (sI (sF (sI M 0 0) 35 (M.2.2 34 rf.toNatClampNeg).toNatClampNeg 1) 38 (M.1 38 + 1)) 36 (M.2.2 34 rf.toNatClampNeg).toNatClampNeg 0) ad gi w141 := rl_make hL hfl hk148 hk142 (fun b h1 h2 => by rw [he144, wm_upn h2, hw135, wm_upn h1])
                    have hL1 : RLa G (sF (sI (sF (sI M 0 0) 35 (M.2.2 34 rf.toNatClampNeg).toNatClampNeg 1) 38 (M.1 38 + 1)) 36 (M.2.2 34 rf.toNatClampNeg).toNatClampNeg 0) ad gi w150 := rl_ext hL0 (fun c hc => by rw [he154, wm_upn (fun z => hc (by rw [z]; exact hf151))])
                    have hqa : ∀ t i, lvT (sF (sI (sF (sI M 0 0) 35 (M.2.2 34 rf.toNatClampNeg).toNatClampNeg 1) 38 (M.1 38 + 1)) 36 (M.2.2 34 rf.toNatClampNeg).toNatClampNeg 0) t i → q149 ≠ ad t i := fr_ad hL0 hf151
                    have hlen : bt ((sF (sI (sF (sI M 0 0) 35 (M.2.2 34 rf.toNatClampNeg).toNatClampNeg 1) 38 (M.1 38 + 1)) 36 (M.2.2 34 rf.toNatClampNeg).toNatClampNeg 0).2.2 36 (M.2.2 34 rf.toNatClampNeg).toNatClampNeg) 0 60 = true := by show bt (upd (M.2.2 36) _ 0 _) 0 60 = true; rw [upd_s]; rfl
                    have hfw : w2 (ad 15 (M.2.2 34 rf.toNatClampNeg).toNatClampNeg) = some (.inr (10, [.ref (ad 16 (M.2.2 34 rf.toNatClampNeg).toNatClampNeg), .int (fs_len mode wide ((sF (sI (sF (sI M 0 0) 35 (M.2.2 34 rf.toNatClampNeg).toNatClampNeg 1) 38 (M.1 38 + 1)) 36 (M.2.2 34 rf.toNatClampNeg).toNatClampNeg 0).2.2 36 (M.2.2 34 rf.toNatClampNeg).toNatClampNeg)), .int ((sF (sI (sF (sI M 0 0) 35 (M.2.2 34 rf.toNatClampNeg).toNatClampNeg 1) 38 (M.1 38 + 1)) 36 (M.2.2 34 rf.toNatClampNeg).toNatClampNeg 0).2.2 35 (M.2.2 34 rf.toNatClampNeg).toNatClampNeg)])) := by rw [show (sF (sI (sF (sI M 0 0) 35 (M.2.2 34 rf.toNatClampNeg).toNatClampNeg 1) 38 (M.1 38 + 1)) 36 (M.2.2 34 rf.toNatClampNeg).toNatClampNeg 0).2.2 36 (M.2.2 34 rf.toNatClampNeg).toNatClampNeg = 0 from upd_s, show (sF (sI (sF (sI M 0 0) 35 (M.2.2 34 rf.toNatClampNeg).toNatClampNeg 1) 38 (M.1 38 + 1)) 36 (M.2.2 34 rf.toNatClampNeg).toNatClampNeg 0).2.2 35 (M.2.2 34 rf.toNatClampNeg).toNatClampNeg = 1 from upd_s]; exact hk161
                    have hL2 := rl_o2 (mode := mode) (wide := wide) hL1 hqa (lv15_c (M := M) rfl rfl hfl) hfw (fun b h1 h2 => hb162 b h1 h2)
                    refine aw_callV X (kX10_admit _ _ _ _ _ _ hL2 hN _ _ _ _ hk160) okm_X10_admit okX10 hk163 ml_X10_120 im_X10_admit se_X10_X10_admit rfl rfl (Nat.le_of_ble_eq_true rfl) ⟨Nat.le_of_ble_eq_true rfl, Nat.le_of_ble_eq_true rfl, Nat.le_of_ble_eq_true rfl, Nat.le_of_ble_eq_true rfl⟩ dX10_open_128 (fun v w2 hp => ?_)
                    obtain ⟨rfl, hA9⟩ := hp
                    refine RTN (some (.int _)) _ _ _ _ _ dX10_open_131 (⟨_, rfl⟩) (Nat.le_of_ble_eq_true rfl) (Nat.le_of_ble_eq_true rfl) ?_
                    have enf : nI (M.2.2 34 rf.toNatClampNeg).toNatClampNeg = M.2.2 34 rf.toNatClampNeg := nI_cl (bt_iff.mp (hfi _ (by have := bt_iff.mp hrc; unfold isr at hri; omega))).1
                    have hfree : mo_free M rf mode = (((!decide (mode = 2)) || !decide (M.2.2 35 (M.2.2 34 rf.toNatClampNeg).toNatClampNeg = 0)) && !(List.range 8).any (blk M (M.2.2 34 rf.toNatClampNeg) mode)) := fr_eq 8
                    rw [enf] at c59
                    have hyes : mo_free M rf mode = true := by rw [hfree, Bool.eq_false_iff.mpr c59]; rw [decide_eq_false c41]; rfl
                    have hm : mo_open M rf mode wide = (M.1 7 + 1, mo_o6 (sF (sI (sF (sI M 0 0) 35 (M.2.2 34 rf.toNatClampNeg).toNatClampNeg 1) 38 (M.1 38 + 1)) 36 (M.2.2 34 rf.toNatClampNeg).toNatClampNeg 0) (M.2.2 34 rf.toNatClampNeg) mode wide (nI k9)) := by unfold mo_open; rw [if_pos c5, if_pos (Or.inl c17), if_pos hyes, if_neg (by rw [fp_oI hp9, i32_lt, nI_toInt (by omega)]; have e0 : (0 : Int32).toInt = 0 := rfl; omega), if_pos c98, if_neg (by intro h; rw [h] at c87; exact absurd c87 (by decide)), fp_oI hp9]
                    rw [hm]
                    have hfpN : mo_fp (sF (sI (sF (sI M 0 0) 35 (M.2.2 34 rf.toNatClampNeg).toNatClampNeg 1) 38 (M.1 38 + 1)) 36 (M.2.2 34 rf.toNatClampNeg).toNatClampNeg 0) = mo_fp M := fp_c rfl
                    have hfpN2 : mo_fp (mo_o3 (sF (sI (sF (sI M 0 0) 35 (M.2.2 34 rf.toNatClampNeg).toNatClampNeg 1) 38 (M.1 38 + 1)) 36 (M.2.2 34 rf.toNatClampNeg).toNatClampNeg 0) (M.2.2 34 rf.toNatClampNeg) mode wide) = mo_fp (sF (sI (sF (sI M 0 0) 35 (M.2.2 34 rf.toNatClampNeg).toNatClampNeg 1) 38 (M.1 38 + 1)) 36 (M.2.2 34 rf.toNatClampNeg).toNatClampNeg 0) := fp_c rfl
                    rcases hA9 with ⟨hf9, hw9⟩ | ⟨k, hf9, hO9, hB9, hT9, hR9⟩
                    · rw [hfpN2, hfpN, hp9] at hf9; cases hf9
                    · have ek : k = k9 := Option.some.inj (((hfpN2.trans hfpN).symm.trans hf9).symm.trans hp9)
                      subst ek
                      exact ⟨congrArg (fun x => some (Value.int x)) (adm_s hf9), rl_o6 upd_s hL2 (hfpN.trans hp9) hlen (num_c rfl rfl rfl rfl hn) (sg_c rfl hsg) (ls_c rfl hls) hqa rfl hB9 hO9 hT9 hR9⟩
                · refine aw_bipush X dX10_open_90 cb_m5 ?_
                  refine RTN (some (.int _)) _ _ _ _ _ dX10_open_92 (⟨_, rfl⟩) (Nat.le_of_ble_eq_true rfl) (Nat.le_of_ble_eq_true rfl) ?_
                  have enf : nI (M.2.2 34 rf.toNatClampNeg).toNatClampNeg = M.2.2 34 rf.toNatClampNeg := nI_cl (bt_iff.mp (hfi _ (by have := bt_iff.mp hrc; unfold isr at hri; omega))).1
                  have hfree : mo_free M rf mode = (((!decide (mode = 2)) || !decide (M.2.2 35 (M.2.2 34 rf.toNatClampNeg).toNatClampNeg = 0)) && !(List.range 8).any (blk M (M.2.2 34 rf.toNatClampNeg) mode)) := fr_eq 8
                  rw [enf] at c59
                  have hyes : mo_free M rf mode = true := by rw [hfree, Bool.eq_false_iff.mpr c59]; rw [decide_eq_false c41]; rfl
                  have h38 : M.1 38 = 6 := by have := bt_iff.mp hft; rw [i32_eq]; rw [i32_lt] at c87; have e6 : (6 : Int32).toInt = 6 := rfl; omega
                  have hm : mo_open M rf mode wide = (-5, sI M 0 0) := by unfold mo_open; rw [if_pos c5, if_pos (Or.inl c17), if_pos hyes, if_neg (by rw [fp_oI hp9, i32_lt, nI_toInt (by omega)]; have e0 : (0 : Int32).toInt = 0 := rfl; omega), if_pos c78, if_pos h38]
                  rw [hm]
                  exact ⟨rfl, ad, gi, rl_0 hL, rfl⟩
        · rw [bI_n0] at c59
          refine aw_bipush X dX10_open_62 cb_m4 ?_
          refine RTN (some (.int _)) _ _ _ _ _ dX10_open_64 (⟨_, rfl⟩) (Nat.le_of_ble_eq_true rfl) (Nat.le_of_ble_eq_true rfl) ?_
          have enf : nI (M.2.2 34 rf.toNatClampNeg).toNatClampNeg = M.2.2 34 rf.toNatClampNeg := nI_cl (bt_iff.mp (hfi _ (by have := bt_iff.mp hrc; unfold isr at hri; omega))).1
          have hfree : mo_free M rf mode = (((!decide (mode = 2)) || !decide (M.2.2 35 (M.2.2 34 rf.toNatClampNeg).toNatClampNeg = 0)) && !(List.range 8).any (blk M (M.2.2 34 rf.toNatClampNeg) mode)) := fr_eq 8
          rw [enf] at c59
          have hm : mo_open M rf mode wide = (-4, sI M 0 0) := by unfold mo_open; rw [if_pos c5, if_pos (Or.inl c17), if_neg (by rw [hfree, c59, Bool.not_true, Bool.and_false]; decide)]
          rw [hm]
          exact ⟨rfl, ad, gi, rl_0 hL, rfl⟩
      · refine aw_aload X dX10_open_44 rfl ?_
        refine aw_get X okX8 (k := 2) (hL.1 15 (M.2.2 34 rf.toNatClampNeg).toNatClampNeg hfl) (Nat.le_of_ble_eq_true rfl) fl_X10_133 (Or.inl rfl) rfl dX10_open_46 ?_
        refine aw_if_eq (tgt := 62) X dX10_open_49 rfl (fun c49 => ?_) (fun c49 => ?_)
        · refine aw_bipush X dX10_open_62 cb_m4 ?_
          refine RTN (some (.int _)) _ _ _ _ _ dX10_open_64 (⟨_, rfl⟩) (Nat.le_of_ble_eq_true rfl) (Nat.le_of_ble_eq_true rfl) ?_
          have enf : nI (M.2.2 34 rf.toNatClampNeg).toNatClampNeg = M.2.2 34 rf.toNatClampNeg := nI_cl (bt_iff.mp (hfi _ (by have := bt_iff.mp hrc; unfold isr at hri; omega))).1
          have hfree : mo_free M rf mode = (((!decide (mode = 2)) || !decide (M.2.2 35 (M.2.2 34 rf.toNatClampNeg).toNatClampNeg = 0)) && !(List.range 8).any (blk M (M.2.2 34 rf.toNatClampNeg) mode)) := fr_eq 8
          have hm : mo_open M rf mode wide = (-4, sI M 0 0) := by unfold mo_open; rw [if_pos c5, if_pos (Or.inl c17), if_neg (by rw [hfree, decide_eq_true c41, decide_eq_true c49]; exact Bool.false_ne_true)]
          rw [hm]
          exact ⟨rfl, ad, gi, rl_0 hL, rfl⟩
        · refine aw_aload_n X dX10_open_52 rfl rfl ?_
          refine aw_aload X dX10_open_53 rfl ?_
          refine aw_iload_n X dX10_open_55 rfl rfl ?_
          refine aw_callV X (kX10_isInTheWay _ _ _ _ _ _ hL hsf hrc _ hfl _) okm_X10_isInTheWay okX10 k0_ ml_X10_138 im_X10_isInTheWay se_X10_X10_isInTheWay rfl rfl (Nat.le_of_ble_eq_true rfl) ⟨Nat.le_of_ble_eq_true rfl, Nat.le_of_ble_eq_true rfl, Nat.le_of_ble_eq_true rfl, Nat.le_of_ble_eq_true rfl⟩ dX10_open_56 (fun v w2 hp => ?_)
          obtain ⟨rfl, hw9⟩ := hp
          have hw9 := hw9.symm
          subst hw9
          refine aw_if_eq (tgt := 65) X dX10_open_59 rfl (fun c59 => ?_) (fun c59 => ?_)
          · rw [bI_0] at c59
            refine aw_aload_n X dX10_open_65 rfl rfl ?_
            refine aw_callV X (kX10_freeSlot _ _ _ _ _ _ hL hN) okm_X10_freeSlot okX10 k0_ ml_X10_142 im_X10_freeSlot se_X10_X10_freeSlot rfl rfl (Nat.le_of_ble_eq_true rfl) ⟨Nat.le_of_ble_eq_true rfl, Nat.le_of_ble_eq_true rfl, Nat.le_of_ble_eq_true rfl, Nat.le_of_ble_eq_true rfl⟩ dX10_open_66 (fun v w2 hp => ?_)
            obtain ⟨rfl, hw9⟩ := hp
            have hw9 := hw9.symm
            subst hw9
            rcases hp9 : mo_fp M with _ | k9
            · rw [show oI (none : Option Nat) = -1 from rfl]
              refine aw_iconst X dX10_open_69 ci_m1 ?_
              refine aw_icmp_eq (tgt := 90) X dX10_open_70 rfl (fun c70 => ?_) (fun c70 => ?_)
              · refine aw_bipush X dX10_open_90 cb_m5 ?_
                refine RTN (some (.int _)) _ _ _ _ _ dX10_open_92 (⟨_, rfl⟩) (Nat.le_of_ble_eq_true rfl) (Nat.le_of_ble_eq_true rfl) ?_
                have enf : nI (M.2.2 34 rf.toNatClampNeg).toNatClampNeg = M.2.2 34 rf.toNatClampNeg := nI_cl (bt_iff.mp (hfi _ (by have := bt_iff.mp hrc; unfold isr at hri; omega))).1
                have hfree : mo_free M rf mode = (((!decide (mode = 2)) || !decide (M.2.2 35 (M.2.2 34 rf.toNatClampNeg).toNatClampNeg = 0)) && !(List.range 8).any (blk M (M.2.2 34 rf.toNatClampNeg) mode)) := fr_eq 8
                rw [enf] at c59
                have hyes : mo_free M rf mode = true := by rw [hfree, Bool.eq_false_iff.mpr c59]; rw [decide_eq_false c49]; cases decide (mode = 2) <;> rfl
                have hm : mo_open M rf mode wide = (-5, sI M 0 0) := by unfold mo_open; rw [if_pos c5, if_pos (Or.inl c17), if_pos hyes, if_pos (by rw [show mo_fp (sI M 0 0) = none from hp9]; decide)]
                rw [hm]
                exact ⟨rfl, ad, gi, rl_0 hL, rfl⟩
              · exact absurd c70 (by decide)
            · rw [show oI (some k9) = nI k9 from rfl]
              have ho9 := (fp_some hp9).1
              refine aw_iconst X dX10_open_69 ci_m1 ?_
              refine aw_icmp_eq (tgt := 90) X dX10_open_70 rfl (fun c70 => ?_) (fun c70 => ?_)
              · exact absurd c70 (oI_n1 (x := some k9) rfl (by omega))
              · refine aw_aload X dX10_open_73 rfl ?_
                refine aw_get X okX8 (k := 2) (hL.1 15 (M.2.2 34 rf.toNatClampNeg).toNatClampNeg hfl) (Nat.le_of_ble_eq_true rfl) fl_X10_133 (Or.inl rfl) rfl dX10_open_75 ?_
                refine aw_if_ne (tgt := 93) X dX10_open_78 rfl (fun c78 => ?_) (fun c78 => ?_)
                · refine aw_aload X dX10_open_93 rfl ?_
                  refine aw_get X okX8 (k := 2) (hL.1 15 (M.2.2 34 rf.toNatClampNeg).toNatClampNeg hfl) (Nat.le_of_ble_eq_true rfl) fl_X10_133 (Or.inl rfl) rfl dX10_open_95 ?_
                  refine aw_if_ne (tgt := 116) X dX10_open_98 rfl (fun c98 => ?_) (fun c98 => ?_)
                  · refine aw_aload_n X dX10_open_116 rfl rfl ?_
                    refine aw_new2 X okX1 cl_X10_152 is_X1 in_X1 rfl (Nat.le_of_ble_eq_true rfl) (Nat.le_of_ble_eq_true rfl) dX10_open_117 (fun q167 w168 hf169 hk170 hn171 he172 => ?_)
                    have hk173 := (hn171 _ (ne_fr k0_ hf169)).trans k0_
                    have hk174 := (hn171 _ (ne_fr k3_ hf169)).trans k3_
                    have hk175 := (hn171 _ (ne_fr k4_ hf169)).trans k4_
                    have hk176 := (hn171 _ (ne_fr (hL.1 17 rf.toNatClampNeg hri) hf169)).trans (hL.1 17 rf.toNatClampNeg hri)
                    have hk177 := (hn171 _ (ne_fr (hL.1 15 (M.2.2 34 rf.toNatClampNeg).toNatClampNeg hfl) hf169)).trans (hL.1 15 (M.2.2 34 rf.toNatClampNeg).toNatClampNeg hfl)
                    refine aw_dup X dX10_open_120 rfl ?_
                    refine aw_aload X dX10_open_121 rfl ?_
                    refine aw_iload_n X dX10_open_123 rfl rfl ?_
                    refine aw_iload_n X dX10_open_124 rfl rfl ?_
                    refine aw_callI X (kX1_init _ _ _ q167 _ _ _ hwd hk170 _ _ _ hk177) okm_X1_init rfl ml_X10_154 im_X1_init rfl rfl (Nat.le_of_ble_eq_true rfl) ⟨Nat.le_of_ble_eq_true rfl, Nat.le_of_ble_eq_true rfl, Nat.le_of_ble_eq_true rfl, Nat.le_of_ble_eq_true rfl⟩ dX10_open_125 (fun v w2 hp => ?_)
                    obtain ⟨rfl, hk178, hk179, hb180⟩ := hp
                    have hk181 := (hb180 (ad 0 0) (ne_ci hk173 hk170 (by decide)) (rl_ne hL (t := 0) (i := 0) (t' := 15) (i' := (M.2.2 34 rf.toNatClampNeg).toNatClampNeg) (lvf 0 (by decide)) (hfl) (Or.inl rfl) (fun z => absurd z.1 (by decide)))).trans hk173
                    have hk182 := (hb180 (ad 3 0) (Ne.symm (ne_oa hk170 hk174)) (rl_ne hL (t := 3) (i := 0) (t' := 15) (i' := (M.2.2 34 rf.toNatClampNeg).toNatClampNeg) (lvf 3 (by decide)) (hfl) (Or.inl rfl) (fun z => absurd z.1 (by decide)))).trans hk174
                    have hk183 := (hb180 (ad 4 0) (Ne.symm (ne_oa hk170 hk175)) (rl_ne hL (t := 4) (i := 0) (t' := 15) (i' := (M.2.2 34 rf.toNatClampNeg).toNatClampNeg) (lvf 4 (by decide)) (hfl) (Or.inl rfl) (fun z => absurd z.1 (by decide)))).trans hk175
                    have hk184 := (hb180 (ad 17 rf.toNatClampNeg) (ne_ci hk176 hk170 (by decide)) (rl_ne hL (t := 17) (i := rf.toNatClampNeg) (t' := 15) (i' := (M.2.2 34 rf.toNatClampNeg).toNatClampNeg) (hri) (hfl) (Or.inl rfl) (fun z => absurd z.1 (by decide)))).trans hk176
                    have hL1 : RLa G (sI M 0 0) ad gi w168 := rl_ext (rl_0 hL) (fun c hc => by rw [he172, wm_upn (fun z => hc (by rw [z]; exact hf169))])
                    have hqa : ∀ t i, lvT (sI M 0 0) t i → q167 ≠ ad t i := fr_ad (rl_0 hL) hf169
                    have hlen : bt ((sI M 0 0).2.2 36 (M.2.2 34 rf.toNatClampNeg).toNatClampNeg) 0 60 = true := hby _ (by have h1 : isr M (M.2.2 34 rf.toNatClampNeg).toNatClampNeg := hfl.1; have h2 := bt_iff.mp hrc; unfold isr at h1; omega)
                    have hfw : w2 (ad 15 (M.2.2 34 rf.toNatClampNeg).toNatClampNeg) = some (.inr (10, [.ref (ad 16 (M.2.2 34 rf.toNatClampNeg).toNatClampNeg), .int (fs_len mode wide ((sI M 0 0).2.2 36 (M.2.2 34 rf.toNatClampNeg).toNatClampNeg)), .int ((sI M 0 0).2.2 35 (M.2.2 34 rf.toNatClampNeg).toNatClampNeg)])) := hk179
                    have hL2 := rl_o2 (mode := mode) (wide := wide) hL1 hqa (lv15_c (M := M) rfl rfl hfl) hfw (fun b h1 h2 => hb180 b h1 h2)
                    refine aw_callV X (kX10_admit _ _ _ _ _ _ hL2 hN _ _ _ _ hk178) okm_X10_admit okX10 hk181 ml_X10_120 im_X10_admit se_X10_X10_admit rfl rfl (Nat.le_of_ble_eq_true rfl) ⟨Nat.le_of_ble_eq_true rfl, Nat.le_of_ble_eq_true rfl, Nat.le_of_ble_eq_true rfl, Nat.le_of_ble_eq_true rfl⟩ dX10_open_128 (fun v w2 hp => ?_)
                    obtain ⟨rfl, hA9⟩ := hp
                    refine RTN (some (.int _)) _ _ _ _ _ dX10_open_131 (⟨_, rfl⟩) (Nat.le_of_ble_eq_true rfl) (Nat.le_of_ble_eq_true rfl) ?_
                    have enf : nI (M.2.2 34 rf.toNatClampNeg).toNatClampNeg = M.2.2 34 rf.toNatClampNeg := nI_cl (bt_iff.mp (hfi _ (by have := bt_iff.mp hrc; unfold isr at hri; omega))).1
                    have hfree : mo_free M rf mode = (((!decide (mode = 2)) || !decide (M.2.2 35 (M.2.2 34 rf.toNatClampNeg).toNatClampNeg = 0)) && !(List.range 8).any (blk M (M.2.2 34 rf.toNatClampNeg) mode)) := fr_eq 8
                    rw [enf] at c59
                    have hyes : mo_free M rf mode = true := by rw [hfree, Bool.eq_false_iff.mpr c59]; rw [decide_eq_false c49]; cases decide (mode = 2) <;> rfl
                    have hm : mo_open M rf mode wide = (M.1 7 + 1, mo_o6 (sI M 0 0) (M.2.2 34 rf.toNatClampNeg) mode wide (nI k9)) := by unfold mo_open; rw [if_pos c5, if_pos (Or.inl c17), if_pos hyes, if_neg (by rw [fp_oI hp9, i32_lt, nI_toInt (by omega)]; have e0 : (0 : Int32).toInt = 0 := rfl; omega), if_neg c98, fp_oI hp9]
                    rw [hm]
                    have hfpN : mo_fp (sI M 0 0) = mo_fp M := fp_c rfl
                    have hfpN2 : mo_fp (mo_o3 (sI M 0 0) (M.2.2 34 rf.toNatClampNeg) mode wide) = mo_fp (sI M 0 0) := fp_c rfl
                    rcases hA9 with ⟨hf9, hw9⟩ | ⟨k, hf9, hO9, hB9, hT9, hR9⟩
                    · rw [hfpN2, hfpN, hp9] at hf9; cases hf9
                    · have ek : k = k9 := Option.some.inj (((hfpN2.trans hfpN).symm.trans hf9).symm.trans hp9)
                      subst ek
                      exact ⟨congrArg (fun x => some (Value.int x)) (adm_s hf9), rl_o6 rfl hL2 (hfpN.trans hp9) hlen (num_c rfl rfl rfl rfl hn) (sg_c rfl hsg) (ls_c rfl hls) hqa rfl hB9 hO9 hT9 hR9⟩
                  · exact absurd c98 c78
                · exact absurd c78 c49
          · rw [bI_n0] at c59
            refine aw_bipush X dX10_open_62 cb_m4 ?_
            refine RTN (some (.int _)) _ _ _ _ _ dX10_open_64 (⟨_, rfl⟩) (Nat.le_of_ble_eq_true rfl) (Nat.le_of_ble_eq_true rfl) ?_
            have enf : nI (M.2.2 34 rf.toNatClampNeg).toNatClampNeg = M.2.2 34 rf.toNatClampNeg := nI_cl (bt_iff.mp (hfi _ (by have := bt_iff.mp hrc; unfold isr at hri; omega))).1
            have hfree : mo_free M rf mode = (((!decide (mode = 2)) || !decide (M.2.2 35 (M.2.2 34 rf.toNatClampNeg).toNatClampNeg = 0)) && !(List.range 8).any (blk M (M.2.2 34 rf.toNatClampNeg) mode)) := fr_eq 8
            rw [enf] at c59
            have hm : mo_open M rf mode wide = (-4, sI M 0 0) := by unfold mo_open; rw [if_pos c5, if_pos (Or.inl c17), if_neg (by rw [hfree, c59, Bool.not_true, Bool.and_false]; decide)]
            rw [hm]
            exact ⟨rfl, ad, gi, rl_0 hL, rfl⟩
    · rw [bI_0] at c17
      refine aw_iload_n X dX10_open_20 rfl rfl ?_
      refine aw_iconst X dX10_open_21 ci_5 ?_
      refine aw_icmp_eq (tgt := 28) X dX10_open_22 rfl (fun c22 => ?_) (fun c22 => ?_)
      · refine aw_aload_n X dX10_open_28 rfl rfl ?_
        refine aw_get X okX10 (k := 3) k0_ (Nat.le_of_ble_eq_true rfl) fl_X10_28 (Or.inl rfl) rfl dX10_open_29 ?_
        refine aw_iload_n X dX10_open_32 rfl rfl ?_
        refine aw_aald X 6 k4_ rfl (bt_vp (rc_bt hrc c5).1 (by decide) (by decide)) dX10_open_33 ?_
        have hri : isr M rf.toNatClampNeg := (rc_bt hrc c5).2
        have hfl : lvT M 15 (M.2.2 34 rf.toNatClampNeg).toNatClampNeg := hFF _ hri
        rw [cF_is hri]
        refine aw_get X okX6 (k := 3) (hL.1 17 rf.toNatClampNeg hri) (Nat.le_of_ble_eq_true rfl) fl_X10_129 (Or.inl rfl) rfl dX10_open_34 ?_
        refine aw_astore (lv' := [(4, _), (0, _), (1, _), (2, _), (3, _)]) X dX10_open_37 (by decide) rfl ?_
        refine aw_iload_n X dX10_open_39 rfl rfl ?_
        refine aw_iconst X dX10_open_40 ci_2 ?_
        refine aw_icmp_ne (tgt := 52) X dX10_open_41 rfl (fun c41 => ?_) (fun c41 => ?_)
        · refine aw_aload_n X dX10_open_52 rfl rfl ?_
          refine aw_aload X dX10_open_53 rfl ?_
          refine aw_iload_n X dX10_open_55 rfl rfl ?_
          refine aw_callV X (kX10_isInTheWay _ _ _ _ _ _ hL hsf hrc _ hfl _) okm_X10_isInTheWay okX10 k0_ ml_X10_138 im_X10_isInTheWay se_X10_X10_isInTheWay rfl rfl (Nat.le_of_ble_eq_true rfl) ⟨Nat.le_of_ble_eq_true rfl, Nat.le_of_ble_eq_true rfl, Nat.le_of_ble_eq_true rfl, Nat.le_of_ble_eq_true rfl⟩ dX10_open_56 (fun v w2 hp => ?_)
          obtain ⟨rfl, hw9⟩ := hp
          have hw9 := hw9.symm
          subst hw9
          refine aw_if_eq (tgt := 65) X dX10_open_59 rfl (fun c59 => ?_) (fun c59 => ?_)
          · rw [bI_0] at c59
            refine aw_aload_n X dX10_open_65 rfl rfl ?_
            refine aw_callV X (kX10_freeSlot _ _ _ _ _ _ hL hN) okm_X10_freeSlot okX10 k0_ ml_X10_142 im_X10_freeSlot se_X10_X10_freeSlot rfl rfl (Nat.le_of_ble_eq_true rfl) ⟨Nat.le_of_ble_eq_true rfl, Nat.le_of_ble_eq_true rfl, Nat.le_of_ble_eq_true rfl, Nat.le_of_ble_eq_true rfl⟩ dX10_open_66 (fun v w2 hp => ?_)
            obtain ⟨rfl, hw9⟩ := hp
            have hw9 := hw9.symm
            subst hw9
            rcases hp9 : mo_fp M with _ | k9
            · rw [show oI (none : Option Nat) = -1 from rfl]
              refine aw_iconst X dX10_open_69 ci_m1 ?_
              refine aw_icmp_eq (tgt := 90) X dX10_open_70 rfl (fun c70 => ?_) (fun c70 => ?_)
              · refine aw_bipush X dX10_open_90 cb_m5 ?_
                refine RTN (some (.int _)) _ _ _ _ _ dX10_open_92 (⟨_, rfl⟩) (Nat.le_of_ble_eq_true rfl) (Nat.le_of_ble_eq_true rfl) ?_
                have enf : nI (M.2.2 34 rf.toNatClampNeg).toNatClampNeg = M.2.2 34 rf.toNatClampNeg := nI_cl (bt_iff.mp (hfi _ (by have := bt_iff.mp hrc; unfold isr at hri; omega))).1
                have hfree : mo_free M rf mode = (((!decide (mode = 2)) || !decide (M.2.2 35 (M.2.2 34 rf.toNatClampNeg).toNatClampNeg = 0)) && !(List.range 8).any (blk M (M.2.2 34 rf.toNatClampNeg) mode)) := fr_eq 8
                rw [enf] at c59
                have hyes : mo_free M rf mode = true := by rw [hfree, Bool.eq_false_iff.mpr c59]; rw [decide_eq_false c41]; rfl
                have hm : mo_open M rf mode wide = (-5, sI M 0 0) := by unfold mo_open; rw [if_pos c5, if_pos (Or.inr c22), if_pos hyes, if_pos (by rw [show mo_fp (sI M 0 0) = none from hp9]; decide)]
                rw [hm]
                exact ⟨rfl, ad, gi, rl_0 hL, rfl⟩
              · exact absurd c70 (by decide)
            · rw [show oI (some k9) = nI k9 from rfl]
              have ho9 := (fp_some hp9).1
              refine aw_iconst X dX10_open_69 ci_m1 ?_
              refine aw_icmp_eq (tgt := 90) X dX10_open_70 rfl (fun c70 => ?_) (fun c70 => ?_)
              · exact absurd c70 (oI_n1 (x := some k9) rfl (by omega))
              · refine aw_aload X dX10_open_73 rfl ?_
                refine aw_get X okX8 (k := 2) (hL.1 15 (M.2.2 34 rf.toNatClampNeg).toNatClampNeg hfl) (Nat.le_of_ble_eq_true rfl) fl_X10_133 (Or.inl rfl) rfl dX10_open_75 ?_
                refine aw_if_ne (tgt := 93) X dX10_open_78 rfl (fun c78 => ?_) (fun c78 => ?_)
                · refine aw_aload X dX10_open_93 rfl ?_
                  refine aw_get X okX8 (k := 2) (hL.1 15 (M.2.2 34 rf.toNatClampNeg).toNatClampNeg hfl) (Nat.le_of_ble_eq_true rfl) fl_X10_133 (Or.inl rfl) rfl dX10_open_95 ?_
                  refine aw_if_ne (tgt := 116) X dX10_open_98 rfl (fun c98 => ?_) (fun c98 => ?_)
                  · refine aw_aload_n X dX10_open_116 rfl rfl ?_
                    refine aw_new2 X okX1 cl_X10_152 is_X1 in_X1 rfl (Nat.le_of_ble_eq_true rfl) (Nat.le_of_ble_eq_true rfl) dX10_open_117 (fun q185 w186 hf187 hk188 hn189 he190 => ?_)
                    have hk191 := (hn189 _ (ne_fr k0_ hf187)).trans k0_
                    have hk192 := (hn189 _ (ne_fr k3_ hf187)).trans k3_
                    have hk193 := (hn189 _ (ne_fr k4_ hf187)).trans k4_
                    have hk194 := (hn189 _ (ne_fr (hL.1 17 rf.toNatClampNeg hri) hf187)).trans (hL.1 17 rf.toNatClampNeg hri)
                    have hk195 := (hn189 _ (ne_fr (hL.1 15 (M.2.2 34 rf.toNatClampNeg).toNatClampNeg hfl) hf187)).trans (hL.1 15 (M.2.2 34 rf.toNatClampNeg).toNatClampNeg hfl)
                    refine aw_dup X dX10_open_120 rfl ?_
                    refine aw_aload X dX10_open_121 rfl ?_
                    refine aw_iload_n X dX10_open_123 rfl rfl ?_
                    refine aw_iload_n X dX10_open_124 rfl rfl ?_
                    refine aw_callI X (kX1_init _ _ _ q185 _ _ _ hwd hk188 _ _ _ hk195) okm_X1_init rfl ml_X10_154 im_X1_init rfl rfl (Nat.le_of_ble_eq_true rfl) ⟨Nat.le_of_ble_eq_true rfl, Nat.le_of_ble_eq_true rfl, Nat.le_of_ble_eq_true rfl, Nat.le_of_ble_eq_true rfl⟩ dX10_open_125 (fun v w2 hp => ?_)
                    obtain ⟨rfl, hk196, hk197, hb198⟩ := hp
                    have hk199 := (hb198 (ad 0 0) (ne_ci hk191 hk188 (by decide)) (rl_ne hL (t := 0) (i := 0) (t' := 15) (i' := (M.2.2 34 rf.toNatClampNeg).toNatClampNeg) (lvf 0 (by decide)) (hfl) (Or.inl rfl) (fun z => absurd z.1 (by decide)))).trans hk191
                    have hk200 := (hb198 (ad 3 0) (Ne.symm (ne_oa hk188 hk192)) (rl_ne hL (t := 3) (i := 0) (t' := 15) (i' := (M.2.2 34 rf.toNatClampNeg).toNatClampNeg) (lvf 3 (by decide)) (hfl) (Or.inl rfl) (fun z => absurd z.1 (by decide)))).trans hk192
                    have hk201 := (hb198 (ad 4 0) (Ne.symm (ne_oa hk188 hk193)) (rl_ne hL (t := 4) (i := 0) (t' := 15) (i' := (M.2.2 34 rf.toNatClampNeg).toNatClampNeg) (lvf 4 (by decide)) (hfl) (Or.inl rfl) (fun z => absurd z.1 (by decide)))).trans hk193
                    have hk202 := (hb198 (ad 17 rf.toNatClampNeg) (ne_ci hk194 hk188 (by decide)) (rl_ne hL (t := 17) (i := rf.toNatClampNeg) (t' := 15) (i' := (M.2.2 34 rf.toNatClampNeg).toNatClampNeg) (hri) (hfl) (Or.inl rfl) (fun z => absurd z.1 (by decide)))).trans hk194
                    have hL1 : RLa G (sI M 0 0) ad gi w186 := rl_ext (rl_0 hL) (fun c hc => by rw [he190, wm_upn (fun z => hc (by rw [z]; exact hf187))])
                    have hqa : ∀ t i, lvT (sI M 0 0) t i → q185 ≠ ad t i := fr_ad (rl_0 hL) hf187
                    have hlen : bt ((sI M 0 0).2.2 36 (M.2.2 34 rf.toNatClampNeg).toNatClampNeg) 0 60 = true := hby _ (by have h1 : isr M (M.2.2 34 rf.toNatClampNeg).toNatClampNeg := hfl.1; have h2 := bt_iff.mp hrc; unfold isr at h1; omega)
                    have hfw : w2 (ad 15 (M.2.2 34 rf.toNatClampNeg).toNatClampNeg) = some (.inr (10, [.ref (ad 16 (M.2.2 34 rf.toNatClampNeg).toNatClampNeg), .int (fs_len mode wide ((sI M 0 0).2.2 36 (M.2.2 34 rf.toNatClampNeg).toNatClampNeg)), .int ((sI M 0 0).2.2 35 (M.2.2 34 rf.toNatClampNeg).toNatClampNeg)])) := hk197
                    have hL2 := rl_o2 (mode := mode) (wide := wide) hL1 hqa (lv15_c (M := M) rfl rfl hfl) hfw (fun b h1 h2 => hb198 b h1 h2)
                    refine aw_callV X (kX10_admit _ _ _ _ _ _ hL2 hN _ _ _ _ hk196) okm_X10_admit okX10 hk199 ml_X10_120 im_X10_admit se_X10_X10_admit rfl rfl (Nat.le_of_ble_eq_true rfl) ⟨Nat.le_of_ble_eq_true rfl, Nat.le_of_ble_eq_true rfl, Nat.le_of_ble_eq_true rfl, Nat.le_of_ble_eq_true rfl⟩ dX10_open_128 (fun v w2 hp => ?_)
                    obtain ⟨rfl, hA9⟩ := hp
                    refine RTN (some (.int _)) _ _ _ _ _ dX10_open_131 (⟨_, rfl⟩) (Nat.le_of_ble_eq_true rfl) (Nat.le_of_ble_eq_true rfl) ?_
                    have enf : nI (M.2.2 34 rf.toNatClampNeg).toNatClampNeg = M.2.2 34 rf.toNatClampNeg := nI_cl (bt_iff.mp (hfi _ (by have := bt_iff.mp hrc; unfold isr at hri; omega))).1
                    have hfree : mo_free M rf mode = (((!decide (mode = 2)) || !decide (M.2.2 35 (M.2.2 34 rf.toNatClampNeg).toNatClampNeg = 0)) && !(List.range 8).any (blk M (M.2.2 34 rf.toNatClampNeg) mode)) := fr_eq 8
                    rw [enf] at c59
                    have hyes : mo_free M rf mode = true := by rw [hfree, Bool.eq_false_iff.mpr c59]; rw [decide_eq_false c41]; rfl
                    have hm : mo_open M rf mode wide = (M.1 7 + 1, mo_o6 (sI M 0 0) (M.2.2 34 rf.toNatClampNeg) mode wide (nI k9)) := by unfold mo_open; rw [if_pos c5, if_pos (Or.inr c22), if_pos hyes, if_neg (by rw [fp_oI hp9, i32_lt, nI_toInt (by omega)]; have e0 : (0 : Int32).toInt = 0 := rfl; omega), if_neg c98, fp_oI hp9]
                    rw [hm]
                    have hfpN : mo_fp (sI M 0 0) = mo_fp M := fp_c rfl
                    have hfpN2 : mo_fp (mo_o3 (sI M 0 0) (M.2.2 34 rf.toNatClampNeg) mode wide) = mo_fp (sI M 0 0) := fp_c rfl
                    rcases hA9 with ⟨hf9, hw9⟩ | ⟨k, hf9, hO9, hB9, hT9, hR9⟩
                    · rw [hfpN2, hfpN, hp9] at hf9; cases hf9
                    · have ek : k = k9 := Option.some.inj (((hfpN2.trans hfpN).symm.trans hf9).symm.trans hp9)
                      subst ek
                      exact ⟨congrArg (fun x => some (Value.int x)) (adm_s hf9), rl_o6 rfl hL2 (hfpN.trans hp9) hlen (num_c rfl rfl rfl rfl hn) (sg_c rfl hsg) (ls_c rfl hls) hqa rfl hB9 hO9 hT9 hR9⟩
                  · exact absurd c98 c78
                · refine aw_aload_n X dX10_open_81 rfl rfl ?_
                  refine aw_get X okX10 (k := 9) k0_ (Nat.le_of_ble_eq_true rfl) fl_X10_146 (Or.inl rfl) rfl dX10_open_82 ?_
                  refine aw_bipush X dX10_open_85 cb_6 ?_
                  refine aw_icmp_lt (tgt := 93) X dX10_open_87 rfl (fun c87 => ?_) (fun c87 => ?_)
                  · refine aw_aload X dX10_open_93 rfl ?_
                    refine aw_get X okX8 (k := 2) (hL.1 15 (M.2.2 34 rf.toNatClampNeg).toNatClampNeg hfl) (Nat.le_of_ble_eq_true rfl) fl_X10_133 (Or.inl rfl) rfl dX10_open_95 ?_
                    refine aw_if_ne (tgt := 116) X dX10_open_98 rfl (fun c98 => ?_) (fun c98 => ?_)
                    · exact absurd c78 c98
                    · refine aw_aload X dX10_open_101 rfl ?_
                      refine aw_callV X (kX8_make _ _ _ _ _ _ _ (hL.1 15 (M.2.2 34 rf.toNatClampNeg).toNatClampNeg hfl)) okm_X8_make okX8 (hL.1 15 (M.2.2 34 rf.toNatClampNeg).toNatClampNeg hfl) ml_X10_149 im_X8_make se_X8_X8_make rfl rfl (Nat.le_of_ble_eq_true rfl) ⟨Nat.le_of_ble_eq_true rfl, Nat.le_of_ble_eq_true rfl, Nat.le_of_ble_eq_true rfl, Nat.le_of_ble_eq_true rfl⟩ dX10_open_103 (fun v w2 hp => ?_)
                      obtain ⟨rfl, hw203⟩ := hp
                      have hk204 := (congrFun hw203 (ad 15 (M.2.2 34 rf.toNatClampNeg).toNatClampNeg)).trans wm_ups
                      have hk205 := ((congrFun hw203 (ad 0 0)).trans (wm_upn (rl_ne hL (t := 0) (i := 0) (t' := 15) (i' := (M.2.2 34 rf.toNatClampNeg).toNatClampNeg) (lvf 0 (by decide)) (hfl) (Or.inl rfl) (fun z => absurd z.1 (by decide))))).trans k0_
                      have hk206 := ((congrFun hw203 (ad 3 0)).trans (wm_upn (rl_ne hL (t := 3) (i := 0) (t' := 15) (i' := (M.2.2 34 rf.toNatClampNeg).toNatClampNeg) (lvf 3 (by decide)) (hfl) (Or.inl rfl) (fun z => absurd z.1 (by decide))))).trans k3_
                      have hk207 := ((congrFun hw203 (ad 4 0)).trans (wm_upn (rl_ne hL (t := 4) (i := 0) (t' := 15) (i' := (M.2.2 34 rf.toNatClampNeg).toNatClampNeg) (lvf 4 (by decide)) (hfl) (Or.inl rfl) (fun z => absurd z.1 (by decide))))).trans k4_
                      have hk208 := ((congrFun hw203 (ad 17 rf.toNatClampNeg)).trans (wm_upn (rl_ne hL (t := 17) (i := rf.toNatClampNeg) (t' := 15) (i' := (M.2.2 34 rf.toNatClampNeg).toNatClampNeg) (hri) (hfl) (Or.inl rfl) (fun z => absurd z.1 (by decide))))).trans (hL.1 17 rf.toNatClampNeg hri)
                      refine aw_aload_n X dX10_open_106 rfl rfl ?_
                      refine aw_dup X dX10_open_107 rfl ?_
                      refine aw_get X okX10 (k := 9) hk205 (Nat.le_of_ble_eq_true rfl) fl_X10_146 (Or.inl rfl) rfl dX10_open_108 ?_
                      refine aw_iconst X dX10_open_111 ci_1 ?_
                      refine aw_iadd X dX10_open_112 ?_
                      refine aw_put2 X okX10 (k := 9) (fs' := [.ref (ad 1 0), .ref (ad 2 0), .ref (ad 3 0), .ref (ad 4 0), .ref (ad 5 0), .ref (ad 6 0), va_rf (sAd M ad (M.1 20)), .int (M.1 7), .int (M.1 29), .int ((M.1 38) + 1), .int ((M.2.1 21).toInt32), .int ((M.2.1 22).toInt32), .int (M.1 5)]) hk205 (Nat.le_of_ble_eq_true rfl) fl_X10_146 (Or.inl rfl) rfl (rfl ) ( rfl) (Nat.le_of_ble_eq_true rfl) rfl dX10_open_113 (fun w209 hk210 hn211 he212 => ?_)
                      have hk213 := (hn211 _ (rl_ne hL (t := 3) (i := 0) (t' := 0) (i' := 0) (lvf 3 (by decide)) (lvf 0 (by decide)) (Or.inl rfl) (fun z => absurd z.1 (by decide)))).trans hk206
                      have hk214 := (hn211 _ (rl_ne hL (t := 4) (i := 0) (t' := 0) (i' := 0) (lvf 4 (by decide)) (lvf 0 (by decide)) (Or.inl rfl) (fun z => absurd z.1 (by decide)))).trans hk207
                      have hk215 := (hn211 _ (rl_ne hL (t := 17) (i := rf.toNatClampNeg) (t' := 0) (i' := 0) (hri) (lvf 0 (by decide)) (Or.inl rfl) (fun z => absurd z.1 (by decide)))).trans hk208
                      have hk216 := (hn211 _ (rl_ne hL (t := 15) (i := (M.2.2 34 rf.toNatClampNeg).toNatClampNeg) (t' := 0) (i' := 0) (hfl) (lvf 0 (by decide)) (Or.inl rfl) (fun z => absurd z.1 (by decide)))).trans hk204
                      refine aw_aload_n X dX10_open_116 rfl rfl ?_
                      refine aw_new2 X okX1 cl_X10_152 is_X1 in_X1 rfl (Nat.le_of_ble_eq_true rfl) (Nat.le_of_ble_eq_true rfl) dX10_open_117 (fun q217 w218 hf219 hk220 hn221 he222 => ?_)
                      have hk223 := (hn221 _ (ne_fr hk210 hf219)).trans hk210
                      have hk224 := (hn221 _ (ne_fr hk213 hf219)).trans hk213
                      have hk225 := (hn221 _ (ne_fr hk214 hf219)).trans hk214
                      have hk226 := (hn221 _ (ne_fr hk215 hf219)).trans hk215
                      have hk227 := (hn221 _ (ne_fr hk216 hf219)).trans hk216
                      refine aw_dup X dX10_open_120 rfl ?_
                      refine aw_aload X dX10_open_121 rfl ?_
                      refine aw_iload_n X dX10_open_123 rfl rfl ?_
                      refine aw_iload_n X dX10_open_124 rfl rfl ?_
                      refine aw_callI X (kX1_init _ _ _ q217 _ _ _ hwd hk220 _ _ _ hk227) okm_X1_init rfl ml_X10_154 im_X1_init rfl rfl (Nat.le_of_ble_eq_true rfl) ⟨Nat.le_of_ble_eq_true rfl, Nat.le_of_ble_eq_true rfl, Nat.le_of_ble_eq_true rfl, Nat.le_of_ble_eq_true rfl⟩ dX10_open_125 (fun v w2 hp => ?_)
                      obtain ⟨rfl, hk228, hk229, hb230⟩ := hp
                      have hk231 := (hb230 (ad 0 0) (ne_ci hk223 hk220 (by decide)) (rl_ne hL (t := 0) (i := 0) (t' := 15) (i' := (M.2.2 34 rf.toNatClampNeg).toNatClampNeg) (lvf 0 (by decide)) (hfl) (Or.inl rfl) (fun z => absurd z.1 (by decide)))).trans hk223
                      have hk232 := (hb230 (ad 3 0) (Ne.symm (ne_oa hk220 hk224)) (rl_ne hL (t := 3) (i := 0) (t' := 15) (i' := (M.2.2 34 rf.toNatClampNeg).toNatClampNeg) (lvf 3 (by decide)) (hfl) (Or.inl rfl) (fun z => absurd z.1 (by decide)))).trans hk224
                      have hk233 := (hb230 (ad 4 0) (Ne.symm (ne_oa hk220 hk225)) (rl_ne hL (t := 4) (i := 0) (t' := 15) (i' := (M.2.2 34 rf.toNatClampNeg).toNatClampNeg) (lvf 4 (by decide)) (hfl) (Or.inl rfl) (fun z => absurd z.1 (by decide)))).trans hk225
                      have hk234 := (hb230 (ad 17 rf.toNatClampNeg) (ne_ci hk226 hk220 (by decide)) (rl_ne hL (t := 17) (i := rf.toNatClampNeg) (t' := 15) (i' := (M.2.2 34 rf.toNatClampNeg).toNatClampNeg) (hri) (hfl) (Or.inl rfl) (fun z => absurd z.1 (by decide)))).trans hk226
                      have hL0 : RLa G (sF (sI (sF (sI M 0 0) 35 (M.2.2 34 rf.toNatClampNeg).toNatClampNeg 1) 38 (M.1 38 + 1)) 36 (M.2.2 34 rf.toNatClampNeg).toNatClampNeg 0) ad gi w209 := rl_make hL hfl hk216 hk210 (fun b h1 h2 => by rw [he212, wm_upn h2, hw203, wm_upn h1])
                      have hL1 : RLa G (sF (sI (sF (sI M 0 0) 35 (M.2.2 34 rf.toNatClampNeg).toNatClampNeg 1) 38 (M.1 38 + 1)) 36 (M.2.2 34 rf.toNatClampNeg).toNatClampNeg 0) ad gi w218 := rl_ext hL0 (fun c hc => by rw [he222, wm_upn (fun z => hc (by rw [z]; exact hf219))])
                      have hqa : ∀ t i, lvT (sF (sI (sF (sI M 0 0) 35 (M.2.2 34 rf.toNatClampNeg).toNatClampNeg 1) 38 (M.1 38 + 1)) 36 (M.2.2 34 rf.toNatClampNeg).toNatClampNeg 0) t i → q217 ≠ ad t i := fr_ad hL0 hf219
                      have hlen : bt ((sF (sI (sF (sI M 0 0) 35 (M.2.2 34 rf.toNatClampNeg).toNatClampNeg 1) 38 (M.1 38 + 1)) 36 (M.2.2 34 rf.toNatClampNeg).toNatClampNeg 0).2.2 36 (M.2.2 34 rf.toNatClampNeg).toNatClampNeg) 0 60 = true := by show bt (upd (M.2.2 36) _ 0 _) 0 60 = true; rw [upd_s]; rfl
                      have hfw : w2 (ad 15 (M.2.2 34 rf.toNatClampNeg).toNatClampNeg) = some (.inr (10, [.ref (ad 16 (M.2.2 34 rf.toNatClampNeg).toNatClampNeg), .int (fs_len mode wide ((sF (sI (sF (sI M 0 0) 35 (M.2.2 34 rf.toNatClampNeg).toNatClampNeg 1) 38 (M.1 38 + 1)) 36 (M.2.2 34 rf.toNatClampNeg).toNatClampNeg 0).2.2 36 (M.2.2 34 rf.toNatClampNeg).toNatClampNeg)), .int ((sF (sI (sF (sI M 0 0) 35 (M.2.2 34 rf.toNatClampNeg).toNatClampNeg 1) 38 (M.1 38 + 1)) 36 (M.2.2 34 rf.toNatClampNeg).toNatClampNeg 0).2.2 35 (M.2.2 34 rf.toNatClampNeg).toNatClampNeg)])) := by rw [show (sF (sI (sF (sI M 0 0) 35 (M.2.2 34 rf.toNatClampNeg).toNatClampNeg 1) 38 (M.1 38 + 1)) 36 (M.2.2 34 rf.toNatClampNeg).toNatClampNeg 0).2.2 36 (M.2.2 34 rf.toNatClampNeg).toNatClampNeg = 0 from upd_s, show (sF (sI (sF (sI M 0 0) 35 (M.2.2 34 rf.toNatClampNeg).toNatClampNeg 1) 38 (M.1 38 + 1)) 36 (M.2.2 34 rf.toNatClampNeg).toNatClampNeg 0).2.2 35 (M.2.2 34 rf.toNatClampNeg).toNatClampNeg = 1 from upd_s]; exact hk229
                      have hL2 := rl_o2 (mode := mode) (wide := wide) hL1 hqa (lv15_c (M := M) rfl rfl hfl) hfw (fun b h1 h2 => hb230 b h1 h2)
                      refine aw_callV X (kX10_admit _ _ _ _ _ _ hL2 hN _ _ _ _ hk228) okm_X10_admit okX10 hk231 ml_X10_120 im_X10_admit se_X10_X10_admit rfl rfl (Nat.le_of_ble_eq_true rfl) ⟨Nat.le_of_ble_eq_true rfl, Nat.le_of_ble_eq_true rfl, Nat.le_of_ble_eq_true rfl, Nat.le_of_ble_eq_true rfl⟩ dX10_open_128 (fun v w2 hp => ?_)
                      obtain ⟨rfl, hA9⟩ := hp
                      refine RTN (some (.int _)) _ _ _ _ _ dX10_open_131 (⟨_, rfl⟩) (Nat.le_of_ble_eq_true rfl) (Nat.le_of_ble_eq_true rfl) ?_
                      have enf : nI (M.2.2 34 rf.toNatClampNeg).toNatClampNeg = M.2.2 34 rf.toNatClampNeg := nI_cl (bt_iff.mp (hfi _ (by have := bt_iff.mp hrc; unfold isr at hri; omega))).1
                      have hfree : mo_free M rf mode = (((!decide (mode = 2)) || !decide (M.2.2 35 (M.2.2 34 rf.toNatClampNeg).toNatClampNeg = 0)) && !(List.range 8).any (blk M (M.2.2 34 rf.toNatClampNeg) mode)) := fr_eq 8
                      rw [enf] at c59
                      have hyes : mo_free M rf mode = true := by rw [hfree, Bool.eq_false_iff.mpr c59]; rw [decide_eq_false c41]; rfl
                      have hm : mo_open M rf mode wide = (M.1 7 + 1, mo_o6 (sF (sI (sF (sI M 0 0) 35 (M.2.2 34 rf.toNatClampNeg).toNatClampNeg 1) 38 (M.1 38 + 1)) 36 (M.2.2 34 rf.toNatClampNeg).toNatClampNeg 0) (M.2.2 34 rf.toNatClampNeg) mode wide (nI k9)) := by unfold mo_open; rw [if_pos c5, if_pos (Or.inr c22), if_pos hyes, if_neg (by rw [fp_oI hp9, i32_lt, nI_toInt (by omega)]; have e0 : (0 : Int32).toInt = 0 := rfl; omega), if_pos c98, if_neg (by intro h; rw [h] at c87; exact absurd c87 (by decide)), fp_oI hp9]
                      rw [hm]
                      have hfpN : mo_fp (sF (sI (sF (sI M 0 0) 35 (M.2.2 34 rf.toNatClampNeg).toNatClampNeg 1) 38 (M.1 38 + 1)) 36 (M.2.2 34 rf.toNatClampNeg).toNatClampNeg 0) = mo_fp M := fp_c rfl
                      have hfpN2 : mo_fp (mo_o3 (sF (sI (sF (sI M 0 0) 35 (M.2.2 34 rf.toNatClampNeg).toNatClampNeg 1) 38 (M.1 38 + 1)) 36 (M.2.2 34 rf.toNatClampNeg).toNatClampNeg 0) (M.2.2 34 rf.toNatClampNeg) mode wide) = mo_fp (sF (sI (sF (sI M 0 0) 35 (M.2.2 34 rf.toNatClampNeg).toNatClampNeg 1) 38 (M.1 38 + 1)) 36 (M.2.2 34 rf.toNatClampNeg).toNatClampNeg 0) := fp_c rfl
                      rcases hA9 with ⟨hf9, hw9⟩ | ⟨k, hf9, hO9, hB9, hT9, hR9⟩
                      · rw [hfpN2, hfpN, hp9] at hf9; cases hf9
                      · have ek : k = k9 := Option.some.inj (((hfpN2.trans hfpN).symm.trans hf9).symm.trans hp9)
                        subst ek
                        exact ⟨congrArg (fun x => some (Value.int x)) (adm_s hf9), rl_o6 upd_s hL2 (hfpN.trans hp9) hlen (num_c rfl rfl rfl rfl hn) (sg_c rfl hsg) (ls_c rfl hls) hqa rfl hB9 hO9 hT9 hR9⟩
                  · refine aw_bipush X dX10_open_90 cb_m5 ?_
                    refine RTN (some (.int _)) _ _ _ _ _ dX10_open_92 (⟨_, rfl⟩) (Nat.le_of_ble_eq_true rfl) (Nat.le_of_ble_eq_true rfl) ?_
                    have enf : nI (M.2.2 34 rf.toNatClampNeg).toNatClampNeg = M.2.2 34 rf.toNatClampNeg := nI_cl (bt_iff.mp (hfi _ (by have := bt_iff.mp hrc; unfold isr at hri; omega))).1
                    have hfree : mo_free M rf mode = (((!decide (mode = 2)) || !decide (M.2.2 35 (M.2.2 34 rf.toNatClampNeg).toNatClampNeg = 0)) && !(List.range 8).any (blk M (M.2.2 34 rf.toNatClampNeg) mode)) := fr_eq 8
                    rw [enf] at c59
                    have hyes : mo_free M rf mode = true := by rw [hfree, Bool.eq_false_iff.mpr c59]; rw [decide_eq_false c41]; rfl
                    have h38 : M.1 38 = 6 := by have := bt_iff.mp hft; rw [i32_eq]; rw [i32_lt] at c87; have e6 : (6 : Int32).toInt = 6 := rfl; omega
                    have hm : mo_open M rf mode wide = (-5, sI M 0 0) := by unfold mo_open; rw [if_pos c5, if_pos (Or.inr c22), if_pos hyes, if_neg (by rw [fp_oI hp9, i32_lt, nI_toInt (by omega)]; have e0 : (0 : Int32).toInt = 0 := rfl; omega), if_pos c78, if_pos h38]
                    rw [hm]
                    exact ⟨rfl, ad, gi, rl_0 hL, rfl⟩
          · rw [bI_n0] at c59
            refine aw_bipush X dX10_open_62 cb_m4 ?_
            refine RTN (some (.int _)) _ _ _ _ _ dX10_open_64 (⟨_, rfl⟩) (Nat.le_of_ble_eq_true rfl) (Nat.le_of_ble_eq_true rfl) ?_
            have enf : nI (M.2.2 34 rf.toNatClampNeg).toNatClampNeg = M.2.2 34 rf.toNatClampNeg := nI_cl (bt_iff.mp (hfi _ (by have := bt_iff.mp hrc; unfold isr at hri; omega))).1
            have hfree : mo_free M rf mode = (((!decide (mode = 2)) || !decide (M.2.2 35 (M.2.2 34 rf.toNatClampNeg).toNatClampNeg = 0)) && !(List.range 8).any (blk M (M.2.2 34 rf.toNatClampNeg) mode)) := fr_eq 8
            rw [enf] at c59
            have hm : mo_open M rf mode wide = (-4, sI M 0 0) := by unfold mo_open; rw [if_pos c5, if_pos (Or.inr c22), if_neg (by rw [hfree, c59, Bool.not_true, Bool.and_false]; decide)]
            rw [hm]
            exact ⟨rfl, ad, gi, rl_0 hL, rfl⟩
        · refine aw_aload X dX10_open_44 rfl ?_
          refine aw_get X okX8 (k := 2) (hL.1 15 (M.2.2 34 rf.toNatClampNeg).toNatClampNeg hfl) (Nat.le_of_ble_eq_true rfl) fl_X10_133 (Or.inl rfl) rfl dX10_open_46 ?_
          refine aw_if_eq (tgt := 62) X dX10_open_49 rfl (fun c49 => ?_) (fun c49 => ?_)
          · refine aw_bipush X dX10_open_62 cb_m4 ?_
            refine RTN (some (.int _)) _ _ _ _ _ dX10_open_64 (⟨_, rfl⟩) (Nat.le_of_ble_eq_true rfl) (Nat.le_of_ble_eq_true rfl) ?_
            have enf : nI (M.2.2 34 rf.toNatClampNeg).toNatClampNeg = M.2.2 34 rf.toNatClampNeg := nI_cl (bt_iff.mp (hfi _ (by have := bt_iff.mp hrc; unfold isr at hri; omega))).1
            have hfree : mo_free M rf mode = (((!decide (mode = 2)) || !decide (M.2.2 35 (M.2.2 34 rf.toNatClampNeg).toNatClampNeg = 0)) && !(List.range 8).any (blk M (M.2.2 34 rf.toNatClampNeg) mode)) := fr_eq 8
            have hm : mo_open M rf mode wide = (-4, sI M 0 0) := by unfold mo_open; rw [if_pos c5, if_pos (Or.inr c22), if_neg (by rw [hfree, decide_eq_true c41, decide_eq_true c49]; exact Bool.false_ne_true)]
            rw [hm]
            exact ⟨rfl, ad, gi, rl_0 hL, rfl⟩
          · refine aw_aload_n X dX10_open_52 rfl rfl ?_
            refine aw_aload X dX10_open_53 rfl ?_
            refine aw_iload_n X dX10_open_55 rfl rfl ?_
            refine aw_callV X (kX10_isInTheWay _ _ _ _ _ _ hL hsf hrc _ hfl _) okm_X10_isInTheWay okX10 k0_ ml_X10_138 im_X10_isInTheWay se_X10_X10_isInTheWay rfl rfl (Nat.le_of_ble_eq_true rfl) ⟨Nat.le_of_ble_eq_true rfl, Nat.le_of_ble_eq_true rfl, Nat.le_of_ble_eq_true rfl, Nat.le_of_ble_eq_true rfl⟩ dX10_open_56 (fun v w2 hp => ?_)
            obtain ⟨rfl, hw9⟩ := hp
            have hw9 := hw9.symm
            subst hw9
            refine aw_if_eq (tgt := 65) X dX10_open_59 rfl (fun c59 => ?_) (fun c59 => ?_)
            · rw [bI_0] at c59
              refine aw_aload_n X dX10_open_65 rfl rfl ?_
              refine aw_callV X (kX10_freeSlot _ _ _ _ _ _ hL hN) okm_X10_freeSlot okX10 k0_ ml_X10_142 im_X10_freeSlot se_X10_X10_freeSlot rfl rfl (Nat.le_of_ble_eq_true rfl) ⟨Nat.le_of_ble_eq_true rfl, Nat.le_of_ble_eq_true rfl, Nat.le_of_ble_eq_true rfl, Nat.le_of_ble_eq_true rfl⟩ dX10_open_66 (fun v w2 hp => ?_)
              obtain ⟨rfl, hw9⟩ := hp
              have hw9 := hw9.symm
              subst hw9
              rcases hp9 : mo_fp M with _ | k9
              · rw [show oI (none : Option Nat) = -1 from rfl]
                refine aw_iconst X dX10_open_69 ci_m1 ?_
                refine aw_icmp_eq (tgt := 90) X dX10_open_70 rfl (fun c70 => ?_) (fun c70 => ?_)
                · refine aw_bipush X dX10_open_90 cb_m5 ?_
                  refine RTN (some (.int _)) _ _ _ _ _ dX10_open_92 (⟨_, rfl⟩) (Nat.le_of_ble_eq_true rfl) (Nat.le_of_ble_eq_true rfl) ?_
                  have enf : nI (M.2.2 34 rf.toNatClampNeg).toNatClampNeg = M.2.2 34 rf.toNatClampNeg := nI_cl (bt_iff.mp (hfi _ (by have := bt_iff.mp hrc; unfold isr at hri; omega))).1
                  have hfree : mo_free M rf mode = (((!decide (mode = 2)) || !decide (M.2.2 35 (M.2.2 34 rf.toNatClampNeg).toNatClampNeg = 0)) && !(List.range 8).any (blk M (M.2.2 34 rf.toNatClampNeg) mode)) := fr_eq 8
                  rw [enf] at c59
                  have hyes : mo_free M rf mode = true := by rw [hfree, Bool.eq_false_iff.mpr c59]; rw [decide_eq_false c49]; cases decide (mode = 2) <;> rfl
                  have hm : mo_open M rf mode wide = (-5, sI M 0 0) := by unfold mo_open; rw [if_pos c5, if_pos (Or.inr c22), if_pos hyes, if_pos (by rw [show mo_fp (sI M 0 0) = none from hp9]; decide)]
                  rw [hm]
                  exact ⟨rfl, ad, gi, rl_0 hL, rfl⟩
                · exact absurd c70 (by decide)
              · rw [show oI (some k9) = nI k9 from rfl]
                have ho9 := (fp_some hp9).1
                refine aw_iconst X dX10_open_69 ci_m1 ?_
                refine aw_icmp_eq (tgt := 90) X dX10_open_70 rfl (fun c70 => ?_) (fun c70 => ?_)
                · exact absurd c70 (oI_n1 (x := some k9) rfl (by omega))
                · refine aw_aload X dX10_open_73 rfl ?_
                  refine aw_get X okX8 (k := 2) (hL.1 15 (M.2.2 34 rf.toNatClampNeg).toNatClampNeg hfl) (Nat.le_of_ble_eq_true rfl) fl_X10_133 (Or.inl rfl) rfl dX10_open_75 ?_
                  refine aw_if_ne (tgt := 93) X dX10_open_78 rfl (fun c78 => ?_) (fun c78 => ?_)
                  · refine aw_aload X dX10_open_93 rfl ?_
                    refine aw_get X okX8 (k := 2) (hL.1 15 (M.2.2 34 rf.toNatClampNeg).toNatClampNeg hfl) (Nat.le_of_ble_eq_true rfl) fl_X10_133 (Or.inl rfl) rfl dX10_open_95 ?_
                    refine aw_if_ne (tgt := 116) X dX10_open_98 rfl (fun c98 => ?_) (fun c98 => ?_)
                    · refine aw_aload_n X dX10_open_116 rfl rfl ?_
                      refine aw_new2 X okX1 cl_X10_152 is_X1 in_X1 rfl (Nat.le_of_ble_eq_true rfl) (Nat.le_of_ble_eq_true rfl) dX10_open_117 (fun q235 w236 hf237 hk238 hn239 he240 => ?_)
                      have hk241 := (hn239 _ (ne_fr k0_ hf237)).trans k0_
                      have hk242 := (hn239 _ (ne_fr k3_ hf237)).trans k3_
                      have hk243 := (hn239 _ (ne_fr k4_ hf237)).trans k4_
                      have hk244 := (hn239 _ (ne_fr (hL.1 17 rf.toNatClampNeg hri) hf237)).trans (hL.1 17 rf.toNatClampNeg hri)
                      have hk245 := (hn239 _ (ne_fr (hL.1 15 (M.2.2 34 rf.toNatClampNeg).toNatClampNeg hfl) hf237)).trans (hL.1 15 (M.2.2 34 rf.toNatClampNeg).toNatClampNeg hfl)
                      refine aw_dup X dX10_open_120 rfl ?_
                      refine aw_aload X dX10_open_121 rfl ?_
                      refine aw_iload_n X dX10_open_123 rfl rfl ?_
                      refine aw_iload_n X dX10_open_124 rfl rfl ?_
                      refine aw_callI X (kX1_init _ _ _ q235 _ _ _ hwd hk238 _ _ _ hk245) okm_X1_init rfl ml_X10_154 im_X1_init rfl rfl (Nat.le_of_ble_eq_true rfl) ⟨Nat.le_of_ble_eq_true rfl, Nat.le_of_ble_eq_true rfl, Nat.le_of_ble_eq_true rfl, Nat.le_of_ble_eq_true rfl⟩ dX10_open_125 (fun v w2 hp => ?_)
                      obtain ⟨rfl, hk246, hk247, hb248⟩ := hp
                      have hk249 := (hb248 (ad 0 0) (ne_ci hk241 hk238 (by decide)) (rl_ne hL (t := 0) (i := 0) (t' := 15) (i' := (M.2.2 34 rf.toNatClampNeg).toNatClampNeg) (lvf 0 (by decide)) (hfl) (Or.inl rfl) (fun z => absurd z.1 (by decide)))).trans hk241
                      have hk250 := (hb248 (ad 3 0) (Ne.symm (ne_oa hk238 hk242)) (rl_ne hL (t := 3) (i := 0) (t' := 15) (i' := (M.2.2 34 rf.toNatClampNeg).toNatClampNeg) (lvf 3 (by decide)) (hfl) (Or.inl rfl) (fun z => absurd z.1 (by decide)))).trans hk242
                      have hk251 := (hb248 (ad 4 0) (Ne.symm (ne_oa hk238 hk243)) (rl_ne hL (t := 4) (i := 0) (t' := 15) (i' := (M.2.2 34 rf.toNatClampNeg).toNatClampNeg) (lvf 4 (by decide)) (hfl) (Or.inl rfl) (fun z => absurd z.1 (by decide)))).trans hk243
                      have hk252 := (hb248 (ad 17 rf.toNatClampNeg) (ne_ci hk244 hk238 (by decide)) (rl_ne hL (t := 17) (i := rf.toNatClampNeg) (t' := 15) (i' := (M.2.2 34 rf.toNatClampNeg).toNatClampNeg) (hri) (hfl) (Or.inl rfl) (fun z => absurd z.1 (by decide)))).trans hk244
                      have hL1 : RLa G (sI M 0 0) ad gi w236 := rl_ext (rl_0 hL) (fun c hc => by rw [he240, wm_upn (fun z => hc (by rw [z]; exact hf237))])
                      have hqa : ∀ t i, lvT (sI M 0 0) t i → q235 ≠ ad t i := fr_ad (rl_0 hL) hf237
                      have hlen : bt ((sI M 0 0).2.2 36 (M.2.2 34 rf.toNatClampNeg).toNatClampNeg) 0 60 = true := hby _ (by have h1 : isr M (M.2.2 34 rf.toNatClampNeg).toNatClampNeg := hfl.1; have h2 := bt_iff.mp hrc; unfold isr at h1; omega)
                      have hfw : w2 (ad 15 (M.2.2 34 rf.toNatClampNeg).toNatClampNeg) = some (.inr (10, [.ref (ad 16 (M.2.2 34 rf.toNatClampNeg).toNatClampNeg), .int (fs_len mode wide ((sI M 0 0).2.2 36 (M.2.2 34 rf.toNatClampNeg).toNatClampNeg)), .int ((sI M 0 0).2.2 35 (M.2.2 34 rf.toNatClampNeg).toNatClampNeg)])) := hk247
                      have hL2 := rl_o2 (mode := mode) (wide := wide) hL1 hqa (lv15_c (M := M) rfl rfl hfl) hfw (fun b h1 h2 => hb248 b h1 h2)
                      refine aw_callV X (kX10_admit _ _ _ _ _ _ hL2 hN _ _ _ _ hk246) okm_X10_admit okX10 hk249 ml_X10_120 im_X10_admit se_X10_X10_admit rfl rfl (Nat.le_of_ble_eq_true rfl) ⟨Nat.le_of_ble_eq_true rfl, Nat.le_of_ble_eq_true rfl, Nat.le_of_ble_eq_true rfl, Nat.le_of_ble_eq_true rfl⟩ dX10_open_128 (fun v w2 hp => ?_)
                      obtain ⟨rfl, hA9⟩ := hp
                      refine RTN (some (.int _)) _ _ _ _ _ dX10_open_131 (⟨_, rfl⟩) (Nat.le_of_ble_eq_true rfl) (Nat.le_of_ble_eq_true rfl) ?_
                      have enf : nI (M.2.2 34 rf.toNatClampNeg).toNatClampNeg = M.2.2 34 rf.toNatClampNeg := nI_cl (bt_iff.mp (hfi _ (by have := bt_iff.mp hrc; unfold isr at hri; omega))).1
                      have hfree : mo_free M rf mode = (((!decide (mode = 2)) || !decide (M.2.2 35 (M.2.2 34 rf.toNatClampNeg).toNatClampNeg = 0)) && !(List.range 8).any (blk M (M.2.2 34 rf.toNatClampNeg) mode)) := fr_eq 8
                      rw [enf] at c59
                      have hyes : mo_free M rf mode = true := by rw [hfree, Bool.eq_false_iff.mpr c59]; rw [decide_eq_false c49]; cases decide (mode = 2) <;> rfl
                      have hm : mo_open M rf mode wide = (M.1 7 + 1, mo_o6 (sI M 0 0) (M.2.2 34 rf.toNatClampNeg) mode wide (nI k9)) := by unfold mo_open; rw [if_pos c5, if_pos (Or.inr c22), if_pos hyes, if_neg (by rw [fp_oI hp9, i32_lt, nI_toInt (by omega)]; have e0 : (0 : Int32).toInt = 0 := rfl; omega), if_neg c98, fp_oI hp9]
                      rw [hm]
                      have hfpN : mo_fp (sI M 0 0) = mo_fp M := fp_c rfl
                      have hfpN2 : mo_fp (mo_o3 (sI M 0 0) (M.2.2 34 rf.toNatClampNeg) mode wide) = mo_fp (sI M 0 0) := fp_c rfl
                      rcases hA9 with ⟨hf9, hw9⟩ | ⟨k, hf9, hO9, hB9, hT9, hR9⟩
                      · rw [hfpN2, hfpN, hp9] at hf9; cases hf9
                      · have ek : k = k9 := Option.some.inj (((hfpN2.trans hfpN).symm.trans hf9).symm.trans hp9)
                        subst ek
                        exact ⟨congrArg (fun x => some (Value.int x)) (adm_s hf9), rl_o6 rfl hL2 (hfpN.trans hp9) hlen (num_c rfl rfl rfl rfl hn) (sg_c rfl hsg) (ls_c rfl hls) hqa rfl hB9 hO9 hT9 hR9⟩
                    · exact absurd c98 c78
                  · exact absurd c78 c49
            · rw [bI_n0] at c59
              refine aw_bipush X dX10_open_62 cb_m4 ?_
              refine RTN (some (.int _)) _ _ _ _ _ dX10_open_64 (⟨_, rfl⟩) (Nat.le_of_ble_eq_true rfl) (Nat.le_of_ble_eq_true rfl) ?_
              have enf : nI (M.2.2 34 rf.toNatClampNeg).toNatClampNeg = M.2.2 34 rf.toNatClampNeg := nI_cl (bt_iff.mp (hfi _ (by have := bt_iff.mp hrc; unfold isr at hri; omega))).1
              have hfree : mo_free M rf mode = (((!decide (mode = 2)) || !decide (M.2.2 35 (M.2.2 34 rf.toNatClampNeg).toNatClampNeg = 0)) && !(List.range 8).any (blk M (M.2.2 34 rf.toNatClampNeg) mode)) := fr_eq 8
              rw [enf] at c59
              have hm : mo_open M rf mode wide = (-4, sI M 0 0) := by unfold mo_open; rw [if_pos c5, if_pos (Or.inr c22), if_neg (by rw [hfree, c59, Bool.not_true, Bool.and_false]; decide)]
              rw [hm]
              exact ⟨rfl, ad, gi, rl_0 hL, rfl⟩
      · refine aw_bipush X dX10_open_25 cb_m3 ?_
        refine RTN (some (.int _)) _ _ _ _ _ dX10_open_27 (⟨_, rfl⟩) (Nat.le_of_ble_eq_true rfl) (Nat.le_of_ble_eq_true rfl) ?_
        have hm : mo_open M rf mode wide = (-3, sI M 0 0) := by simp only [mo_open, c5, c17, c22, if_true, if_false, not_true_eq_false, not_false_eq_true, and_self, true_and, and_true, false_and, and_false, or_true, true_or, or_false, false_or, reduceCtorEq, ne_eq, va_us, pk_us]
        rw [hm]
        exact ⟨rfl, ad, gi, rl_0 hL, rfl⟩
  · rw [bI_0] at c5
    refine aw_bipush X dX10_open_8 cb_m2 ?_
    refine RTN (some (.int _)) _ _ _ _ _ dX10_open_10 (⟨_, rfl⟩) (Nat.le_of_ble_eq_true rfl) (Nat.le_of_ble_eq_true rfl) ?_
    have hm : mo_open M rf mode wide = (-2, sI M 0 0) := by simp only [mo_open, c5, if_true, if_false, not_true_eq_false, not_false_eq_true, and_self, true_and, and_true, false_and, and_false, or_true, true_or, or_false, false_or, reduceCtorEq, ne_eq, va_us, pk_us]
    rw [hm]
    exact ⟨rfl, ad, gi, rl_0 hL, rfl⟩
