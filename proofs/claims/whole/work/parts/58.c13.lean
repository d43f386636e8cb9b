/-! slots and numbers -/
theorem lvf {M : MS} (t : Nat) (h : t ≤ 10) : lvT M t 0 := by
  match t, h with
  | 0, h => exact ⟨h, rfl⟩
  | 1, h => exact ⟨h, rfl⟩
  | 2, h => exact ⟨h, rfl⟩
  | 3, h => exact ⟨h, rfl⟩
  | 4, h => exact ⟨h, rfl⟩
  | 5, h => exact ⟨h, rfl⟩
  | 6, h => exact ⟨h, rfl⟩
  | 7, h => exact ⟨h, rfl⟩
  | 8, h => exact ⟨h, rfl⟩
  | 9, h => exact ⟨h, rfl⟩
  | 10, h => exact ⟨h, rfl⟩
theorem rl_st {G : GG} {M : MS} {ad : AD} {gi : GI} {w : WM} (hL : RLa G M ad gi w) {k : Nat} (h : opn M k) : w (ad 13 k) = some (sC (cSI M gi k) (sAd M ad (M.2.2 17 k)) (cX M ad k)) := hL.1 13 k h
theorem cS_some {M : MS} {ad : AD} {k a : Nat} (h : cS M ad k = some a) : a = ad 13 k ∧ opn M k := by
  unfold cS at h
  split at h
  · rename_i h1; exact ⟨(Option.some.inj h).symm, h1⟩
  · cases h
theorem cS_none {M : MS} {ad : AD} {k : Nat} (h : cS M ad k = none) (hk : k < 8) : ¬ 0 < M.2.2 6 k := by
  unfold cS at h
  split at h
  · cases h
  · rename_i h1; exact fun z => h1 ⟨hk, z⟩
def mi_nn (M : MS) : Prop := ∀ k, k < 8 → 0 ≤ M.2.2 6 k
theorem nn_0 {x : Int32} (h : 0 ≤ x) (h1 : ¬ 0 < x) : x = 0 := by
  rw [i32_le] at h
  rw [i32_lt] at h1
  rw [i32_eq]
  omega
theorem nn_n {x : Int32} (h : 0 < x) : ¬ x = 0 := by
  intro z
  rw [z] at h
  exact absurd h (by decide)
theorem aw_aaldn {G : GG} {p : Program} {l : Launch} {e : Env} {R : Room} {s : State} {m : MethodId} {args : Array Value} {below : List Frame} {meth : Method} {c : Code} {nL : Nat} {A : Nat → Prop} {H0 : Heap} {Q : State → Prop} {w : WM} {cells slots pc : Nat} {lv : List (Nat × Value)} {rest : List Value} {cc : ByteArray} {own : String} {a n j : Nat} (X : Cx G p s m args meth c A H0 cc nL own) (t0 : Nat) {cA : ClassId} {C : String} {f : Nat → Option Nat} (hw : w a = some (rA cA n f)) (ht : (gT G)[t0]? = some (cA, .object C)) (hj : j < n) (hn : n < 2 ^ 31) (hdg : decode cc pc = .ok (.aaload, 1))
    (kk : AW G p l e R s m args below meth c nL A H0 Q w cells slots (pc + 1) lv (va_rf (f j) :: rest)) : AW G p l e R s m args below meth c nL A H0 Q w cells slots pc lv (.int (nI j) :: .ref a :: rest) := by
  refine aw_aald X t0 hw ht (vp_in_nI hj (by omega)) hdg ?_
  rw [nI_clamp (by omega)]
  exact kk
set_option maxRecDepth 100000 in
set_option maxHeartbeats 4000000 in
theorem kX10_freeSlot (G : GG) (l : Launch) (M : MS) (ad : AD) (gi : GI) (w : WM) (hL : RLa G M ad gi w) (hN : mi_nn M) : MC G l yX10_freeSlot cX10_freeSlot 2 ((Option.some .int)) ({ frames := 0, cells := 0, slots := 0, locals := 0 } : Room) [.ref (ad 0 0)] w (fun v w' => v = some (.int (oI (mo_fp M))) ∧ w' = w) := by
  refine mc_int (by decide) (Nat.le_of_ble_eq_true rfl) rfl rfl ?_
  intro p e s m args below meth c A H0 Q X hnm RTN
  have X : Cx G p s m args meth c A H0 cX10_freeSlot 2 RX10 := X
  have k0_ : w (ad 0 0) = some (.inr (11, [.ref (ad 1 0), .ref (ad 2 0), .ref (ad 3 0), .ref (ad 4 0), .ref (ad 5 0), .ref (ad 6 0), va_rf (sAd M ad (M.1 20)), .int (M.1 7), .int (M.1 29), .int (M.1 38), .int ((M.2.1 21).toInt32), .int ((M.2.1 22).toInt32), .int (M.1 5)])) := hL.1 0 0 (lvf 0 (by decide))
  have k3_ : w (ad 3 0) = some (rA (gA G 5) 8 (cS M ad)) := hL.1 3 0 (lvf 3 (by decide))
  have L : ∀ (nn : Nat) (i : Nat) (x : Int32), (x = nI i) → (i ≤ 8) → (∀ j, j < i → ¬ M.2.2 6 j = 0) → (9 ≤ i + nn) → AW G p l e ({ frames := 0, cells := 0, slots := 0, locals := 0 } : Room) s m args below meth c 2 A H0 Q w 0 0 2 [(1, .int x), (0, .ref (ad 0 0))] [] := by
    intro nn
    induction nn with
    | zero => intro i x hx h1 hb h2; exact absurd h2 (by omega)
    | succ nn ih =>
      intro i x hx h1 hb h2
      subst hx
      refine aw_iload_n X dX10_freeSlot_2 rfl rfl ?_
      refine aw_bipush X dX10_freeSlot_3 cb_8 ?_
      refine aw_icmp_ge (tgt := 25) X dX10_freeSlot_5 rfl (fun c5 => ?_) (fun c5 => ?_)
      · have h9 : i = 8 := by have := ge_i (N := 8) rfl (by omega) (by decide) c5; omega
        subst h9
        refine aw_iconst X dX10_freeSlot_25 ci_m1 ?_
        refine RTN (some (.int _)) _ _ _ _ _ dX10_freeSlot_26 (⟨_, rfl⟩) (Nat.le_of_ble_eq_true rfl) (Nat.le_of_ble_eq_true rfl) ?_
        exact ⟨by rw [show mo_fp M = none from fr_none (fun j hj => decide_eq_false (hb j hj))]; rfl, rfl⟩
      · have h9 : i < 8 := lt_i (N := 8) rfl (by omega) (by decide) c5
        refine aw_aload_n X dX10_freeSlot_8 rfl rfl ?_
        refine aw_get X okX10 (k := 2) k0_ (Nat.le_of_ble_eq_true rfl) fl_X10_22 (Or.inl rfl) rfl dX10_freeSlot_9 ?_
        refine aw_iload_n X dX10_freeSlot_12 rfl rfl ?_
        refine aw_aaldn X 5 (j := i) k3_ rfl (h9) (by decide) dX10_freeSlot_13 ?_
        rcases hr1 : (cS M ad) i with _ | a2
        · refine aw_ifnonnullN X dX10_freeSlot_14 ?_
          refine aw_iload_n X dX10_freeSlot_17 rfl rfl ?_
          refine RTN (some (.int _)) _ _ _ _ _ dX10_freeSlot_18 (⟨_, rfl⟩) (Nat.le_of_ble_eq_true rfl) (Nat.le_of_ble_eq_true rfl) ?_
          exact ⟨by rw [show mo_fp M = some i from fr_some h9 (fun j hj => decide_eq_false (hb j hj)) (decide_eq_true (nn_0 (hN i h9) (cS_none hr1 h9)))]; rfl, rfl⟩
        · obtain ⟨he3, ho4⟩ := cS_some hr1
          subst he3
          refine aw_ifnonnull (tgt := 19) X dX10_freeSlot_14 rfl ?_
          refine aw_iinc (lv' := [(1, _), (0, _)]) X dX10_freeSlot_19 rfl (iinc_1 _) (by decide) rfl ?_
          refine aw_goto (tgt := 2) X dX10_freeSlot_22 rfl ?_
          refine aw_lv [0, 1] rfl ?_
          exact ih (i + 1) _ (nI_1 i) (by omega) (fun j hj => by rcases Nat.lt_or_eq_of_le (Nat.le_of_lt_succ hj) with h | h; exact hb j h; rw [h]; exact nn_n ho4.2) (by omega)
  refine aw_iconst X dX10_freeSlot_0 ci_0 ?_
  refine aw_istore_n (lv' := [(1, _), (0, _)]) X dX10_freeSlot_1 rfl (by decide) rfl ?_
  refine aw_lv [0, 1] rfl ?_
  exact L 9 0 _ rfl (by omega) (fun j hj => absurd hj (Nat.not_lt_zero j)) (by omega)
set_option maxRecDepth 100000 in
set_option maxHeartbeats 4000000 in
theorem kX10_slotOf (G : GG) (l : Launch) (M : MS) (ad : AD) (gi : GI) (w : WM) (hL : RLa G M ad gi w) (t : Int32) : MC G l yX10_slotOf cX10_slotOf 3 ((Option.some .int)) ({ frames := 0, cells := 0, slots := 0, locals := 0 } : Room) [.ref (ad 0 0), .int t] w (fun v w' => v = some (.int (oI (mo_pl M t))) ∧ w' = w) := by
  refine mc_int (by decide) (Nat.le_of_ble_eq_true rfl) rfl rfl ?_
  intro p e s m args below meth c A H0 Q X hnm RTN
  have X : Cx G p s m args meth c A H0 cX10_slotOf 3 RX10 := X
  have k0_ : w (ad 0 0) = some (.inr (11, [.ref (ad 1 0), .ref (ad 2 0), .ref (ad 3 0), .ref (ad 4 0), .ref (ad 5 0), .ref (ad 6 0), va_rf (sAd M ad (M.1 20)), .int (M.1 7), .int (M.1 29), .int (M.1 38), .int ((M.2.1 21).toInt32), .int ((M.2.1 22).toInt32), .int (M.1 5)])) := hL.1 0 0 (lvf 0 (by decide))
  have k3_ : w (ad 3 0) = some (rA (gA G 5) 8 (cS M ad)) := hL.1 3 0 (lvf 3 (by decide))
  have L : ∀ (nn : Nat) (i : Nat) (x : Int32), (x = nI i) → (i ≤ 8) → (∀ j, j < i → (decide (0 < t) && decide (M.2.2 6 j = t)) = false) → (9 ≤ i + nn) → AW G p l e ({ frames := 0, cells := 0, slots := 0, locals := 0 } : Room) s m args below meth c 3 A H0 Q w 0 0 2 [(2, .int x), (0, .ref (ad 0 0)), (1, .int t)] [] := by
    intro nn
    induction nn with
    | zero => intro i x hx h1 hb h2; exact absurd h2 (by omega)
    | succ nn ih =>
      intro i x hx h1 hb h2
      subst hx
      refine aw_iload_n X dX10_slotOf_2 rfl rfl ?_
      refine aw_bipush X dX10_slotOf_3 cb_8 ?_
      refine aw_icmp_ge (tgt := 38) X dX10_slotOf_5 rfl (fun c5 => ?_) (fun c5 => ?_)
      · have h9 : i = 8 := by have := ge_i (N := 8) rfl (by omega) (by decide) c5; omega
        subst h9
        refine aw_iconst X dX10_slotOf_38 ci_m1 ?_
        refine RTN (some (.int _)) _ _ _ _ _ dX10_slotOf_39 (⟨_, rfl⟩) (Nat.le_of_ble_eq_true rfl) (Nat.le_of_ble_eq_true rfl) ?_
        exact ⟨by rw [show mo_pl M t = none from fr_none hb]; rfl, rfl⟩
      · have h9 : i < 8 := lt_i (N := 8) rfl (by omega) (by decide) c5
        refine aw_aload_n X dX10_slotOf_8 rfl rfl ?_
        refine aw_get X okX10 (k := 2) k0_ (Nat.le_of_ble_eq_true rfl) fl_X10_22 (Or.inl rfl) rfl dX10_slotOf_9 ?_
        refine aw_iload_n X dX10_slotOf_12 rfl rfl ?_
        refine aw_aaldn X 5 (j := i) k3_ rfl (h9) (by decide) dX10_slotOf_13 ?_
        rcases hr5 : (cS M ad) i with _ | a6
        · refine aw_ifnullN (tgt := 32) X dX10_slotOf_14 rfl ?_
          refine aw_iinc (lv' := [(2, _), (0, _), (1, _)]) X dX10_slotOf_32 rfl (iinc_1 _) (by decide) rfl ?_
          refine aw_goto (tgt := 2) X dX10_slotOf_35 rfl ?_
          refine aw_lv [0, 1, 2] rfl ?_
          exact ih (i + 1) _ (nI_1 i) (by omega) (fun j hj => by rcases Nat.lt_or_eq_of_le (Nat.le_of_lt_succ hj) with h | h; exact hb j h; rw [h]; exact Bool.eq_false_iff.mpr (fun z => absurd (by have z1 := (Bool.and_eq_true _ _).mp z; rw [of_decide_eq_true z1.2]; exact of_decide_eq_true z1.1) (cS_none hr5 h9))) (by omega)
        · obtain ⟨he7, ho8⟩ := cS_some hr5
          subst he7
          refine aw_ifnull X dX10_slotOf_14 ?_
          refine aw_aload_n X dX10_slotOf_17 rfl rfl ?_
          refine aw_get X okX10 (k := 2) k0_ (Nat.le_of_ble_eq_true rfl) fl_X10_22 (Or.inl rfl) rfl dX10_slotOf_18 ?_
          refine aw_iload_n X dX10_slotOf_21 rfl rfl ?_
          refine aw_aaldn X 5 (j := i) k3_ rfl (h9) (by decide) dX10_slotOf_22 ?_
          rw [hr5]
          refine aw_getS X (k := 3) (v := .int (M.2.2 6 i)) (rl_st hL ho8) (by decide) fl_X10_240 rfl dX10_slotOf_23 ?_
          refine aw_iload_n X dX10_slotOf_26 rfl rfl ?_
          refine aw_icmp_ne (tgt := 32) X dX10_slotOf_27 rfl (fun c27 => ?_) (fun c27 => ?_)
          · refine aw_iinc (lv' := [(2, _), (0, _), (1, _)]) X dX10_slotOf_32 rfl (iinc_1 _) (by decide) rfl ?_
            refine aw_goto (tgt := 2) X dX10_slotOf_35 rfl ?_
            refine aw_lv [0, 1, 2] rfl ?_
            exact ih (i + 1) _ (nI_1 i) (by omega) (fun j hj => by rcases Nat.lt_or_eq_of_le (Nat.le_of_lt_succ hj) with h | h; exact hb j h; rw [h]; exact Bool.eq_false_iff.mpr (fun z => c27 (of_decide_eq_true ((Bool.and_eq_true _ _).mp z).2))) (by omega)
          · refine aw_iload_n X dX10_slotOf_30 rfl rfl ?_
            refine RTN (some (.int _)) _ _ _ _ _ dX10_slotOf_31 (⟨_, rfl⟩) (Nat.le_of_ble_eq_true rfl) (Nat.le_of_ble_eq_true rfl) ?_
            exact ⟨by rw [show mo_pl M t = some i from fr_some h9 hb (by rw [Bool.and_eq_true]; exact ⟨decide_eq_true (by rw [← c27]; exact ho8.2), decide_eq_true c27⟩)]; rfl, rfl⟩
  refine aw_iconst X dX10_slotOf_0 ci_0 ?_
  refine aw_istore_n (lv' := [(2, _), (0, _), (1, _)]) X dX10_slotOf_1 rfl (by decide) rfl ?_
  refine aw_lv [0, 1, 2] rfl ?_
  exact L 9 0 _ rfl (by omega) (fun j hj => absurd hj (Nat.not_lt_zero j)) (by omega)
theorem pl_opn {M : MS} {t : Int32} {k : Nat} (h : mo_pl M t = some k) : opn M k ∧ M.2.2 6 k = t := by
  unfold mo_pl at h
  have h1 := List.find?_some h
  have h2 := List.mem_range.mp (List.mem_of_find?_eq_some h)
  rw [Bool.and_eq_true] at h1
  have h3 := of_decide_eq_true h1.2
  exact ⟨⟨h2, by rw [h3]; exact of_decide_eq_true h1.1⟩, h3⟩
theorem oI_m1 {x : Option Nat} (h : x = none) : oI x = -1 := by rw [h]; rfl
theorem pl_lt {M : MS} {t : Int32} {k : Nat} (h : mo_pl M t = some k) : k < 8 := (pl_opn h).1.1
theorem oI_n1 {x : Option Nat} {k : Nat} (h : x = some k) (hk : k < 2 ^ 31) : ¬ oI x = -1 := by
  rw [h]
  intro z
  have h1 := (i32_eq _ _).mp z
  rw [show oI (some k) = nI k from rfl, nI_toInt hk] at h1
  have e : (-1 : Int32).toInt = -1 := rfl
  omega
theorem cS_opn {M : MS} {ad : AD} {k : Nat} (h : opn M k) : cS M ad k = some (ad 13 k) := if_pos h
set_option maxRecDepth 100000 in
set_option maxHeartbeats 4000000 in
theorem kX10_streamOf (G : GG) (l : Launch) (M : MS) (ad : AD) (gi : GI) (w : WM) (hL : RLa G M ad gi w) (t : Int32) : MC G l yX10_streamOf cX10_streamOf 3 ((Option.some (.object "GlkStreams$Stream"))) ({ frames := 1, cells := 0, slots := 0, locals := 22 } : Room) [.ref (ad 0 0), .int t] w (fun v w' => v = some (va_rf (sAd M ad t)) ∧ w' = w) := by
  refine mc_ref (by decide) (Nat.le_of_ble_eq_true rfl) rfl rfl (Or.inl ⟨_, rfl⟩) ?_
  intro p e s m args below meth c A H0 Q X hnm RTN
  have X : Cx G p s m args meth c A H0 cX10_streamOf 3 RX10 := X
  have k0_ : w (ad 0 0) = some (.inr (11, [.ref (ad 1 0), .ref (ad 2 0), .ref (ad 3 0), .ref (ad 4 0), .ref (ad 5 0), .ref (ad 6 0), va_rf (sAd M ad (M.1 20)), .int (M.1 7), .int (M.1 29), .int (M.1 38), .int ((M.2.1 21).toInt32), .int ((M.2.1 22).toInt32), .int (M.1 5)])) := hL.1 0 0 (lvf 0 (by decide))
  have k3_ : w (ad 3 0) = some (rA (gA G 5) 8 (cS M ad)) := hL.1 3 0 (lvf 3 (by decide))
  refine aw_aload_n X dX10_streamOf_0 rfl rfl ?_
  refine aw_iload_n X dX10_streamOf_1 rfl rfl ?_
  refine aw_callV X (kX10_slotOf _ _ _ _ _ _ hL _) okm_X10_slotOf okX10 k0_ ml_X10_208 im_X10_slotOf se_X10_X10_slotOf rfl rfl (Nat.le_of_ble_eq_true rfl) ⟨Nat.le_of_ble_eq_true rfl, Nat.le_of_ble_eq_true rfl, Nat.le_of_ble_eq_true rfl, Nat.le_of_ble_eq_true rfl⟩ dX10_streamOf_2 (fun v w2 hp => ?_)
  obtain ⟨rfl, hw9⟩ := hp
  have hw9 := hw9.symm
  subst hw9
  rcases hp9 : mo_pl M t with _ | k9
  · rw [show oI (none : Option Nat) = -1 from rfl]
    refine aw_istore_n (lv' := [(2, _), (0, _), (1, _)]) X dX10_streamOf_5 rfl (by decide) rfl ?_
    refine aw_iload_n X dX10_streamOf_6 rfl rfl ?_
    refine aw_iconst X dX10_streamOf_7 ci_m1 ?_
    refine aw_icmp_ne (tgt := 15) X dX10_streamOf_8 rfl (fun c8 => ?_) (fun c8 => ?_)
    · exact absurd c8 (by decide)
    · refine aw_null X dX10_streamOf_11 ?_
      refine aw_goto (tgt := 21) X dX10_streamOf_12 rfl ?_
      refine RTN (some _) _ _ _ _ _ dX10_streamOf_21 (⟨none, rfl⟩) (Nat.le_of_ble_eq_true rfl) (Nat.le_of_ble_eq_true rfl) ?_
      exact ⟨by unfold sAd; rw [hp9]; rfl, rfl⟩
  · rw [show oI (some k9) = nI k9 from rfl]
    have ho9 := (pl_opn hp9).1
    refine aw_istore_n (lv' := [(2, _), (0, _), (1, _)]) X dX10_streamOf_5 rfl (by decide) rfl ?_
    refine aw_iload_n X dX10_streamOf_6 rfl rfl ?_
    refine aw_iconst X dX10_streamOf_7 ci_m1 ?_
    refine aw_icmp_ne (tgt := 15) X dX10_streamOf_8 rfl (fun c8 => ?_) (fun c8 => ?_)
    · refine aw_aload_n X dX10_streamOf_15 rfl rfl ?_
      refine aw_get X okX10 (k := 2) k0_ (Nat.le_of_ble_eq_true rfl) fl_X10_22 (Or.inl rfl) rfl dX10_streamOf_16 ?_
      refine aw_iload_n X dX10_streamOf_19 rfl rfl ?_
      refine aw_aaldn X 5 (j := k9) k3_ rfl (ho9.1) (by decide) dX10_streamOf_20 ?_
      rw [cS_opn ho9]
      refine RTN (some _) _ _ _ _ _ dX10_streamOf_21 (⟨some (ad 13 k9), rfl⟩) (Nat.le_of_ble_eq_true rfl) (Nat.le_of_ble_eq_true rfl) ?_
      exact ⟨by unfold sAd; rw [hp9]; rfl, rfl⟩
    · exact absurd c8 (oI_n1 (x := some k9) rfl (by have := ho9.1; omega))
