/-! echoes -/
def ld (M : MS) (k : Nat) : Nat → Option Nat → Bool
  | 0, _ => false
  | _ + 1, none => false
  | n + 1, some j => if j = k then true else ld M k n (mo_pl M (M.2.2 17 j))
theorem ld_none {M : MS} {k : Nat} : ∀ n, ld M k n none = false
  | 0 => rfl
  | _ + 1 => rfl
theorem rg_m1 {M : MS} {k : Int32} : ∀ n, mo_rg M k n (-1) = false
  | 0 => rfl
  | n + 1 => by
    show (if (-1 : Int32) < 0 then false else _) = false
    rw [if_pos (by decide)]
theorem nI_inj {a b : Nat} (ha : a < 2 ^ 31) (hb : b < 2 ^ 31) (h : nI a = nI b) : a = b := Decidable.byContradiction (fun z => nI_ne ha hb z h)
theorem rg_ld {M : MS} {k : Nat} (hk : k < 8) : ∀ (n : Nat) (x : Option Nat), (∀ j, x = some j → j < 8) → mo_rg M (nI k) n (oI x) = ld M k n x
  | 0, x, _ => by cases x <;> rfl
  | n + 1, none, _ => rg_m1 (n + 1)
  | n + 1, some j, h => by
    have hj := h j rfl
    show (if nI j < 0 then false else if nI j = nI k then true else if M.2.2 17 (nI j).toNatClampNeg ≤ 0 then mo_rg M (nI k) n (-1) else mo_rg M (nI k) n (oI (mo_pl M (M.2.2 17 (nI j).toNatClampNeg)))) = if j = k then true else ld M k n (mo_pl M (M.2.2 17 j))
    rw [if_neg (by rw [i32_lt, nI_toInt (by omega)]; have e0 : (0 : Int32).toInt = 0 := rfl; omega), nI_clamp (by omega)]
    by_cases hjk : j = k
    · rw [if_pos hjk, if_pos (by rw [hjk])]
    · rw [if_neg hjk, if_neg (fun z => hjk (nI_inj (by omega) (by omega) z))]
      by_cases h0 : M.2.2 17 j ≤ 0
      · rw [if_pos h0, rg_m1]
        have hp : mo_pl M (M.2.2 17 j) = none := by
          unfold mo_pl
          refine fr_none (fun a _ => ?_)
          rw [decide_eq_false (show ¬ 0 < M.2.2 17 j by rw [i32_lt]; rw [i32_le] at h0; omega)]
          rfl
        rw [hp, ld_none]
      · rw [if_neg h0]
        exact rg_ld hk n _ (fun a ha => pl_lt ha)
theorem ld_st {M : MS} {k : Nat} {r : Nat → Nat} (hE : mi_ech r M) : ∀ (n m j : Nat), j < 8 → r j < n → r j < m → ld M k n (some j) = ld M k m (some j)
  | 0, m, j, _, h, _ => absurd h (by omega)
  | n + 1, 0, j, _, _, h => absurd h (by omega)
  | n + 1, m + 1, j, hj, h1, h2 => by
    show (if j = k then true else ld M k n (mo_pl M (M.2.2 17 j))) = if j = k then true else ld M k m (mo_pl M (M.2.2 17 j))
    by_cases hjk : j = k
    · rw [if_pos hjk, if_pos hjk]
    · rw [if_neg hjk, if_neg hjk]
      by_cases h0 : 0 < M.2.2 17 j
      · obtain ⟨t, ht, hr⟩ := hE j hj h0
        rw [ht]
        exact ld_st hE n m t (pl_lt ht) (by omega) (by omega)
      · have hp : mo_pl M (M.2.2 17 j) = none := by
          unfold mo_pl
          refine fr_none (fun a _ => ?_)
          rw [decide_eq_false h0]
          rfl
        rw [hp, ld_none, ld_none]
theorem ld_8 {M : MS} {k : Nat} {r : Nat → Nat} (hE : mi_ech r M) (hr8 : ∀ k, r k < 8) (hk : k < 8) {x : Option Nat} (hx : ∀ j, x = some j → j < 8) : mo_rg M (nI k) 10 (oI x) = ld M k 8 x := by
  rw [rg_ld hk 10 x hx]
  cases x with
  | none => rfl
  | some j => exact ld_st hE 10 8 j (hx j rfl) (by have := hr8 j; omega) (hr8 j)
theorem map_some {f : Nat → Nat} {x : Option Nat} {a : Nat} (h : x.map f = some a) : ∃ j, a = f j ∧ x = some j := by
  cases x with
  | none => cases h
  | some j => exact ⟨j, (Option.some.inj h).symm, rfl⟩
theorem map_none {f : Nat → Nat} {x : Option Nat} (h : x.map f = none) : x = none := by
  cases x with
  | none => rfl
  | some j => cases h
set_option maxRecDepth 100000 in
set_option maxHeartbeats 4000000 in
theorem kX10_leadsTo0 (G : GG) (l : Launch) (M : MS) (ad : AD) (gi : GI) (w : WM) (hL : RLa G M ad gi w) (k : Nat) (ho : opn M k) : MC G l yX10_leadsTo cX10_leadsTo 4 ((Option.some .boolean)) ({ frames := 0, cells := 0, slots := 0, locals := 0 } : Room) [.null, .ref (ad 13 k)] w (fun v w' => v = some (.int (bI (ld M k 8 none = true))) ∧ w' = w) := by
  refine mc_bool (by decide) (Nat.le_of_ble_eq_true rfl) rfl rfl ?_
  intro p e s m args below meth c A H0 Q X hnm RTN
  have X : Cx G p s m args meth c A H0 cX10_leadsTo 4 RX10 := X
  refine aw_aload_nN X dX10_leadsTo_0 rfl rfl ?_
  refine aw_astore_nN (lv' := [(2, _), (0, _), (1, _)]) X dX10_leadsTo_1 rfl (by decide) rfl ?_
  refine aw_iconst X dX10_leadsTo_2 ci_0 ?_
  refine aw_istore_n (lv' := [(3, _), (2, _), (0, _), (1, _)]) X dX10_leadsTo_3 rfl (by decide) rfl ?_
  refine aw_iload_n X dX10_leadsTo_4 rfl rfl ?_
  refine aw_bipush X dX10_leadsTo_5 cb_8 ?_
  refine aw_icmp_ge (tgt := 32) X dX10_leadsTo_7 rfl (fun c7 => ?_) (fun c7 => ?_)
  · exact absurd c7 (by decide)
  · refine aw_aload_nN X dX10_leadsTo_10 rfl rfl ?_
    refine aw_ifnullN (tgt := 32) X dX10_leadsTo_11 rfl ?_
    refine aw_iconst X dX10_leadsTo_32 ci_0 ?_
    refine RTN (some (.int _)) _ _ _ _ _ dX10_leadsTo_33 (Or.inl rfl) (Nat.le_of_ble_eq_true rfl) (Nat.le_of_ble_eq_true rfl) ?_
    exact ⟨by rw [ld_none, bI_f Bool.false_ne_true], rfl⟩
set_option maxRecDepth 100000 in
set_option maxHeartbeats 4000000 in
theorem kX10_leadsTo (G : GG) (l : Launch) (M : MS) (ad : AD) (gi : GI) (w : WM) (hL : RLa G M ad gi w) (j0 : Nat) (hj0 : opn M j0) (k : Nat) (ho : opn M k) : MC G l yX10_leadsTo cX10_leadsTo 4 ((Option.some .boolean)) ({ frames := 0, cells := 0, slots := 0, locals := 0 } : Room) [.ref (ad 13 j0), .ref (ad 13 k)] w (fun v w' => v = some (.int (bI (ld M k 8 (some j0) = true))) ∧ w' = w) := by
  refine mc_bool (by decide) (Nat.le_of_ble_eq_true rfl) rfl rfl ?_
  intro p e s m args below meth c A H0 Q X hnm RTN
  have X : Cx G p s m args meth c A H0 cX10_leadsTo 4 RX10 := X
  have L : ∀ (nn : Nat) (i : Nat) (x : Int32) (zo : Option Nat), (x = nI i) → (∀ j, zo = some j → opn M j) → (i ≤ 8) → (ld M k 8 (some j0) = ld M k (8 - i) zo) → (9 ≤ i + nn) → AW G p l e ({ frames := 0, cells := 0, slots := 0, locals := 0 } : Room) s m args below meth c 4 A H0 Q w 0 0 4 [(3, .int x), (2, va_rf (zo.map (ad 13))), (0, .ref (ad 13 j0)), (1, .ref (ad 13 k))] [] := by
    intro nn
    induction nn with
    | zero => intro i x zo hx hzo h1 hq h2; exact absurd h2 (by omega)
    | succ nn ih =>
      intro i x zo hx hzo h1 hq h2
      subst hx
      refine aw_iload_n X dX10_leadsTo_4 rfl rfl ?_
      refine aw_bipush X dX10_leadsTo_5 cb_8 ?_
      refine aw_icmp_ge (tgt := 32) X dX10_leadsTo_7 rfl (fun c7 => ?_) (fun c7 => ?_)
      · have h9 : i = 8 := by have := ge_i (N := 8) rfl (by omega) (by decide) c7; omega
        subst h9
        refine aw_iconst X dX10_leadsTo_32 ci_0 ?_
        refine RTN (some (.int _)) _ _ _ _ _ dX10_leadsTo_33 (Or.inl rfl) (Nat.le_of_ble_eq_true rfl) (Nat.le_of_ble_eq_true rfl) ?_
        exact ⟨by rw [hq, bI_f (by rw [Nat.sub_self]; exact Bool.false_ne_true)], rfl⟩
      · have h9 : i < 8 := lt_i (N := 8) rfl (by omega) (by decide) c7
        refine aw_aload_nR X dX10_leadsTo_10 rfl rfl ?_
        rcases hr101 : (zo.map (ad 13)) with _ | a102
        · refine aw_ifnullN (tgt := 32) X dX10_leadsTo_11 rfl ?_
          refine aw_iconst X dX10_leadsTo_32 ci_0 ?_
          refine RTN (some (.int _)) _ _ _ _ _ dX10_leadsTo_33 (Or.inl rfl) (Nat.le_of_ble_eq_true rfl) (Nat.le_of_ble_eq_true rfl) ?_
          exact ⟨by rw [hq, map_none hr101, ld_none, bI_f Bool.false_ne_true], rfl⟩
        · obtain ⟨j103, he104, hz105⟩ := map_some hr101
          subst he104
          have ho106 := hzo j103 hz105
          refine aw_ifnull X dX10_leadsTo_11 ?_
          refine aw_aload_n X dX10_leadsTo_14 rfl rfl ?_
          refine aw_aload_n X dX10_leadsTo_15 rfl rfl ?_
          refine aw_acmp_ne (rx := (some (ad 13 j103))) (ry := (some (ad 13 k))) (tgt := 21) X dX10_leadsTo_16 rfl (fun c16 => ?_) (fun c16 => ?_)
          · refine aw_aload_n X dX10_leadsTo_21 rfl rfl ?_
            refine aw_getS X (k := 7) (v := va_rf (sAd M ad (M.2.2 17 j103))) (rl_st hL ho106) (by decide) fl_X10_215 rfl dX10_leadsTo_22 ?_
            rcases hr107 : (sAd M ad (M.2.2 17 j103)) with _ | a108
            · refine aw_astore_nN (lv' := [(2, _), (3, _), (0, _), (1, _)]) X dX10_leadsTo_25 rfl (by decide) rfl ?_
              refine aw_iinc (lv' := [(3, _), (2, _), (0, _), (1, _)]) X dX10_leadsTo_26 rfl (iinc_1 _) (by decide) rfl ?_
              refine aw_goto (tgt := 4) X dX10_leadsTo_29 rfl ?_
              refine aw_lv [0, 1, 2, 3] rfl ?_
              exact ih (i + 1) _ none (nI_1 i) (fun a ha => by cases ha) (by omega) (by rw [hq, hz105, show 8 - i = (8 - (i + 1)) + 1 by omega]; show (if j103 = k then true else ld M k (8 - (i + 1)) (mo_pl M (M.2.2 17 j103))) = _; rw [if_neg (fun z => c16 (by rw [z])), (sAd_none hr107)]) (by omega)
            · obtain ⟨k109, he110, hp111⟩ := sAd_some hr107
              subst he110
              have ho112 := (pl_opn hp111).1
              refine aw_astore_n (lv' := [(2, _), (3, _), (0, _), (1, _)]) X dX10_leadsTo_25 rfl (by decide) rfl ?_
              refine aw_iinc (lv' := [(3, _), (2, _), (0, _), (1, _)]) X dX10_leadsTo_26 rfl (iinc_1 _) (by decide) rfl ?_
              refine aw_goto (tgt := 4) X dX10_leadsTo_29 rfl ?_
              refine aw_lv [0, 1, 2, 3] rfl ?_
              exact ih (i + 1) _ (some k109) (nI_1 i) (fun a ha => by rw [← Option.some.inj ha]; exact ho112) (by omega) (by rw [hq, hz105, show 8 - i = (8 - (i + 1)) + 1 by omega]; show (if j103 = k then true else ld M k (8 - (i + 1)) (mo_pl M (M.2.2 17 j103))) = _; rw [if_neg (fun z => c16 (by rw [z])), hp111]) (by omega)
          · refine aw_iconst X dX10_leadsTo_19 ci_1 ?_
            refine RTN (some (.int _)) _ _ _ _ _ dX10_leadsTo_20 (Or.inr rfl) (Nat.le_of_ble_eq_true rfl) (Nat.le_of_ble_eq_true rfl) ?_
            have hjk : j103 = k := Decidable.byContradiction (fun hz => rl_ne hL (t := 13) (t' := 13) ho106 ho (Or.inl rfl) (fun y => hz y.2) (Option.some.inj c16))
            exact ⟨by rw [hq, hz105, show 8 - i = (8 - (i + 1)) + 1 by omega, bI_t (show ld M k (8 - (i + 1) + 1) (some j103) = true from if_pos hjk)], rfl⟩
  refine aw_aload_n X dX10_leadsTo_0 rfl rfl ?_
  refine aw_astore_n (lv' := [(2, _), (0, _), (1, _)]) X dX10_leadsTo_1 rfl (by decide) rfl ?_
  refine aw_iconst X dX10_leadsTo_2 ci_0 ?_
  refine aw_istore_n (lv' := [(3, _), (2, _), (0, _), (1, _)]) X dX10_leadsTo_3 rfl (by decide) rfl ?_
  refine aw_lv [0, 1, 2, 3] rfl ?_
  exact L 9 0 _ (some j0) rfl (fun j hj => by rw [← Option.some.inj hj]; exact hj0) (by omega) rfl (by omega)
theorem rl_e {G : GG} {M : MS} {ad : AD} {gi : GI} {w w' : WM} {k : Nat} {x : Int32} (hL : RLa G M ad gi w) (ho : opn M k) (h1 : w' (ad 13 k) = some (sC (cSI M gi k) (sAd M ad x) (cX M ad k))) (h2 : ∀ b, b ≠ ad 13 k → w' b = w b) : RLa G (sF (sI M 0 0) 17 k x) ad gi w' := by
  refine rl_w1 hL 13 k ho rfl h2 (fun _ _ h => h) (fun t i hl hn0 => by
    match t, hl, hn0 with
    | 0, _, _ => exact cc_0 rfl
    | 1, _, _ => exact cc_1 rfl
    | 2, _, _ => exact cc_2 rfl
    | 3, _, _ => exact cc_3 rfl
    | 4, _, _ => exact cc_4 rfl
    | 5, _, _ => exact cc_5 rfl
    | 6, _, _ => exact cc_6 rfl
    | 7, _, _ => exact cc_7 rfl
    | 8, _, _ => exact cc_8 rfl
    | 9, _, _ => exact cc_9 rfl
    | 10, _, _ => exact cc_10 rfl
    | 11, _, _ => exact cc_11 rfl
    | 12, _, _ => exact cc_12 rfl
    | 13, hl, hn0 => (have hi : i ≠ k := fun z => hn0 ⟨rfl, z⟩; refine cc_13 ?_; rw [show (sF (sI M 0 0) 17 k x).2.2 17 i = M.2.2 17 i from upd_n hi]; rfl)
    | 14, _, _ => exact cc_14 rfl
    | 15, _, _ => exact cc_15 rfl
    | 16, _, _ => exact cc_16 rfl
    | 17, _, _ => exact cc_17 rfl
    | 18, _, _ => exact cc_18 rfl
    | 19, _, _ => exact cc_19 rfl
    | 20, _, _ => exact cc_20 rfl
    | 21, _, _ => exact cc_21 rfl
    | 22, _, _ => exact cc_22 rfl
    | 23, _, _ => exact cc_23 rfl
    | n + 24, hl, hn0 => exact absurd (show n + 24 ≤ 10 ∧ i = 0 from hl).1 (by omega)) ?_ hL.2.2
  rw [h1]
  show _ = some (sC (cSI M gi k) (sAd M ad (upd (M.2.2 17) k x k)) (cX M ad k))
  rw [upd_s]
theorem rg_0 {M : MS} {k : Int32} {n : Nat} {x : Int32} : mo_rg (sI M 0 0) k n x = mo_rg M k n x := by
  induction n generalizing x with
  | zero => rfl
  | succ n ih =>
    show (if x < 0 then false else if x = k then true else if M.2.2 17 x.toNatClampNeg ≤ 0 then mo_rg (sI M 0 0) k n (-1) else mo_rg (sI M 0 0) k n (oI (mo_pl M (M.2.2 17 x.toNatClampNeg)))) = _
    rw [ih, ih]
    rfl
set_option maxRecDepth 100000 in
set_option maxHeartbeats 4000000 in
theorem kX10_echo (G : GG) (l : Launch) (M : MS) (ad : AD) (gi : GI) (w : WM) (hL : RLa G M ad gi w) (r : Nat → Nat) (hr8 : ∀ k, r k < 8) (hE : mi_ech r M) (t to : Int32) : MC G l yX10_echo cX10_echo 5 ((Option.some .int)) ({ frames := 2, cells := 0, slots := 0, locals := 44 } : Room) [.ref (ad 0 0), .int t, .int to] w (fun v w' => v = some (.int (mo_echo M t to).1) ∧ ∃ ad' gi', RLa G (mo_echo M t to).2 ad' gi' w' ∧ ad' 0 0 = ad 0 0) := by
  refine mc_int (by decide) (Nat.le_of_ble_eq_true rfl) rfl rfl ?_
  intro p e s m args below meth c A H0 Q X hnm RTN
  have X : Cx G p s m args meth c A H0 cX10_echo 5 RX10 := X
  have k0_ : w (ad 0 0) = some (.inr (11, [.ref (ad 1 0), .ref (ad 2 0), .ref (ad 3 0), .ref (ad 4 0), .ref (ad 5 0), .ref (ad 6 0), va_rf (sAd M ad (M.1 20)), .int (M.1 7), .int (M.1 29), .int (M.1 38), .int ((M.2.1 21).toInt32), .int ((M.2.1 22).toInt32), .int (M.1 5)])) := hL.1 0 0 (lvf 0 (by decide))
  refine aw_aload_n X dX10_echo_0 rfl rfl ?_
  refine aw_iload_n X dX10_echo_1 rfl rfl ?_
  refine aw_callV X (kX10_streamOf _ _ _ _ _ _ hL _) okm_X10_streamOf okX10 k0_ ml_X10_169 im_X10_streamOf se_X10_X10_streamOf rfl rfl (Nat.le_of_ble_eq_true rfl) ⟨Nat.le_of_ble_eq_true rfl, Nat.le_of_ble_eq_true rfl, Nat.le_of_ble_eq_true rfl, Nat.le_of_ble_eq_true rfl⟩ dX10_echo_2 (fun v w2 hp => ?_)
  obtain ⟨rfl, hw9⟩ := hp
  have hw9 := hw9.symm
  subst hw9
  rcases hr113 : sAd M ad t with _ | a114
  · refine aw_astore_nN (lv' := [(3, _), (0, _), (1, _), (2, _)]) X dX10_echo_5 rfl (by decide) rfl ?_
    refine aw_aload_n X dX10_echo_6 rfl rfl ?_
    refine aw_iload_n X dX10_echo_7 rfl rfl ?_
    refine aw_callV X (kX10_streamOf _ _ _ _ _ _ hL _) okm_X10_streamOf okX10 k0_ ml_X10_169 im_X10_streamOf se_X10_X10_streamOf rfl rfl (Nat.le_of_ble_eq_true rfl) ⟨Nat.le_of_ble_eq_true rfl, Nat.le_of_ble_eq_true rfl, Nat.le_of_ble_eq_true rfl, Nat.le_of_ble_eq_true rfl⟩ dX10_echo_8 (fun v w2 hp => ?_)
    obtain ⟨rfl, hw9⟩ := hp
    have hw9 := hw9.symm
    subst hw9
    rcases hr115 : sAd M ad to with _ | a116
    · refine aw_astoreN (lv' := [(4, _), (3, _), (0, _), (1, _), (2, _)]) X dX10_echo_11 (by decide) rfl ?_
      refine aw_aload_nN X dX10_echo_13 rfl rfl ?_
      refine aw_ifnullN (tgt := 26) X dX10_echo_14 rfl ?_
      refine aw_bipush X dX10_echo_26 cb_m2 ?_
      refine RTN (some (.int _)) _ _ _ _ _ dX10_echo_28 (⟨_, rfl⟩) (Nat.le_of_ble_eq_true rfl) (Nat.le_of_ble_eq_true rfl) ?_
      have hm : mo_echo M t to = (-2, sI M 0 0) := by unfold mo_echo; rw [if_pos (by rw [show mo_pl (sI M 0 0) t = none from sAd_none hr113]; decide)]
      rw [hm]
      exact ⟨rfl, ad, gi, rl_0 hL, rfl⟩
    · obtain ⟨k117, he118, hp119⟩ := sAd_some hr115
      subst he118
      have ho120 := (pl_opn hp119).1
      refine aw_astore (lv' := [(4, _), (3, _), (0, _), (1, _), (2, _)]) X dX10_echo_11 (by decide) rfl ?_
      refine aw_aload_nN X dX10_echo_13 rfl rfl ?_
      refine aw_ifnullN (tgt := 26) X dX10_echo_14 rfl ?_
      refine aw_bipush X dX10_echo_26 cb_m2 ?_
      refine RTN (some (.int _)) _ _ _ _ _ dX10_echo_28 (⟨_, rfl⟩) (Nat.le_of_ble_eq_true rfl) (Nat.le_of_ble_eq_true rfl) ?_
      have hm : mo_echo M t to = (-2, sI M 0 0) := by unfold mo_echo; rw [if_pos (by rw [show mo_pl (sI M 0 0) t = none from sAd_none hr113]; decide)]
      rw [hm]
      exact ⟨rfl, ad, gi, rl_0 hL, rfl⟩
  · obtain ⟨k121, he122, hp123⟩ := sAd_some hr113
    subst he122
    have ho124 := (pl_opn hp123).1
    refine aw_astore_n (lv' := [(3, _), (0, _), (1, _), (2, _)]) X dX10_echo_5 rfl (by decide) rfl ?_
    refine aw_aload_n X dX10_echo_6 rfl rfl ?_
    refine aw_iload_n X dX10_echo_7 rfl rfl ?_
    refine aw_callV X (kX10_streamOf _ _ _ _ _ _ hL _) okm_X10_streamOf okX10 k0_ ml_X10_169 im_X10_streamOf se_X10_X10_streamOf rfl rfl (Nat.le_of_ble_eq_true rfl) ⟨Nat.le_of_ble_eq_true rfl, Nat.le_of_ble_eq_true rfl, Nat.le_of_ble_eq_true rfl, Nat.le_of_ble_eq_true rfl⟩ dX10_echo_8 (fun v w2 hp => ?_)
    obtain ⟨rfl, hw9⟩ := hp
    have hw9 := hw9.symm
    subst hw9
    rcases hr125 : sAd M ad to with _ | a126
    · refine aw_astoreN (lv' := [(4, _), (3, _), (0, _), (1, _), (2, _)]) X dX10_echo_11 (by decide) rfl ?_
      refine aw_aload_n X dX10_echo_13 rfl rfl ?_
      refine aw_ifnull X dX10_echo_14 ?_
      refine aw_aloadN X dX10_echo_17 rfl ?_
      refine aw_ifnonnullN X dX10_echo_19 ?_
      refine aw_iload_n X dX10_echo_22 rfl rfl ?_
      refine aw_if_eq (tgt := 29) X dX10_echo_23 rfl (fun c23 => ?_) (fun c23 => ?_)
      · refine aw_aload_n X dX10_echo_29 rfl rfl ?_
        refine aw_getS X (k := 0) (v := .int (M.2.2 8 k121)) (rl_st hL ho124) (by decide) fl_X10_196 rfl dX10_echo_30 ?_
        refine aw_if_eq (tgt := 39) X dX10_echo_33 rfl (fun c33 => ?_) (fun c33 => ?_)
        · refine aw_aloadN X dX10_echo_39 rfl ?_
          refine aw_aload_n X dX10_echo_41 rfl rfl ?_
          refine aw_callS X (kX10_leadsTo0 _ _ _ _ _ _ hL k121 ho124) okm_X10_leadsTo ml_X10_233 st_X10_leadsTo rfl rfl (Nat.le_of_ble_eq_true rfl) ⟨Nat.le_of_ble_eq_true rfl, Nat.le_of_ble_eq_true rfl, Nat.le_of_ble_eq_true rfl, Nat.le_of_ble_eq_true rfl⟩ dX10_echo_42 (fun v w2 hp => ?_)
          obtain ⟨rfl, hw9⟩ := hp
          have hw9 := hw9.symm
          subst hw9
          refine aw_if_eq (tgt := 50) X dX10_echo_45 rfl (fun c45 => ?_) (fun c45 => ?_)
          · rw [bI_0] at c45
            refine aw_aload_n X dX10_echo_50 rfl rfl ?_
            refine aw_aloadN X dX10_echo_51 rfl ?_
            refine aw_putSE (e' := none) X (rl_st hL ho124) fl_X10_215 dX10_echo_53 (fun w127 hk128 hn129 he130 => ?_)
            have hk131 := (hn129 _ (rl_ne hL (t := 0) (i := 0) (t' := 13) (i' := k121) (lvf 0 (by decide)) (ho124) (Or.inl rfl) (fun z => absurd z.1 (by decide)))).trans k0_
            refine aw_iconst X dX10_echo_56 ci_1 ?_
            refine RTN (some (.int _)) _ _ _ _ _ dX10_echo_57 (⟨_, rfl⟩) (Nat.le_of_ble_eq_true rfl) (Nat.le_of_ble_eq_true rfl) ?_
            have hrg : mo_rg (sI M 0 0) (nI k121) 10 (oI (mo_pl (sI M 0 0) to)) = ld M k121 8 none := by rw [rg_0, show mo_pl (sI M 0 0) to = none from (sAd_none hr125)]; exact ld_8 hE hr8 ho124.1 (fun j hj => by cases hj)
            have hm : mo_echo M t to = (1, sF (sI M 0 0) 17 k121 to) := by unfold mo_echo; rw [if_neg (fun z => absurd (pl_ge hp123) (by rw [i32_le]; rw [i32_lt] at z; omega)), if_pos (Or.inl c23), pl_k hp123, if_pos c33, pl_oI hp123, hrg, if_neg c45]
            rw [hm]
            exact ⟨rfl, ad, gi, rl_e hL ho124 (by rw [show sAd M ad to = none from hr125]; exact hk128) (fun b h1 => by rw [he130, wm_upn h1]), rfl⟩
          · rw [bI_n0] at c45
            refine aw_iconst X dX10_echo_48 ci_0 ?_
            refine RTN (some (.int _)) _ _ _ _ _ dX10_echo_49 (⟨_, rfl⟩) (Nat.le_of_ble_eq_true rfl) (Nat.le_of_ble_eq_true rfl) ?_
            have hrg : mo_rg (sI M 0 0) (nI k121) 10 (oI (mo_pl (sI M 0 0) to)) = ld M k121 8 none := by rw [rg_0, show mo_pl (sI M 0 0) to = none from (sAd_none hr125)]; exact ld_8 hE hr8 ho124.1 (fun j hj => by cases hj)
            have hm : mo_echo M t to = (0, sI M 0 0) := by unfold mo_echo; rw [if_neg (fun z => absurd (pl_ge hp123) (by rw [i32_le]; rw [i32_lt] at z; omega)), if_pos (Or.inl c23), pl_k hp123, if_pos c33, pl_oI hp123, hrg, if_pos c45]
            rw [hm]
            exact ⟨rfl, ad, gi, rl_0 hL, rfl⟩
        · refine aw_bipush X dX10_echo_36 cb_m4 ?_
          refine RTN (some (.int _)) _ _ _ _ _ dX10_echo_38 (⟨_, rfl⟩) (Nat.le_of_ble_eq_true rfl) (Nat.le_of_ble_eq_true rfl) ?_
          have hm : mo_echo M t to = (-4, sI M 0 0) := by unfold mo_echo; rw [if_neg (fun z => absurd (pl_ge hp123) (by rw [i32_le]; rw [i32_lt] at z; omega)), if_pos (Or.inl c23), pl_k hp123, if_neg c33]
          rw [hm]
          exact ⟨rfl, ad, gi, rl_0 hL, rfl⟩
      · refine aw_bipush X dX10_echo_26 cb_m2 ?_
        refine RTN (some (.int _)) _ _ _ _ _ dX10_echo_28 (⟨_, rfl⟩) (Nat.le_of_ble_eq_true rfl) (Nat.le_of_ble_eq_true rfl) ?_
        have hm : mo_echo M t to = (-2, sI M 0 0) := by unfold mo_echo; rw [if_neg (fun z => absurd (pl_ge hp123) (by rw [i32_le]; rw [i32_lt] at z; omega)), if_neg (fun z => z.elim c23 (pl_ng (sAd_none hr125)))]
        rw [hm]
        exact ⟨rfl, ad, gi, rl_0 hL, rfl⟩
    · obtain ⟨k132, he133, hp134⟩ := sAd_some hr125
      subst he133
      have ho135 := (pl_opn hp134).1
      refine aw_astore (lv' := [(4, _), (3, _), (0, _), (1, _), (2, _)]) X dX10_echo_11 (by decide) rfl ?_
      refine aw_aload_n X dX10_echo_13 rfl rfl ?_
      refine aw_ifnull X dX10_echo_14 ?_
      refine aw_aload X dX10_echo_17 rfl ?_
      refine aw_ifnonnull (tgt := 29) X dX10_echo_19 rfl ?_
      refine aw_aload_n X dX10_echo_29 rfl rfl ?_
      refine aw_getS X (k := 0) (v := .int (M.2.2 8 k121)) (rl_st hL ho124) (by decide) fl_X10_196 rfl dX10_echo_30 ?_
      refine aw_if_eq (tgt := 39) X dX10_echo_33 rfl (fun c33 => ?_) (fun c33 => ?_)
      · refine aw_aload X dX10_echo_39 rfl ?_
        refine aw_aload_n X dX10_echo_41 rfl rfl ?_
        refine aw_callS X (kX10_leadsTo _ _ _ _ _ _ hL k132 ho135 k121 ho124) okm_X10_leadsTo ml_X10_233 st_X10_leadsTo rfl rfl (Nat.le_of_ble_eq_true rfl) ⟨Nat.le_of_ble_eq_true rfl, Nat.le_of_ble_eq_true rfl, Nat.le_of_ble_eq_true rfl, Nat.le_of_ble_eq_true rfl⟩ dX10_echo_42 (fun v w2 hp => ?_)
        obtain ⟨rfl, hw9⟩ := hp
        have hw9 := hw9.symm
        subst hw9
        refine aw_if_eq (tgt := 50) X dX10_echo_45 rfl (fun c45 => ?_) (fun c45 => ?_)
        · rw [bI_0] at c45
          refine aw_aload_n X dX10_echo_50 rfl rfl ?_
          refine aw_aload X dX10_echo_51 rfl ?_
          refine aw_putSE (e' := (some (ad 13 k132))) X (rl_st hL ho124) fl_X10_215 dX10_echo_53 (fun w136 hk137 hn138 he139 => ?_)
          have hk140 := (hn138 _ (rl_ne hL (t := 0) (i := 0) (t' := 13) (i' := k121) (lvf 0 (by decide)) (ho124) (Or.inl rfl) (fun z => absurd z.1 (by decide)))).trans k0_
          refine aw_iconst X dX10_echo_56 ci_1 ?_
          refine RTN (some (.int _)) _ _ _ _ _ dX10_echo_57 (⟨_, rfl⟩) (Nat.le_of_ble_eq_true rfl) (Nat.le_of_ble_eq_true rfl) ?_
          have hrg : mo_rg (sI M 0 0) (nI k121) 10 (oI (mo_pl (sI M 0 0) to)) = ld M k121 8 (some k132) := by rw [rg_0, show mo_pl (sI M 0 0) to = (some k132) from hp134]; exact ld_8 hE hr8 ho124.1 (fun j hj => by rw [← Option.some.inj hj]; exact pl_lt hp134)
          have hm : mo_echo M t to = (1, sF (sI M 0 0) 17 k121 to) := by unfold mo_echo; rw [if_neg (fun z => absurd (pl_ge hp123) (by rw [i32_le]; rw [i32_lt] at z; omega)), if_pos (Or.inr (pl_ge hp134)), pl_k hp123, if_pos c33, pl_oI hp123, hrg, if_neg c45]
          rw [hm]
          exact ⟨rfl, ad, gi, rl_e hL ho124 (by rw [sAd_opn hp134]; exact hk137) (fun b h1 => by rw [he139, wm_upn h1]), rfl⟩
        · rw [bI_n0] at c45
          refine aw_iconst X dX10_echo_48 ci_0 ?_
          refine RTN (some (.int _)) _ _ _ _ _ dX10_echo_49 (⟨_, rfl⟩) (Nat.le_of_ble_eq_true rfl) (Nat.le_of_ble_eq_true rfl) ?_
          have hrg : mo_rg (sI M 0 0) (nI k121) 10 (oI (mo_pl (sI M 0 0) to)) = ld M k121 8 (some k132) := by rw [rg_0, show mo_pl (sI M 0 0) to = (some k132) from hp134]; exact ld_8 hE hr8 ho124.1 (fun j hj => by rw [← Option.some.inj hj]; exact pl_lt hp134)
          have hm : mo_echo M t to = (0, sI M 0 0) := by unfold mo_echo; rw [if_neg (fun z => absurd (pl_ge hp123) (by rw [i32_le]; rw [i32_lt] at z; omega)), if_pos (Or.inr (pl_ge hp134)), pl_k hp123, if_pos c33, pl_oI hp123, hrg, if_pos c45]
          rw [hm]
          exact ⟨rfl, ad, gi, rl_0 hL, rfl⟩
      · refine aw_bipush X dX10_echo_36 cb_m4 ?_
        refine RTN (some (.int _)) _ _ _ _ _ dX10_echo_38 (⟨_, rfl⟩) (Nat.le_of_ble_eq_true rfl) (Nat.le_of_ble_eq_true rfl) ?_
        have hm : mo_echo M t to = (-4, sI M 0 0) := by unfold mo_echo; rw [if_neg (fun z => absurd (pl_ge hp123) (by rw [i32_le]; rw [i32_lt] at z; omega)), if_pos (Or.inr (pl_ge hp134)), pl_k hp123, if_neg c33]
        rw [hm]
        exact ⟨rfl, ad, gi, rl_0 hL, rfl⟩
