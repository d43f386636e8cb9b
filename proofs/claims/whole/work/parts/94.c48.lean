/-! file -/
theorem cl8 : ∀ r : Nat, r < 20 → ∀ t : Nat, t < 8 → ((8 : Int32) * nI r + nI t).toNatClampNeg = 8 * r + t := by decide +kernel
theorem cn_31 {M : MS} {r : Nat} (hr : r < 20) : ∀ t : Nat, t ≤ 8 → ∀ i, (mo_cn M (nI r) t).2.2 31 i = if 8 * r ≤ i ∧ i < 8 * r + t then M.2.2 25 (i - 8 * r) else M.2.2 31 i
  | 0, _, i => by rw [if_neg (by omega)]; rfl
  | t + 1, ht, i => by
    have ih := cn_31 (M := M) hr t (by omega)
    show (sF (mo_cn M (nI r) t) 31 ((8 * nI r) + nI t).toNatClampNeg ((mo_cn M (nI r) t).2.2 25 (nI t).toNatClampNeg)).2.2 31 i = _
    rw [sF_us, cl8 r hr t (by omega), cn_f M (nI r) (j := 25) (by decide) t, nI_clamp (by omega)]
    by_cases h : i = 8 * r + t
    · rw [h, upd_s, if_pos (by omega), Nat.add_sub_cancel_left]
    · rw [upd_n h, ih]
      by_cases h2 : 8 * r ≤ i ∧ i < 8 * r + t
      · rw [if_pos h2, if_pos (by omega)]
      · rw [if_neg h2, if_neg (by omega)]
theorem f2_1 {M : MS} {u : Int32} : (mo_f2 M u).1 = (sI (sI M 0 0) 29 (M.1 29 + 1)).1 := cn_1 _ _ _
theorem f2_f {M : MS} {u : Int32} {k : Nat} (h : k ≠ 31) : (mo_f2 M u).2.2 k = (mo_f1 M u).2.2 k := cn_f _ _ h _
theorem f2_30 {M : MS} {u : Int32} : (mo_f2 M u).2.2 30 = upd (M.2.2 30) (M.1 29).toNatClampNeg u := (f2_f (by decide)).trans rfl
theorem f2_32 {M : MS} {u : Int32} : (mo_f2 M u).2.2 32 = upd (M.2.2 32) (M.1 29).toNatClampNeg (M.1 26) := (f2_f (by decide)).trans rfl
theorem f2_33 {M : MS} {u : Int32} : (mo_f2 M u).2.2 33 = upd (M.2.2 33) (M.1 29).toNatClampNeg 0 := (f2_f (by decide)).trans rfl
theorem f2_34 {M : MS} {u : Int32} : (mo_f2 M u).2.2 34 = M.2.2 34 := (f2_f (by decide)).trans rfl
theorem f2_o {M : MS} {u : Int32} {k : Nat} (h0 : k ≠ 30) (h1 : k ≠ 31) (h2 : k ≠ 32) (h3 : k ≠ 33) : (mo_f2 M u).2.2 k = M.2.2 k := by
  rw [f2_f h1]
  exact (va_up_ne _ _ h3).trans ((va_up_ne _ _ h2).trans (va_up_ne _ _ h0))
theorem f2_l {M : MS} {u : Int32} : (mo_f2 M u).2.1 = M.2.1 := by
  unfold mo_f2
  generalize (M.1 26).toNatClampNeg = t
  induction t with
  | zero => rfl
  | succ t ih => exact ih
theorem f2_31 {M : MS} {u : Int32} {R N : Nat} (e29 : M.1 29 = nI R) (hR : R < 20) (e26 : M.1 26 = nI N) (hN : N ≤ 8) (i : Nat) : (mo_f2 M u).2.2 31 i = if 8 * R ≤ i ∧ i < 8 * R + N then M.2.2 25 (i - 8 * R) else M.2.2 31 i := by
  unfold mo_f2
  rw [e29, e26, nI_clamp (by omega), cn_31 hR N hN i]
  rfl
theorem fil_facts {M : MS} {u : Int32} {R N : Nat} (e29 : M.1 29 = nI R) (hR : R < 20) (e26 : M.1 26 = nI N) (hN : N ≤ 8) (ff : Nat) : (∀ k, k ≠ 30 → k ≠ 31 → k ≠ 32 → k ≠ 33 → k ≠ 34 → (sI (sI (sF (mo_f2 M u) 34 (M.1 29).toNatClampNeg (nI ff)) 26 0) 27 0).2.2 k = M.2.2 k) ∧ (∀ k, k ≠ 0 → k ≠ 29 → (sI (sI (sF (mo_f2 M u) 34 (M.1 29).toNatClampNeg (nI ff)) 26 0) 27 0).1 k = (sI (sI M 26 0) 27 0).1 k) ∧ (sI (sI (sF (mo_f2 M u) 34 (M.1 29).toNatClampNeg (nI ff)) 26 0) 27 0).1 29 = M.1 29 + 1 ∧ (sI (sI (sF (mo_f2 M u) 34 (M.1 29).toNatClampNeg (nI ff)) 26 0) 27 0).2.1 = M.2.1 ∧ (sI (sI (sF (mo_f2 M u) 34 (M.1 29).toNatClampNeg (nI ff)) 26 0) 27 0).2.2 30 = upd (M.2.2 30) R u ∧ (sI (sI (sF (mo_f2 M u) 34 (M.1 29).toNatClampNeg (nI ff)) 26 0) 27 0).2.2 32 = upd (M.2.2 32) R (nI N) ∧ (sI (sI (sF (mo_f2 M u) 34 (M.1 29).toNatClampNeg (nI ff)) 26 0) 27 0).2.2 33 = upd (M.2.2 33) R 0 ∧ (sI (sI (sF (mo_f2 M u) 34 (M.1 29).toNatClampNeg (nI ff)) 26 0) 27 0).2.2 34 = upd (M.2.2 34) R (nI ff) ∧ (∀ r j : Nat, r ≠ R → j < 8 → (sI (sI (sF (mo_f2 M u) 34 (M.1 29).toNatClampNeg (nI ff)) 26 0) 27 0).2.2 31 (8 * r + j) = M.2.2 31 (8 * r + j)) ∧ ∀ j, j < N → (sI (sI (sF (mo_f2 M u) 34 (M.1 29).toNatClampNeg (nI ff)) 26 0) 27 0).2.2 31 (8 * R + j) = M.2.2 25 j := by
  have hc : (M.1 29).toNatClampNeg = R := by rw [e29]; exact nI_clamp (by omega)
  refine ⟨fun k h0 h1 h2 h3 h4 => ?_, fun k h0 h1 => ?_, ?_, f2_l, ?_, ?_, ?_, ?_, fun r j hr hj => ?_, fun j hj => ?_⟩
  · exact (va_up_ne _ _ h4).trans (f2_o h0 h1 h2 h3)
  · by_cases h27 : k = 27
    · subst h27; rfl
    · by_cases h26 : k = 26
      · subst h26; rfl
      · refine (sI_n h27).trans ((sI_n h26).trans ((congrFun f2_1 k).trans ((sI_n h1).trans ((sI_n h0).trans ?_))))
        exact ((sI_n h27).trans (sI_n h26)).symm
  · exact (sI_n (by decide)).trans ((sI_n (by decide)).trans ((congrFun f2_1 29).trans rfl))
  · exact (f2_30 (M := M) (u := u)).trans (by rw [hc])
  · exact (f2_32 (M := M) (u := u)).trans (by rw [hc, e26])
  · exact (f2_33 (M := M) (u := u)).trans (by rw [hc])
  · show (sF (mo_f2 M u) 34 (M.1 29).toNatClampNeg (nI ff)).2.2 34 = _
    rw [sF_us, f2_34, hc]
  · exact (f2_31 e29 hR e26 hN _).trans (if_neg (by omega))
  · exact (f2_31 e29 hR e26 hN _).trans (by rw [if_pos (by omega), Nat.add_sub_cancel_left])
/-- like-named with what file would name -/
def nmM (M : MS) (u : Int32) (N a : Nat) : Prop := M.2.2 33 a = 0 ∧ M.2.2 30 a = u ∧ M.2.2 32 a = nI N ∧ ∀ j, j < N → M.2.2 31 (8 * a + j) = M.2.2 25 j
theorem lk_nm {M : MS} {u : Int32} {R N a : Nat} (e29 : M.1 29 = nI R) (hR : R < 20) (e26 : M.1 26 = nI N) (hN : N ≤ 8) (ha : a < R) : lkN (mo_f2 M u) (nI a) (nI R) = true ↔ nmM M u N a := by
  have hc : (M.1 29).toNatClampNeg = R := by rw [e29]; exact nI_clamp (by omega)
  have haR : a ≠ R := by omega
  unfold lkN lkB lk0 nmM
  rw [nI_clamp (show a < 2 ^ 31 by omega), nI_clamp (show R < 2 ^ 31 by omega), f2_30, f2_32, f2_33, hc, upd_n haR, upd_n haR, upd_n haR, upd_s, upd_s, e26, nI_clamp (show N < 2 ^ 31 by omega)]
  rw [Bool.and_eq_true, Bool.and_eq_true, Bool.and_eq_true, decide_eq_true_eq, decide_eq_true_eq, decide_eq_true_eq, List.all_eq_true]
  have hE : (∀ x ∈ List.range N, lkE (mo_f2 M u) (nI a) (nI R) x = true) ↔ ∀ j, j < N → M.2.2 31 (8 * a + j) = M.2.2 25 j := by
    constructor
    · intro h j hj
      have h1 := h j (List.mem_range.mpr hj)
      unfold lkE at h1
      rw [decide_eq_true_eq, cl8 a (by omega) j (by omega), cl8 R hR j (by omega), f2_31 e29 hR e26 hN, f2_31 e29 hR e26 hN, if_neg (by omega), if_pos (by omega), Nat.add_sub_cancel_left] at h1
      exact h1
    · intro h j hj
      have hj := List.mem_range.mp hj
      unfold lkE
      rw [decide_eq_true_eq, cl8 a (by omega) j (by omega), cl8 R hR j (by omega), f2_31 e29 hR e26 hN, f2_31 e29 hR e26 hN, if_neg (by omega), if_pos (by omega), Nat.add_sub_cancel_left]
      exact h j hj
  rw [hE]
  exact ⟨fun h => ⟨h.1.1, h.1.2.1, h.1.2.2, h.2⟩, fun h => ⟨⟨h.1, h.2.1, h.2.2.1⟩, h.2.2.2⟩⟩
theorem ff_at {M : MS} {R : Int32} {a : Nat} (ha : a < 20) (h : lkN M (nI a) R = true) (hm : ∀ b, b < a → ¬ lkN M (nI b) R = true) : mo_ff M R = a := by
  unfold mo_ff
  have e : (List.range 20).find? (fun a => lkN M (nI a) R) = some a := List.find?_range_eq_some.mpr ⟨h, List.mem_range.mpr ha, fun j hj => by rw [Bool.not_eq_true']; exact Bool.eq_false_iff.mpr (hm j hj)⟩
  rw [e]
  rfl
/-- a name's first reference is named like it -/
def mi_lk (M : MS) : Prop := ∀ r, isr M r → M.2.2 33 r = 0 → (M.2.2 34 r).toNatClampNeg ≤ r ∧ M.2.2 34 r = nI (M.2.2 34 r).toNatClampNeg ∧ M.2.2 33 (M.2.2 34 r).toNatClampNeg = 0 ∧ M.2.2 30 (M.2.2 34 r).toNatClampNeg = M.2.2 30 r ∧ M.2.2 32 (M.2.2 34 r).toNatClampNeg = M.2.2 32 r ∧ ∀ j : Nat, (j : Int) < (M.2.2 32 r).toInt → M.2.2 31 (8 * (M.2.2 34 r).toNatClampNeg + j) = M.2.2 31 (8 * r + j)
/-- the name's signs -/
def mi_nb (M : MS) : Prop := ∀ j : Nat, (j : Int) < (M.1 26).toInt → bt (M.2.2 25 j) 32 126 = true
theorem nm_GM {M : MS} {gi : GI} {u : Int32} {N a : Nat} {f : Nat → Int32} (hs : sd_s M gi) (hnl : mi_nl M) (hi : isr M a) (hN : N ≤ 8) (hf : ∀ j, j < N → f j = M.2.2 25 j) : nmG M gi u N f a ↔ nmM M u N a := by
  unfold nmG nmM
  constructor
  · rintro ⟨h1, h2, h3, h4⟩
    have h8 := bt_iff.mp (hnl a hi h1)
    have hc := cl_toInt (x := M.2.2 32 a) h8.1
    refine ⟨h1, h2, by rw [← h3, nI_cl h8.1], fun j hj => ?_⟩
    rw [← hs a hi h1 j (by omega), h4 j hj, hf j hj]
  · rintro ⟨h1, h2, h3, h4⟩
    refine ⟨h1, h2, by rw [h3]; exact nI_clamp (by omega), fun j hj => ?_⟩
    rw [hs a hi h1 j (by rw [h3, nI_toInt (by omega)]; omega), h4 j hj, hf j hj]
/-- the first like-named one is its own first -/
theorem lk_own {M : MS} {u : Int32} {N a : Nat} (hlk : mi_lk M) (hi : isr M a) (hN : N ≤ 8) (h : nmM M u N a) (hm : ∀ b, b < a → ¬ nmM M u N b) : M.2.2 34 a = nI a := by
  obtain ⟨h1, h2, h3, h4, h5, h6⟩ := hlk a hi h.1
  by_cases hz : (M.2.2 34 a).toNatClampNeg = a
  · rw [h2, hz]
  · exfalso
    refine hm _ (Nat.lt_of_le_of_ne h1 hz) ⟨h3, h4.trans h.2.1, h5.trans h.2.2.1, fun j hj => ?_⟩
    rw [h6 j (by rw [h.2.2.1, nI_toInt (by omega)]; omega)]
    exact h.2.2.2 j hj
theorem b_fit : ∀ n : Nat, n < 128 → fits .byte (.int (nI n)) = true := by decide +kernel
theorem bt_fit {c : Int32} (h : bt c 32 126 = true) : fits .byte (.int c) = true := by
  obtain ⟨n, rfl, hn⟩ := bt_ex (bt_wk h (a' := 0) (by decide) (Int.le_refl _))
  exact b_fit n (by omega)
set_option maxRecDepth 100000 in
set_option maxHeartbeats 4000000 in
theorem kX10_file (G : GG) (l : Launch) (M : MS) (ad : AD) (gi : GI) (w : WM) (hL : RLa G M ad gi w) (hrc : mi_refs M) (hN : bt (M.1 26) 0 8) (hFF : mi_ff M) (hsf : mi_sf M) (hfr : mi_fr M) (hnl : mi_nl M) (hlk : mi_lk M) (hnb : mi_nb M) (u : Int32) : MC G l yX10_file cX10_file 3 ((Option.some .int)) ({ frames := 8, cells := 5, slots := 87, locals := 196 } : Room) [.ref (ad 0 0), .int u] w (fun v w' => v = some (.int (mo_file M u).1) ∧ ∃ ad' gi', RLa G (mo_file M u).2 ad' gi' w' ∧ ad' 0 0 = ad 0 0) := by
  refine mc_int (by decide) (Nat.le_of_ble_eq_true rfl) rfl rfl ?_
  intro p e s m args below meth c A H0 Q X hnm RTN
  have X : Cx G p s m args meth c A H0 cX10_file 3 RX10 := X
  have k0_ : w (ad 0 0) = some (.inr (11, [.ref (ad 1 0), .ref (ad 2 0), .ref (ad 3 0), .ref (ad 4 0), .ref (ad 5 0), .ref (ad 6 0), va_rf (sAd M ad (M.1 20)), .int (M.1 7), .int (M.1 29), .int (M.1 38), .int ((M.2.1 21).toInt32), .int ((M.2.1 22).toInt32), .int (M.1 5)])) := hL.1 0 0 (lvf 0 (by decide))
  have k4_ : w (ad 4 0) = some (rA (gA G 6) 20 (cF M ad)) := hL.1 4 0 (lvf 4 (by decide))
  have k5_ : w (ad 5 0) = some (.inr (6, [.ref (ad 9 0), .int (M.1 27), .int (M.1 28)])) := hL.1 5 0 (lvf 5 (by decide))
  have k9_ : w (ad 9 0) = some (.inr (1, [.ref (ad 10 0), .int 0, .int (gi 7 0 0), .int (M.1 26)])) := hL.1 9 0 (lvf 9 (by decide))
  have k10_ : w (ad 10 0) = some (.inl (gA G 1, 16, .inl (gi 4 0))) := hL.1 10 0 (lvf 10 (by decide))
  refine aw_iload_n X dX10_file_0 rfl rfl ?_
  refine aw_callS X (kX10_isUse _ _ _ _) okm_X10_isUse ml_X10_276 st_X10_isUse rfl rfl (Nat.le_of_ble_eq_true rfl) ⟨Nat.le_of_ble_eq_true rfl, Nat.le_of_ble_eq_true rfl, Nat.le_of_ble_eq_true rfl, Nat.le_of_ble_eq_true rfl⟩ dX10_file_1 (fun v w2 hp => ?_)
  obtain ⟨rfl, hw9⟩ := hp
  have hw9 := hw9.symm
  subst hw9
  refine aw_if_ne (tgt := 10) X dX10_file_4 rfl (fun c4 => ?_) (fun c4 => ?_)
  · rw [bI_n0] at c4
    refine aw_aload_n X dX10_file_10 rfl rfl ?_
    refine aw_get X okX10 (k := 4) k0_ (Nat.le_of_ble_eq_true rfl) fl_X10_35 (Or.inl rfl) rfl dX10_file_11 ?_
    refine aw_get X okX4 (k := 0) k5_ (Nat.le_of_ble_eq_true rfl) fl_X10_267 (Or.inl rfl) rfl dX10_file_14 ?_
    refine aw_callV X (kJ4_length_8abf5 _ _ _ _ _ _ _ k9_) okm_J4_length_8abf5 okJ4 k9_ ml_X10_271 im_J4_length_8abf5 se_J4_J4_length_8abf5 rfl rfl (Nat.le_of_ble_eq_true rfl) ⟨Nat.le_of_ble_eq_true rfl, Nat.le_of_ble_eq_true rfl, Nat.le_of_ble_eq_true rfl, Nat.le_of_ble_eq_true rfl⟩ dX10_file_17 (fun v w2 hp => ?_)
    obtain ⟨rfl, hw9⟩ := hp
    have hw9 := hw9.symm
    subst hw9
    refine aw_if_ne (tgt := 33) X dX10_file_20 rfl (fun c20 => ?_) (fun c20 => ?_)
    · refine aw_aload_n X dX10_file_33 rfl rfl ?_
      refine aw_get X okX10 (k := 8) k0_ (Nat.le_of_ble_eq_true rfl) fl_X10_282 (Or.inl rfl) rfl dX10_file_34 ?_
      refine aw_bipush X dX10_file_37 cb_20 ?_
      refine aw_icmp_lt (tgt := 45) X dX10_file_39 rfl (fun c39 => ?_) (fun c39 => ?_)
      · have brc := bt_iff.mp hrc
        have h20 : bt (M.1 29) 0 19 = true := by rw [i32_lt] at c39; have e20 : (20 : Int32).toInt = 20 := rfl; exact bt_iff.mpr ⟨by omega, by omega⟩
        obtain ⟨N, hN8, e26, _⟩ := bt_nat (hi := 8) hN
        have hN0 : N ≠ 0 := fun z => c20 (by rw [e26, z]; rfl)
        have k9N : w (ad 9 0) = some (.inr (1, [.ref (ad 10 0), .int 0, .int (gi 7 0 0), .int (nI N)])) := by rw [← e26]; exact k9_
        have hj2 : ∀ j : Nat, j < N → (j : Int) < (M.1 26).toInt := fun j hj => by rw [e26, nI_toInt (by omega)]; omega
        have hft : ∀ j, j < N → fits .byte (.int (gi 4 0 j)) = true := fun j hj => by rw [hL.2.2.2.2.2.1 j (hj2 j hj)]; exact bt_fit (hnb j (hj2 j hj))
        have h260 : 0 ≤ nI N := nI_pos' (by omega)
        refine aw_aload_n X dX10_file_45 rfl rfl ?_
        refine aw_get X okX10 (k := 4) k0_ (Nat.le_of_ble_eq_true rfl) fl_X10_35 (Or.inl rfl) rfl dX10_file_46 ?_
        refine aw_get X okX4 (k := 0) k5_ (Nat.le_of_ble_eq_true rfl) fl_X10_267 (Or.inl rfl) rfl dX10_file_49 ?_
        refine aw_callV X (kJ4_toString_0e30d _ _ _ _ _ N _ (by omega) k9N _ k10_ hft) okm_J4_toString_0e30d okJ4 k9N ml_X10_285 im_J4_toString_0e30d se_J4_J4_toString_0e30d rfl rfl (Nat.le_of_ble_eq_true rfl) ⟨Nat.le_of_ble_eq_true rfl, Nat.le_of_ble_eq_true rfl, Nat.le_of_ble_eq_true rfl, Nat.le_of_ble_eq_true rfl⟩ dX10_file_52 (fun v w2 hp => ?_)
        obtain ⟨so101, va102, rfl, hf103, hf104, hne105, hk106, hk107, hb108⟩ := hp
        have hk109 := (hb108 (ad 0 0) (ne_fr k0_ hf103) (ne_fr k0_ hf104)).trans k0_
        have hk110 := (hb108 (ad 4 0) (ne_fr k4_ hf103) (ne_fr k4_ hf104)).trans k4_
        have hk111 := (hb108 (ad 5 0) (ne_fr k5_ hf103) (ne_fr k5_ hf104)).trans k5_
        have hk112 := (hb108 (ad 9 0) (ne_fr k9N hf103) (ne_fr k9N hf104)).trans k9N
        have hk113 := (hb108 (ad 10 0) (ne_fr k10_ hf103) (ne_fr k10_ hf104)).trans k10_
        have hLa : RLa G M ad gi w2 := rl_ext hL (fun c hc => hb108 c (fun z => hc (by rw [z]; exact hf103)) (fun z => hc (by rw [z]; exact hf104)))
        refine aw_astore_n (lv' := [(2, _), (0, _), (1, _)]) X dX10_file_55 rfl (by decide) rfl ?_
        refine aw_aload_n X dX10_file_56 rfl rfl ?_
        refine aw_get X okX10 (k := 4) hk109 (Nat.le_of_ble_eq_true rfl) fl_X10_35 (Or.inl rfl) rfl dX10_file_57 ?_
        refine aw_callV X (kX4_begin _ _ _ _ _ _ _ _ _ _ hk111 hk112 _ hk113 h260) okm_X4_begin okX4 hk111 ml_X10_279 im_X4_begin se_X4_X4_begin rfl rfl (Nat.le_of_ble_eq_true rfl) ⟨Nat.le_of_ble_eq_true rfl, Nat.le_of_ble_eq_true rfl, Nat.le_of_ble_eq_true rfl, Nat.le_of_ble_eq_true rfl⟩ dX10_file_60 (fun v w2 hp => ?_)
        obtain ⟨rfl, hk114, hk115, hb116⟩ := hp
        have hk117 := (hb116 (ad 0 0) (rl_ne hL (t := 0) (i := 0) (t' := 5) (i' := 0) (lvf 0 (by decide)) (lvf 5 (by decide)) (Or.inl rfl) (fun z => absurd z.1 (by decide))) (rl_ne hL (t := 0) (i := 0) (t' := 9) (i' := 0) (lvf 0 (by decide)) (lvf 9 (by decide)) (Or.inl rfl) (fun z => absurd z.1 (by decide)))).trans hk109
        have hk118 := (hb116 (ad 4 0) (rl_ne hL (t := 4) (i := 0) (t' := 5) (i' := 0) (lvf 4 (by decide)) (lvf 5 (by decide)) (Or.inl rfl) (fun z => absurd z.1 (by decide))) (rl_ne hL (t := 4) (i := 0) (t' := 9) (i' := 0) (lvf 4 (by decide)) (lvf 9 (by decide)) (Or.inl rfl) (fun z => absurd z.1 (by decide)))).trans hk110
        have hk119 := (hb116 (ad 10 0) (rl_ne hL (t := 10) (i := 0) (t' := 5) (i' := 0) (lvf 10 (by decide)) (lvf 5 (by decide)) (Or.inl rfl) (fun z => absurd z.1 (by decide))) (rl_ne hL (t := 10) (i := 0) (t' := 9) (i' := 0) (lvf 10 (by decide)) (lvf 9 (by decide)) (Or.inl rfl) (fun z => absurd z.1 (by decide)))).trans hk113
        have hk120 := (hb116 so101 (Ne.symm (ne_fr k5_ hf103)) (Ne.symm (ne_fr k9N hf103))).trans hk106
        have hk121 := (hb116 va102 (Ne.symm (ne_fr k5_ hf104)) (Ne.symm (ne_fr k9N hf104))).trans hk107
        have hL1 : RLa G (sI (sI M 26 0) 27 0) ad (gu gi 7 0 (fun _ => 1)) w2 := rl_bld hLa (fun k _ => rfl) (fun k h1 h2 h3 h4 => (sI_n h3).trans (sI_n h2)) rfl (fun t h1 h2 => gu_n h2) hk114 (by have h := hk115; rw [if_neg (fun z => by rw [i32_le, nI_toInt (by omega)] at z; have e0 : (0 : Int32).toInt = 0 := rfl; omega)] at h; exact h) hk119 (fun j hj => absurd hj (by show ¬ (j : Int) < (0 : Int32).toInt; have e0 : (0 : Int32).toInt = 0 := rfl; omega)) (fun b h1 h2 h3 => hb116 b h1 h2)
        generalize hw3 : w2 = w3 at *
        refine aw_aload_n X dX10_file_63 rfl rfl ?_
        refine aw_new2 X okX6 cl_X10_26 is_X6 in_X6 rfl (Nat.le_of_ble_eq_true rfl) (Nat.le_of_ble_eq_true rfl) dX10_file_64 (fun q122 w123 hf124 hk125 hn126 he127 => ?_)
        have hk128 := (hn126 _ (ne_fr hk117 hf124)).trans hk117
        have hk129 := (hn126 _ (ne_fr hk118 hf124)).trans hk118
        have hk130 := (hn126 _ (ne_fr hk114 hf124)).trans hk114
        have hk131 := (hn126 _ (ne_fr hk115 hf124)).trans hk115
        have hk132 := (hn126 _ (ne_fr hk119 hf124)).trans hk119
        have hk133 := (hn126 _ (ne_fr hk120 hf124)).trans hk120
        have hk134 := (hn126 _ (ne_fr hk121 hf124)).trans hk121
        refine aw_dup X dX10_file_67 rfl ?_
        refine aw_iload_n X dX10_file_68 rfl rfl ?_
        refine aw_aload_n X dX10_file_69 rfl rfl ?_
        refine aw_iconst X dX10_file_70 ci_0 ?_
        refine aw_aload_n X dX10_file_71 rfl rfl ?_
        refine aw_iload_n X dX10_file_72 rfl rfl ?_
        refine aw_aload_n X dX10_file_73 rfl rfl ?_
        have hL2 : RLa G (sI (sI M 26 0) 27 0) ad (gu gi 7 0 (fun _ => 1)) w123 := rl_ext hL1 (fun c hc => by rw [he127]; exact wm_upn (fun z => hc (by rw [z]; exact hf124)))
        refine aw_callV X (kX10_fileNamed _ _ _ _ _ _ hL2 hrc hnl u so101 va102 N (by omega) _ hk133 hk134 (fun i hi h33 => Ne.symm (fr_ad hL hf103 18 i ⟨hi, h33⟩))) okm_X10_fileNamed okX10 hk128 ml_X10_289 im_X10_fileNamed se_X10_X10_fileNamed rfl rfl (Nat.le_of_ble_eq_true rfl) ⟨Nat.le_of_ble_eq_true rfl, Nat.le_of_ble_eq_true rfl, Nat.le_of_ble_eq_true rfl, Nat.le_of_ble_eq_true rfl⟩ dX10_file_74 (fun v w2 hp => ?_)
        obtain ⟨fa135, rfl, hx136, hc137⟩ := hp
        have hk138 := (hx136 (ad 0 0) (fun z => by rw [hk128] at z; cases z)).trans hk128
        have hk139 := (hx136 (ad 4 0) (fun z => by rw [hk129] at z; cases z)).trans hk129
        have hk140 := (hx136 (ad 5 0) (fun z => by rw [hk130] at z; cases z)).trans hk130
        have hk141 := (hx136 (ad 9 0) (fun z => by rw [hk131] at z; cases z)).trans hk131
        have hk142 := (hx136 (ad 10 0) (fun z => by rw [hk132] at z; cases z)).trans hk132
        have hk143 := (hx136 so101 (fun z => by rw [hk133] at z; cases z)).trans hk133
        have hk144 := (hx136 va102 (fun z => by rw [hk134] at z; cases z)).trans hk134
        have hk145 := (hx136 q122 (fun z => by rw [hk125] at z; cases z)).trans hk125
        refine aw_callI X (kX6_init _ _ _ q122 so101 fa135 _ _ (Or.inl rfl) hk145) okm_X6_init rfl ml_X10_293 im_X6_init rfl rfl (Nat.le_of_ble_eq_true rfl) ⟨Nat.le_of_ble_eq_true rfl, Nat.le_of_ble_eq_true rfl, Nat.le_of_ble_eq_true rfl, Nat.le_of_ble_eq_true rfl⟩ dX10_file_77 (fun v w2 hp => ?_)
        obtain ⟨rfl, hw146⟩ := hp
        have hk147 := (congrFun hw146 q122).trans wm_ups
        have hk148 := ((congrFun hw146 (ad 0 0)).trans (wm_upn (ne_ci hk138 hk145 (by decide)))).trans hk138
        have hk149 := ((congrFun hw146 (ad 4 0)).trans (wm_upn (Ne.symm (ne_oa hk145 hk139)))).trans hk139
        have hk150 := ((congrFun hw146 (ad 5 0)).trans (wm_upn (ne_ci hk140 hk145 (by decide)))).trans hk140
        have hk151 := ((congrFun hw146 (ad 9 0)).trans (wm_upn (ne_ci hk141 hk145 (by decide)))).trans hk141
        have hk152 := ((congrFun hw146 (ad 10 0)).trans (wm_upn (Ne.symm (ne_oa hk145 hk142)))).trans hk142
        have hk153 := ((congrFun hw146 so101).trans (wm_upn (ne_ci hk143 hk145 (by decide)))).trans hk143
        have hk154 := ((congrFun hw146 va102).trans (wm_upn (Ne.symm (ne_oa hk145 hk144)))).trans hk144
        have hoo : ∀ c, c ≠ q122 → w3 c ≠ none → w2 c = w3 c := fun c h1 h2 => by rw [hw146, wm_upn h1, hx136 c (by rw [he127, wm_upn h1]; exact h2), he127, wm_upn h1]
        have hL6 : RLa G (sI (sI M 26 0) 27 0) ad (gu gi 7 0 (fun _ => 1)) w2 := rl_ext hL1 (fun c hc => hoo c (fun z => hc (by rw [z]; exact hf124)) hc)
        generalize hw6 : w2 = w6 at *
        refine aw_callV X (kX10_refer _ _ _ _ _ _ hL6 h20 q122 _ _ _ _ hk147) okm_X10_refer okX10 hk148 ml_X10_296 im_X10_refer se_X10_X10_refer rfl rfl (Nat.le_of_ble_eq_true rfl) ⟨Nat.le_of_ble_eq_true rfl, Nat.le_of_ble_eq_true rfl, Nat.le_of_ble_eq_true rfl, Nat.le_of_ble_eq_true rfl⟩ dX10_file_80 (fun v w2 hp => ?_)
        obtain ⟨rfl, hA4, hA0, hAb⟩ := hp
        refine RTN (some (.int _)) _ _ _ _ _ dX10_file_83 (⟨_, rfl⟩) (Nat.le_of_ble_eq_true rfl) (Nat.le_of_ble_eq_true rfl) ?_
        have h9 : ¬ M.1 29 = 20 := by intro h; rw [h] at c39; exact absurd c39 (by decide)
        obtain ⟨R, hR20, e29, _⟩ := bt_nat (hi := 19) h20
        have hcR : (M.1 29).toNatClampNeg = R := by rw [e29]; exact nI_clamp (by omega)
        have tR : (M.1 29).toInt = R := by rw [e29]; exact nI_toInt (by omega)
        have hm : mo_file M u = (M.1 29, sI (sI (sF (mo_f2 M u) 34 (M.1 29).toNatClampNeg (nI (mo_ff (mo_f2 M u) (M.1 29)))) 26 0) 27 0) := by unfold mo_file; rw [if_pos c4, if_neg c20, if_neg h9]
        rw [hm]
        obtain ⟨A1, A2, A3, A4, A5, A6, A7, A8, A9, A10⟩ := fil_facts (u := u) e29 (by omega) e26 hN8 (mo_ff (mo_f2 M u) (M.1 29))
        have hfb : ∀ j, j < N → (va_cpy (gi 4 0) (fun _ => 0) 0 0 N) j = M.2.2 25 j := fun j hj => by unfold va_cpy; rw [if_pos (by omega), Nat.zero_add, Nat.sub_zero]; exact hL.2.2.2.2.2.1 j (by rw [e26, nI_toInt (by omega)]; omega)
        have hGM : ∀ a, isr M a → (nmG M gi u N (va_cpy (gi 4 0) (fun _ => 0) 0 0 N) a ↔ nmM M u N a) := fun a ha => nm_GM hL.2.2.2.2.2.2.1 hnl ha hN8 hfb
        have q1w : w q122 = none := by by_cases hz : q122 = so101; rw [hz]; exact hf103; by_cases hz2 : q122 = va102; rw [hz2]; exact hf104; rw [← hb108 q122 hz hz2]; by_cases h5 : q122 = ad 5 0; have h := hf124; rw [h5, hL1.1 5 0 (lvf 5 (by decide))] at h; cases h; by_cases h9 : q122 = ad 9 0; have h := hf124; rw [h9, hL1.1 9 0 (lvf 9 (by decide))] at h; cases h; rw [← hb116 q122 h5 h9]; exact hf124
        have nqs : q122 ≠ so101 := Ne.symm (ne_fr hk120 hf124)
        have nqv : q122 ≠ va102 := Ne.symm (ne_fr hk121 hf124)
        rcases hc137 with ⟨a, ha, hna, hmin, hfa, hw5⟩ | ⟨hno, pa, p1, p2, p3, p4, p5, p6⟩
        · have haR : a < R := by have h : (a : Int) < (M.1 29).toInt := ha; omega
          have hnm := (hGM a ha).mp hna
          have hmn : ∀ b, b < a → ¬ nmM M u N b := fun b hb h => hmin b hb ((hGM b (by unfold isr; omega)).mpr h)
          have h34 := lk_own hlk ha hN8 hnm hmn
          have hff : mo_ff (mo_f2 M u) (M.1 29) = a := ff_at (by omega) (by rw [e29]; exact (lk_nm e29 (by omega) e26 hN8 haR).mpr hnm) (fun b hb h => hmn b hb ((lk_nm e29 (by omega) e26 hN8 (by omega)).mp (by rw [← e29]; exact h)))
          refine ⟨rfl, _, _, rl_filO (q1 := q122) (s1 := so101) (v1 := va102) hL1 hrc hFF hsf hnl a haR (by rw [hff]) (by rw [hfa]; show ad 15 (M.2.2 34 a).toNatClampNeg = _; rw [h34, nI_clamp (by omega)]) hcR.symm (by omega) A1 A2 A3 A4 A5 A6 A7 A8 A9 hN8 (fun j hj => (hfb j hj).trans (A10 j hj).symm) (fun t i h => fr_ad (M := M) hL q1w t i h) (fun t i h => fr_ad (M := M) hL hf103 t i h) (fun t i h => fr_ad (M := M) hL hf104 t i h) nqs nqv hne105 (by rw [← hcR]; exact hA4) hA0 ((hAb q122 (fr_ad hL q1w 4 0 (lvf 4 (by decide))) (fr_ad hL q1w 0 0 (lvf 0 (by decide)))).trans hk147) ((hAb so101 (fr_ad hL hf103 4 0 (lvf 4 (by decide))) (fr_ad hL hf103 0 0 (lvf 0 (by decide)))).trans hk153) ((hAb va102 (fr_ad hL hf104 4 0 (lvf 4 (by decide))) (fr_ad hL hf104 0 0 (lvf 0 (by decide)))).trans hk154) (fun b h1 h2 h3 h4 h5 => ?_), rfl⟩
          rw [hAb b h2 h1, hw146, wm_upn h3, hw5, he127, wm_upn h3]
        · have hff : mo_ff (mo_f2 M u) (M.1 29) = R := ff_at (by omega) (by rw [e29]; exact lk_self (by rw [f2_33, nI_clamp (by omega), hcR]; exact upd_s)) (fun b hb h => hno b (by show (b : Int) < (M.1 29).toInt; omega) ((hGM b (by unfold isr; omega)).mpr ((lk_nm e29 (by omega) e26 hN8 hb).mp (by rw [← e29]; exact h))))
          have fw : ∀ c, w123 c = none → w c = none := fun c hcn => by by_cases h0 : c = q122; rw [h0]; exact q1w; by_cases hz : c = so101; rw [hz]; exact hf103; by_cases hz2 : c = va102; rw [hz2]; exact hf104; rw [← hb108 c hz hz2]; by_cases h5 : c = ad 5 0; rw [h5, he127, wm_upn (by rw [← h5]; exact h0), hL1.1 5 0 (lvf 5 (by decide))] at hcn; cases hcn; by_cases h9 : c = ad 9 0; rw [h9, he127, wm_upn (by rw [← h9]; exact h0), hL1.1 9 0 (lvf 9 (by decide))] at hcn; cases hcn; rw [← hb116 c h5 h9]; rw [he127, wm_upn h0] at hcn; exact hcn
          have n1 : q122 ≠ fa135 := ne_fr hk125 p1
          have n2 : q122 ≠ pa := ne_fr hk125 p2
          have n3 : so101 ≠ fa135 := ne_fr hk133 p1
          have n4 : so101 ≠ pa := ne_fr hk133 p2
          have n5 : va102 ≠ fa135 := ne_fr hk134 p1
          have n6 : va102 ≠ pa := ne_fr hk134 p2
          have q15 : w6 fa135 = some (.inr (10, [.ref pa, .int 0, .int 0])) := by rw [hw146, wm_upn (Ne.symm n1)]; exact p4
          have q16 : w6 pa = some (.inl (gA G 1, 60, .inl (fun _ => 0))) := by rw [hw146, wm_upn (Ne.symm n2)]; exact p5
          refine ⟨rfl, _, _, rl_filN (q1 := q122) (s1 := so101) (v1 := va102) (q2 := fa135) (pa := pa) hL1 hrc hFF hsf hnl hfr (by rw [hff]) rfl hcR.symm (by omega) A1 A2 A3 A4 A5 A6 A7 A8 A9 hN8 (fun j hj => (hfb j hj).trans (A10 j hj).symm) (fun t i h => fr_ad (M := M) hL q1w t i h) (fun t i h => fr_ad (M := M) hL hf103 t i h) (fun t i h => fr_ad (M := M) hL hf104 t i h) (fun t i h => fr_ad (M := M) hL (fw _ p1) t i h) (fun t i h => fr_ad (M := M) hL (fw _ p2) t i h) nqs nqv n1 n2 hne105 n3 n4 n5 n6 p3 (by rw [← hcR]; exact hA4) hA0 ((hAb q122 (fr_ad hL q1w 4 0 (lvf 4 (by decide))) (fr_ad hL q1w 0 0 (lvf 0 (by decide)))).trans hk147) ((hAb so101 (fr_ad hL hf103 4 0 (lvf 4 (by decide))) (fr_ad hL hf103 0 0 (lvf 0 (by decide)))).trans hk153) ((hAb va102 (fr_ad hL hf104 4 0 (lvf 4 (by decide))) (fr_ad hL hf104 0 0 (lvf 0 (by decide)))).trans hk154) ((hAb fa135 (fr_ad hL (fw _ p1) 4 0 (lvf 4 (by decide))) (fr_ad hL (fw _ p1) 0 0 (lvf 0 (by decide)))).trans q15) ((hAb pa (fr_ad hL (fw _ p2) 4 0 (lvf 4 (by decide))) (fr_ad hL (fw _ p2) 0 0 (lvf 0 (by decide)))).trans q16) (fun b h1 h2 h3 h4 h5 h6 h7 => ?_), rfl⟩
          rw [hAb b h2 h1, hw146, wm_upn h3, p6 b h6 h7, he127, wm_upn h3]
      · refine aw_bipush X dX10_file_42 cb_m5 ?_
        refine RTN (some (.int _)) _ _ _ _ _ dX10_file_44 (⟨_, rfl⟩) (Nat.le_of_ble_eq_true rfl) (Nat.le_of_ble_eq_true rfl) ?_
        have h9 : M.1 29 = 20 := by have brc := bt_iff.mp hrc; rw [i32_lt] at c39; have e20 : (20 : Int32).toInt = 20 := rfl; exact (i32_eq _ 20).mpr (by omega)
        have hm : mo_file M u = (-5, sI M 0 0) := by unfold mo_file; rw [if_pos c4, if_neg c20, if_pos h9]
        rw [hm]
        exact ⟨rfl, ad, gi, rl_0 hL, rfl⟩
    · refine aw_aload_n X dX10_file_23 rfl rfl ?_
      refine aw_get X okX10 (k := 4) k0_ (Nat.le_of_ble_eq_true rfl) fl_X10_35 (Or.inl rfl) rfl dX10_file_24 ?_
      have h260 : 0 ≤ M.1 26 := by rw [c20]; decide
      refine aw_callV X (kX4_begin _ _ _ _ _ _ _ _ _ _ k5_ k9_ _ k10_ h260) okm_X4_begin okX4 k5_ ml_X10_279 im_X4_begin se_X4_X4_begin rfl rfl (Nat.le_of_ble_eq_true rfl) ⟨Nat.le_of_ble_eq_true rfl, Nat.le_of_ble_eq_true rfl, Nat.le_of_ble_eq_true rfl, Nat.le_of_ble_eq_true rfl⟩ dX10_file_27 (fun v w2 hp => ?_)
      obtain ⟨rfl, hk155, hk156, hb157⟩ := hp
      have hk158 := (hb157 (ad 0 0) (rl_ne hL (t := 0) (i := 0) (t' := 5) (i' := 0) (lvf 0 (by decide)) (lvf 5 (by decide)) (Or.inl rfl) (fun z => absurd z.1 (by decide))) (rl_ne hL (t := 0) (i := 0) (t' := 9) (i' := 0) (lvf 0 (by decide)) (lvf 9 (by decide)) (Or.inl rfl) (fun z => absurd z.1 (by decide)))).trans k0_
      have hk159 := (hb157 (ad 4 0) (rl_ne hL (t := 4) (i := 0) (t' := 5) (i' := 0) (lvf 4 (by decide)) (lvf 5 (by decide)) (Or.inl rfl) (fun z => absurd z.1 (by decide))) (rl_ne hL (t := 4) (i := 0) (t' := 9) (i' := 0) (lvf 4 (by decide)) (lvf 9 (by decide)) (Or.inl rfl) (fun z => absurd z.1 (by decide)))).trans k4_
      have hk160 := (hb157 (ad 10 0) (rl_ne hL (t := 10) (i := 0) (t' := 5) (i' := 0) (lvf 10 (by decide)) (lvf 5 (by decide)) (Or.inl rfl) (fun z => absurd z.1 (by decide))) (rl_ne hL (t := 10) (i := 0) (t' := 9) (i' := 0) (lvf 10 (by decide)) (lvf 9 (by decide)) (Or.inl rfl) (fun z => absurd z.1 (by decide)))).trans k10_
      refine aw_bipush X dX10_file_30 cb_m4 ?_
      refine RTN (some (.int _)) _ _ _ _ _ dX10_file_32 (⟨_, rfl⟩) (Nat.le_of_ble_eq_true rfl) (Nat.le_of_ble_eq_true rfl) ?_
      have hm : mo_file M u = (-4, sI (sI M 0 0) 27 0) := by unfold mo_file; rw [if_pos c4, if_pos c20]
      rw [hm]
      exact ⟨rfl, ad, gi, rl_bld hL (fun k _ => rfl) (fun k h1 h2 h3 h4 => (sI_n h3).trans (sI_n h1)) rfl (fun t h1 h2 => rfl) hk155 (by have h := hk156; rw [if_pos (by rw [c20]; decide)] at h; rw [h]; exact congrArg (fun x => some (Sum.inr (1, [Value.ref (ad 10 0), Value.int 0, Value.int (gi 7 0 0), Value.int x]))) c20.symm) hk160 hL.2.2.2.2.2.1 (fun b h1 h2 h3 => hb157 b h1 h2), rfl⟩
  · rw [bI_0] at c4
    refine aw_bipush X dX10_file_7 cb_m3 ?_
    refine RTN (some (.int _)) _ _ _ _ _ dX10_file_9 (⟨_, rfl⟩) (Nat.le_of_ble_eq_true rfl) (Nat.le_of_ble_eq_true rfl) ?_
    have hm : mo_file M u = (-3, sI M 0 0) := by simp only [mo_file, c4, if_true, if_false, not_true_eq_false, not_false_eq_true, and_self, true_and, and_true, false_and, and_false, or_true, true_or, or_false, false_or, reduceCtorEq, ne_eq, va_us, pk_us]
    rw [hm]
    exact ⟨rfl, ad, gi, rl_0 hL, rfl⟩
