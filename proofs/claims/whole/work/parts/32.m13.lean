/-! putOn: the chain of echoes -/
def PI (M : MS) : Prop := mi_size M ∧ mi_arr M ∧ mi_place M ∧ mi_kind M ∧ mi_file M ∧ mi_last M
def mi_ech (r : Nat → Nat) (M : MS) : Prop := ∀ k, k < 8 → 0 < M.2.2 17 k → ∃ t, mo_pl M (M.2.2 17 k) = some t ∧ r t < r k
/-- what putInto leaves as it was -/
theorem cnt_f (M : MS) (k : Nat) {j : Nat} (h : j ≠ 13) : (mo_cnt M k).2.2 j = M.2.2 j := by
  show va_up M.2.2 13 _ j = _
  rw [va_up_ne _ _ h]
theorem sF_f (M : MS) (a i : Nat) (v : Int32) {j : Nat} (h : j ≠ a) : (sF M a i v).2.2 j = M.2.2 j := by
  show va_up M.2.2 a _ j = _
  rw [va_up_ne _ _ h]
theorem pi_f (M : MS) (k c : Int32) {j : Nat} (h4 : j ≠ 4) (h11 : j ≠ 11) (h13 : j ≠ 13) (h18 : j ≠ 18) (h19 : j ≠ 19) (h36 : j ≠ 36) (h37 : j ≠ 37) : (mo_pi M k c).2.2.2 j = M.2.2 j := by
  unfold mo_pi
  split
  · rfl
  · split
    · show (mo_cnt _ _).2.2 j = _
      rw [cnt_f _ _ h13]; unfold mo_pp
      rw [sF_f _ _ _ _ h19, sF_f _ _ _ _ h18, sh_f _ _ h18]
    · split
      · split
        · split
          · show (mo_cnt _ _).2.2 j = _
            rw [cnt_f _ _ h13]; unfold mo_pm
            rw [sF_f _ _ _ _ h11, sF_f _ _ _ _ h4]
          · rfl
        · show (mo_cnt _ _).2.2 j = _
          rw [cnt_f _ _ h13]
      · split
        · show (mo_cnt _ _).2.2 j = _
          rw [cnt_f _ _ h13]; unfold mo_pfl mo_fl
          rw [sF_f _ _ _ _ h11, sF_f _ _ _ _ h36, fb_f _ _ _ _ h37]
        · rfl
theorem upd_bt {f : Nat → Int32} {i k : Nat} {x : Int32} {lo hi : Int} (h : bt (f k) lo hi) (hx : bt x lo hi) : bt (upd f i x k) lo hi := by
  by_cases hk : k = i
  · rw [hk, pk_us]; exact hx
  · rw [pk_un hk]; exact h
theorem sF_us (M : MS) (a i : Nat) (v : Int32) : (sF M a i v).2.2 a = upd (M.2.2 a) i v := va_us
theorem pi_place {M : MS} {k c : Int32} (hP : PI M) (hk : bt k 0 7) : mi_place (mo_pi M k c).2 := by
  obtain ⟨hS, hA, hPl, hKd, hFl, hLa⟩ := hP
  have hkl : k.toNatClampNeg < 8 := cl_lt hk (by decide) (by decide)
  have p1 := bt_iff.mp (hPl _ hkl)
  have e1 := ti_add (a := M.2.2 11 k.toNatClampNeg) (b := 1) (y := 1) rfl rfl (by omega)
  intro i hi
  unfold mo_pi
  split
  · exact hPl i hi
  · split
    · show bt ((mo_cnt _ _).2.2 11 i) 0 60 = true
      rw [cnt_f _ _ (by decide)]; unfold mo_pp
      rw [sF_f _ _ _ _ (by decide), sF_f _ _ _ _ (by decide), sh_f _ _ (by decide)]
      exact hPl i hi
    · split
      · split
        · rename_i hlt
          split
          · show bt ((mo_cnt _ _).2.2 11 i) 0 60 = true
            rw [cnt_f _ _ (by decide)]; unfold mo_pm
            rw [sF_us, sF_f _ _ _ _ (by decide)]
            refine upd_bt (hPl i hi) ?_
            have l1 := bt_iff.mp (hLa _ hkl)
            rw [i32_lt] at hlt
            exact bt_iff.mpr ⟨by omega, by omega⟩
          · exact hPl i hi
        · show bt ((mo_cnt _ _).2.2 11 i) 0 60 = true
          rw [cnt_f _ _ (by decide)]
          exact hPl i hi
      · split
        · rename_i hen
          show bt ((mo_cnt _ _).2.2 11 i) 0 60 = true
          rw [cnt_f _ _ (by decide)]; unfold mo_pfl mo_fl
          rw [sF_us, sF_f _ _ _ _ (by decide), fb_f _ _ _ _ (by decide)]
          refine upd_bt (hPl i hi) ?_
          have e2 := en_i (hPl _ hkl)
          rw [i32_le] at hen
          have e60 : (60 : Int32).toInt = 60 := rfl
          rcases w_or M k.toNatClampNeg with h | h <;> rw [h] at e2 <;> exact bt_iff.mpr ⟨by omega, by omega⟩
        · exact hPl i hi
theorem pi_PI {M : MS} {k c : Int32} (hP : PI M) (hk : bt k 0 7) : PI (mo_pi M k c).2 := by
  have hp := pi_place (c := c) hP hk
  obtain ⟨hS, hA, hPl, hKd, hFl, hLa⟩ := hP
  have f := fun j h4 h11 h13 h18 h19 h36 h37 => pi_f M k c (j := j) h4 h11 h13 h18 h19 h36 h37
  refine ⟨?_, ?_, hp, ?_, ?_, ?_⟩
  · intro i hi; rw [f 3 (by decide) (by decide) (by decide) (by decide) (by decide) (by decide) (by decide)]; exact hS i hi
  · intro i hi; rw [f 15 (by decide) (by decide) (by decide) (by decide) (by decide) (by decide) (by decide)]; exact hA i hi
  · intro i hi; rw [f 8 (by decide) (by decide) (by decide) (by decide) (by decide) (by decide) (by decide), f 10 (by decide) (by decide) (by decide) (by decide) (by decide) (by decide) (by decide)]; exact hKd i hi
  · intro i hi; rw [f 8 (by decide) (by decide) (by decide) (by decide) (by decide) (by decide) (by decide), f 16 (by decide) (by decide) (by decide) (by decide) (by decide) (by decide) (by decide)]; exact hFl i hi
  · intro i hi; rw [f 12 (by decide) (by decide) (by decide) (by decide) (by decide) (by decide) (by decide)]; exact hLa i hi
theorem pl_congr {M N : MS} (h : N.2.2 6 = M.2.2 6) (t : Int32) : mo_pl N t = mo_pl M t := by unfold mo_pl; rw [h]
theorem pi_ech {M : MS} {k c : Int32} {r : Nat → Nat} (h : mi_ech r M) : mi_ech r (mo_pi M k c).2 := by
  intro i hi hpos
  rw [pi_f M k c (j := 17) (by decide) (by decide) (by decide) (by decide) (by decide) (by decide) (by decide)] at hpos ⊢
  rw [pl_congr (pi_f M k c (j := 6) (by decide) (by decide) (by decide) (by decide) (by decide) (by decide) (by decide))]
  exact h i hi hpos
def mo_ch : Nat → MS → Int32 → Int32 → Int32 × MS
  | 0, M, _, _ => (1, M)
  | n + 1, M, to, c =>
    if M.2.2 8 to.toNatClampNeg = 0 ∧ 0 < M.2.2 17 to.toNatClampNeg then
      (if (-10) ≤ (mo_pi M (oI (mo_pl M (M.2.2 17 to.toNatClampNeg))) c).1 then mo_ch n (mo_pi M (oI (mo_pl M (M.2.2 17 to.toNatClampNeg))) c).2 (oI (mo_pl M (M.2.2 17 to.toNatClampNeg))) c
       else mo_pi M (oI (mo_pl M (M.2.2 17 to.toNatClampNeg))) c)
    else (1, M)
def mo_po (M : MS) (k c : Int32) : Int32 × MS := if 0 ≤ (mo_pi M k c).1 then mo_ch 8 (mo_pi M k c).2 k c else mo_pi M k c
set_option maxRecDepth 100000 in
set_option maxHeartbeats 4000000 in
theorem kX11_putOn (G : GG) (l : Launch) (q : Nat → Nat) (M : MS) (hq : mInj q) (hP : PI M) (r : Nat → Nat) (hr8 : ∀ k, r k < 8) (hE : mi_ech r M) (k c0 : Int32) (hk : bt k 0 7) : MC G l yX11_putOn cX11_putOn 6 ((Option.some .int)) ({ frames := 3, cells := 0, slots := 0, locals := 76 } : Room) [.ref (q 0), .int k, .int c0] (mw G q M) (fun v w' => v = some (.int (mo_po M k c0).1) ∧ w' = mw G q (mo_po M k c0).2) := by
  refine mc_int (by decide) (Nat.le_of_ble_eq_true rfl) rfl rfl ?_
  intro p e s m args below meth c A H0 Q X hnm RTN
  have X : Cx G p s m args meth c A H0 cX11_putOn 6 RX11 := X
  refine aw_aload_n X dX11_putOn_0 rfl rfl ?_
  refine aw_iload_n X dX11_putOn_1 rfl rfl ?_
  refine aw_iload_n X dX11_putOn_2 rfl rfl ?_
  refine aw_callV X (kX11_putInto _ _ _ _ hq hP.1 hP.2.1 hP.2.2.1 hP.2.2.2.1 hP.2.2.2.2.1 k _ (hk)) okm_X11_putInto okX11 mw_0 ml_X11_179 im_X11_putInto se_X11_X11_putInto rfl rfl (Nat.le_of_ble_eq_true rfl) ⟨Nat.le_of_ble_eq_true rfl, Nat.le_of_ble_eq_true rfl, Nat.le_of_ble_eq_true rfl, Nat.le_of_ble_eq_true rfl⟩ dX11_putOn_3 (fun v w2 hp => ?_)
  obtain ⟨rfl, rfl⟩ := hp
  refine aw_istore_n (lv' := [(3, _), (0, _), (1, _), (2, _)]) X dX11_putOn_6 rfl (by decide) rfl ?_
  refine aw_iload_n X dX11_putOn_7 rfl rfl ?_
  refine aw_if_ge (tgt := 13) X dX11_putOn_8 rfl (fun c8 => ?_) (fun c8 => ?_)
  · refine aw_iload_n X dX11_putOn_13 rfl rfl ?_
    refine aw_istore (lv' := [(4, _), (3, _), (0, _), (1, _), (2, _)]) X dX11_putOn_14 (by decide) rfl ?_
    have L : ∀ (nn : Nat) (N : MS) (to : Int32), PI N → mi_ech r N → bt to 0 7 = true → mo_ch nn N to c0 = mo_po M k c0 → r to.toNatClampNeg < nn → AW G p l e ({ frames := 3, cells := 0, slots := 0, locals := 76 } : Room) s m args below meth c 6 A H0 Q (mw G q N) 0 0 16 [(4, .int to), (0, .ref (q 0)), (1, .int k), (2, .int c0)] [] := by
      intro nn
      induction nn with
      | zero => intro N to hPN hEN hto hcc h2; exact absurd h2 (by omega)
      | succ nn ih =>
        intro N to hPN hEN hto hcc h2
        have htl : to.toNatClampNeg < 8 := cl_lt hto (by decide) (by decide)
        refine aw_iload X dX11_putOn_16 rfl ?_
        refine aw_if_lt (tgt := 76) X dX11_putOn_18 rfl (fun c18 => ?_) (fun c18 => ?_)
        · exact absurd c18 (by rw [i32_lt]; have := (bt_iff.mp hto).1; exact Int.not_lt.mpr this)
        · refine aw_aload_n X dX11_putOn_21 rfl rfl ?_
          refine am_get X 8 (Nat.le_of_ble_eq_true rfl) fl_X11_23 rfl rfl dX11_putOn_22 ?_
          refine aw_iload X dX11_putOn_25 rfl ?_
          refine am_ald X 8 _ (N.2.2 8) hq (by decide) rfl rfl rfl (bt_vp (hto) (by decide) (by decide)) dX11_putOn_27 ?_
          refine aw_if_ne (tgt := 76) X dX11_putOn_28 rfl (fun c28 => ?_) (fun c28 => ?_)
          · refine aw_iconst X dX11_putOn_76 ci_1 ?_
            refine RTN (some (.int _)) _ _ _ _ _ dX11_putOn_77 (⟨_, rfl⟩) (Nat.le_of_ble_eq_true rfl) (Nat.le_of_ble_eq_true rfl) ?_
            rw [← hcc]
            constructor <;> simp only [mo_ch, c28, and_self, and_true, true_and, and_false, false_and, if_true, if_false]
          · refine aw_aload_n X dX11_putOn_31 rfl rfl ?_
            refine am_get X 17 (Nat.le_of_ble_eq_true rfl) fl_X11_95 rfl rfl dX11_putOn_32 ?_
            refine aw_iload X dX11_putOn_35 rfl ?_
            refine am_ald X 17 _ (N.2.2 17) hq (by decide) rfl rfl rfl (bt_vp (hto) (by decide) (by decide)) dX11_putOn_37 ?_
            refine aw_if_le (tgt := 76) X dX11_putOn_38 rfl (fun c38 => ?_) (fun c38 => ?_)
            · refine aw_iconst X dX11_putOn_76 ci_1 ?_
              refine RTN (some (.int _)) _ _ _ _ _ dX11_putOn_77 (⟨_, rfl⟩) (Nat.le_of_ble_eq_true rfl) (Nat.le_of_ble_eq_true rfl) ?_
              rw [← hcc]
              constructor <;> simp only [mo_ch, c28, Int32.not_lt.mpr c38, and_self, and_true, true_and, and_false, false_and, if_true, if_false]
            · refine aw_aload_n X dX11_putOn_41 rfl rfl ?_
              refine aw_aload_n X dX11_putOn_42 rfl rfl ?_
              refine am_get X 17 (Nat.le_of_ble_eq_true rfl) fl_X11_95 rfl rfl dX11_putOn_43 ?_
              refine aw_iload X dX11_putOn_46 rfl ?_
              refine am_ald X 17 _ (N.2.2 17) hq (by decide) rfl rfl rfl (bt_vp (hto) (by decide) (by decide)) dX11_putOn_48 ?_
              rw [Int32.not_le] at c38
              obtain ⟨t9, ht9, hr9⟩ := hEN _ htl c38
              have hb9 : bt (oI (mo_pl N (N.2.2 17 to.toNatClampNeg))) 0 7 := by rw [ht9]; exact (bt_nI (by have := List.mem_range.mp (List.mem_of_find?_eq_some ht9); omega)).mpr ⟨by omega, by have := List.mem_range.mp (List.mem_of_find?_eq_some ht9); omega⟩
              have hc9 : (oI (mo_pl N (N.2.2 17 to.toNatClampNeg))).toNatClampNeg = t9 := by rw [ht9]; exact nI_clamp (by have := List.mem_range.mp (List.mem_of_find?_eq_some ht9); omega)
              refine aw_callV X (kX11_placeOf _ _ _ _ hq _) okm_X11_placeOf okX11 mw_0 ml_X11_183 im_X11_placeOf se_X11_X11_placeOf rfl rfl (Nat.le_of_ble_eq_true rfl) ⟨Nat.le_of_ble_eq_true rfl, Nat.le_of_ble_eq_true rfl, Nat.le_of_ble_eq_true rfl, Nat.le_of_ble_eq_true rfl⟩ dX11_putOn_49 (fun v w2 hp => ?_)
              obtain ⟨rfl, rfl⟩ := hp
              refine aw_istore (lv' := [(4, _), (0, _), (1, _), (2, _)]) X dX11_putOn_52 (by decide) rfl ?_
              refine aw_aload_n X dX11_putOn_54 rfl rfl ?_
              refine aw_iload X dX11_putOn_55 rfl ?_
              refine aw_iload_n X dX11_putOn_57 rfl rfl ?_
              refine aw_callV X (kX11_putInto _ _ _ _ hq hPN.1 hPN.2.1 hPN.2.2.1 hPN.2.2.2.1 hPN.2.2.2.2.1 (oI (mo_pl N (N.2.2 17 to.toNatClampNeg))) _ (hb9)) okm_X11_putInto okX11 mw_0 ml_X11_179 im_X11_putInto se_X11_X11_putInto rfl rfl (Nat.le_of_ble_eq_true rfl) ⟨Nat.le_of_ble_eq_true rfl, Nat.le_of_ble_eq_true rfl, Nat.le_of_ble_eq_true rfl, Nat.le_of_ble_eq_true rfl⟩ dX11_putOn_58 (fun v w2 hp => ?_)
              obtain ⟨rfl, rfl⟩ := hp
              refine aw_istore (lv' := [(5, _), (4, _), (0, _), (1, _), (2, _)]) X dX11_putOn_61 (by decide) rfl ?_
              refine aw_iload X dX11_putOn_63 rfl ?_
              refine aw_bipush X dX11_putOn_65 cb_m10 ?_
              refine aw_icmp_ge (tgt := 73) X dX11_putOn_67 rfl (fun c67 => ?_) (fun c67 => ?_)
              · refine aw_goto (tgt := 16) X dX11_putOn_73 rfl ?_
                refine aw_lv [1, 2, 3, 4] rfl ?_
                refine ih _ _ (pi_PI hPN hb9) (pi_ech hEN) hb9 ?_ (by rw [hc9]; omega)
                rw [← hcc]
                simp only [mo_ch, c28, c38, c67, and_self, if_true]
              · refine aw_iload X dX11_putOn_70 rfl ?_
                refine RTN (some (.int _)) _ _ _ _ _ dX11_putOn_72 (⟨_, rfl⟩) (Nat.le_of_ble_eq_true rfl) (Nat.le_of_ble_eq_true rfl) ?_
                rw [← hcc]
                constructor <;> simp only [mo_ch, c28, c67, c38, and_self, and_true, true_and, and_false, false_and, if_true, if_false]
    refine aw_lv [0, 2, 3, 4] rfl ?_
    exact L 8 _ _ (pi_PI hP hk) (pi_ech hE) hk (by simp only [mo_po, c8, if_true]) (hr8 _)
  · refine aw_iload_n X dX11_putOn_11 rfl rfl ?_
    refine RTN (some (.int _)) _ _ _ _ _ dX11_putOn_12 (⟨_, rfl⟩) (Nat.le_of_ble_eq_true rfl) (Nat.le_of_ble_eq_true rfl) ?_
    constructor <;> simp only [mo_po, c8, if_false]
def mo_put (M : MS) (t c : Int32) : Int32 × MS := if 0 ≤ (oI (mo_pl (sI M 0 0) t)) then (if bt c 0 1114111 then mo_po (sI M 0 0) (oI (mo_pl (sI M 0 0) t)) c else (-3, (sI M 0 0))) else (-2, (sI M 0 0))
def mo_say (M : MS) (c : Int32) : Int32 × MS := if bt c 0 1114111 then (if M.1 20 = 0 then (-4, (sI M 0 0)) else mo_po (sI M 0 0) (oI (mo_pl (sI M 0 0) (M.1 20))) c) else (-3, (sI M 0 0))
set_option maxRecDepth 100000 in
set_option maxHeartbeats 4000000 in
theorem kX11_put (G : GG) (l : Launch) (q : Nat → Nat) (M : MS) (hq : mInj q) (hP : PI M) (r : Nat → Nat) (hr8 : ∀ k, r k < 8) (hE : mi_ech r M) (t c0 : Int32) : MC G l yX11_put cX11_put 4 ((Option.some .int)) ({ frames := 4, cells := 0, slots := 0, locals := 101 } : Room) [.ref (q 0), .int t, .int c0] (mw G q M) (fun v w' => v = some (.int (mo_put M t c0).1) ∧ w' = mw G q (mo_put M t c0).2) := by
  refine mc_int (by decide) (Nat.le_of_ble_eq_true rfl) rfl rfl ?_
  intro p e s m args below meth c A H0 Q X hnm RTN
  have X : Cx G p s m args meth c A H0 cX11_put 4 RX11 := X
  refine aw_aload_n X dX11_put_0 rfl rfl ?_
  refine aw_iconst X dX11_put_1 ci_0 ?_
  refine am_put X 0 (M' := sI _ 0 _) (Nat.le_of_ble_eq_true rfl) fl_X11_1 rfl rfl (rfl) (rfl) (mf_0 _ _ _) rfl dX11_put_2 ?_
  refine aw_aload_n X dX11_put_5 rfl rfl ?_
  refine aw_iload_n X dX11_put_6 rfl rfl ?_
  refine aw_callV X (kX11_placeOf _ _ _ _ hq _) okm_X11_placeOf okX11 mw_0 ml_X11_183 im_X11_placeOf se_X11_X11_placeOf rfl rfl (Nat.le_of_ble_eq_true rfl) ⟨Nat.le_of_ble_eq_true rfl, Nat.le_of_ble_eq_true rfl, Nat.le_of_ble_eq_true rfl, Nat.le_of_ble_eq_true rfl⟩ dX11_put_7 (fun v w2 hp => ?_)
  obtain ⟨rfl, rfl⟩ := hp
  refine aw_istore_n (lv' := [(3, _), (0, _), (1, _), (2, _)]) X dX11_put_10 rfl (by decide) rfl ?_
  refine aw_iload_n X dX11_put_11 rfl rfl ?_
  refine aw_if_ge (tgt := 18) X dX11_put_12 rfl (fun c12 => ?_) (fun c12 => ?_)
  · refine aw_iload_n X dX11_put_18 rfl rfl ?_
    refine aw_i2l X dX11_put_19 ?_
    refine aw_lconst X dX11_put_20 cl_0 ?_
    refine aw_ldc2 X kl_X11_186 dX11_put_21 ?_
    refine aw_callS X (kX11_inI _ _ _ _ _ _ 0 1114111 rfl rfl) okm_X11_in ml_X11_12 st_X11_in rfl rfl (Nat.le_of_ble_eq_true rfl) ⟨Nat.le_of_ble_eq_true rfl, Nat.le_of_ble_eq_true rfl, Nat.le_of_ble_eq_true rfl, Nat.le_of_ble_eq_true rfl⟩ dX11_put_24 (fun v w2 hp => ?_)
    obtain ⟨rfl, rfl⟩ := hp
    refine aw_if_ne (tgt := 35) X dX11_put_27 rfl (fun c27 => ?_) (fun c27 => ?_)
    · rw [bI_n0] at c27
      refine aw_aload_n X dX11_put_35 rfl rfl ?_
      refine aw_iload_n X dX11_put_36 rfl rfl ?_
      refine aw_iload_n X dX11_put_37 rfl rfl ?_
      refine aw_callV X (kX11_putOn _ _ _ _ hq (show PI (sI M 0 0) from hP) r hr8 (show mi_ech r (sI M 0 0) from hE) (oI (mo_pl (sI M 0 0) t)) _ (pl_bt' c12)) okm_X11_putOn okX11 mw_0 ml_X11_188 im_X11_putOn se_X11_X11_putOn rfl rfl (Nat.le_of_ble_eq_true rfl) ⟨Nat.le_of_ble_eq_true rfl, Nat.le_of_ble_eq_true rfl, Nat.le_of_ble_eq_true rfl, Nat.le_of_ble_eq_true rfl⟩ dX11_put_38 (fun v w2 hp => ?_)
      obtain ⟨rfl, rfl⟩ := hp
      refine RTN (some (.int _)) _ _ _ _ _ dX11_put_41 (⟨_, rfl⟩) (Nat.le_of_ble_eq_true rfl) (Nat.le_of_ble_eq_true rfl) ?_
      first | (constructor <;> ((try simp only [mo_put, c12, c27, if_true, if_false, not_true_eq_false, not_false_eq_true, and_self, true_and, and_true, false_and, and_false, or_true, true_or, or_false, false_or, reduceCtorEq, ne_eq, va_us, pk_us]); (try with_reducible rfl); done)) | (clear RTN X; constructor <;> ((try simp_all only [mo_put, if_true, if_false, not_true_eq_false, not_false_eq_true, and_self, true_and, and_true, false_and, and_false, or_true, true_or, or_false, false_or, reduceCtorEq, ne_eq, va_us, pk_us]); (try with_reducible rfl); done)) | (constructor <;> ((try simp only [mo_put, c12, c27, if_true, if_false, not_true_eq_false, not_false_eq_true, and_self, true_and, and_true, false_and, and_false, or_true, true_or, or_false, false_or, reduceCtorEq, ne_eq, va_us, pk_us]); (try rfl); done))
    · rw [bI_0] at c27
      refine aw_bipush X dX11_put_30 cb_m3 ?_
      refine aw_goto (tgt := 41) X dX11_put_32 rfl ?_
      refine RTN (some (.int _)) _ _ _ _ _ dX11_put_41 (⟨_, rfl⟩) (Nat.le_of_ble_eq_true rfl) (Nat.le_of_ble_eq_true rfl) ?_
      first | (constructor <;> ((try simp only [mo_put, c12, c27, if_true, if_false, not_true_eq_false, not_false_eq_true, and_self, true_and, and_true, false_and, and_false, or_true, true_or, or_false, false_or, reduceCtorEq, ne_eq, va_us, pk_us]); (try with_reducible rfl); done)) | (clear RTN X; constructor <;> ((try simp_all only [mo_put, if_true, if_false, not_true_eq_false, not_false_eq_true, and_self, true_and, and_true, false_and, and_false, or_true, true_or, or_false, false_or, reduceCtorEq, ne_eq, va_us, pk_us]); (try with_reducible rfl); done)) | (constructor <;> ((try simp only [mo_put, c12, c27, if_true, if_false, not_true_eq_false, not_false_eq_true, and_self, true_and, and_true, false_and, and_false, or_true, true_or, or_false, false_or, reduceCtorEq, ne_eq, va_us, pk_us]); (try rfl); done))
  · refine aw_bipush X dX11_put_15 cb_m2 ?_
    refine RTN (some (.int _)) _ _ _ _ _ dX11_put_17 (⟨_, rfl⟩) (Nat.le_of_ble_eq_true rfl) (Nat.le_of_ble_eq_true rfl) ?_
    first | (constructor <;> ((try simp only [mo_put, c12, if_true, if_false, not_true_eq_false, not_false_eq_true, and_self, true_and, and_true, false_and, and_false, or_true, true_or, or_false, false_or, reduceCtorEq, ne_eq, va_us, pk_us]); (try with_reducible rfl); done)) | (clear RTN X; constructor <;> ((try simp_all only [mo_put, if_true, if_false, not_true_eq_false, not_false_eq_true, and_self, true_and, and_true, false_and, and_false, or_true, true_or, or_false, false_or, reduceCtorEq, ne_eq, va_us, pk_us]); (try with_reducible rfl); done)) | (constructor <;> ((try simp only [mo_put, c12, if_true, if_false, not_true_eq_false, not_false_eq_true, and_self, true_and, and_true, false_and, and_false, or_true, true_or, or_false, false_or, reduceCtorEq, ne_eq, va_us, pk_us]); (try rfl); done))
set_option maxRecDepth 100000 in
set_option maxHeartbeats 4000000 in
theorem kX11_say (G : GG) (l : Launch) (q : Nat → Nat) (M : MS) (hq : mInj q) (hP : PI M) (r : Nat → Nat) (hr8 : ∀ k, r k < 8) (hE : mi_ech r M) (hN : ¬ M.1 20 = 0 → 0 ≤ oI (mo_pl M (M.1 20))) (c0 : Int32) : MC G l yX11_say cX11_say 2 ((Option.some .int)) ({ frames := 4, cells := 0, slots := 0, locals := 101 } : Room) [.ref (q 0), .int c0] (mw G q M) (fun v w' => v = some (.int (mo_say M c0).1) ∧ w' = mw G q (mo_say M c0).2) := by
  refine mc_int (by decide) (Nat.le_of_ble_eq_true rfl) rfl rfl ?_
  intro p e s m args below meth c A H0 Q X hnm RTN
  have X : Cx G p s m args meth c A H0 cX11_say 2 RX11 := X
  refine aw_aload_n X dX11_say_0 rfl rfl ?_
  refine aw_iconst X dX11_say_1 ci_0 ?_
  refine am_put X 0 (M' := sI _ 0 _) (Nat.le_of_ble_eq_true rfl) fl_X11_1 rfl rfl (rfl) (rfl) (mf_0 _ _ _) rfl dX11_say_2 ?_
  refine aw_iload_n X dX11_say_5 rfl rfl ?_
  refine aw_i2l X dX11_say_6 ?_
  refine aw_lconst X dX11_say_7 cl_0 ?_
  refine aw_ldc2 X kl_X11_186 dX11_say_8 ?_
  refine aw_callS X (kX11_inI _ _ _ _ _ _ 0 1114111 rfl rfl) okm_X11_in ml_X11_12 st_X11_in rfl rfl (Nat.le_of_ble_eq_true rfl) ⟨Nat.le_of_ble_eq_true rfl, Nat.le_of_ble_eq_true rfl, Nat.le_of_ble_eq_true rfl, Nat.le_of_ble_eq_true rfl⟩ dX11_say_11 (fun v w2 hp => ?_)
  obtain ⟨rfl, rfl⟩ := hp
  refine aw_if_ne (tgt := 20) X dX11_say_14 rfl (fun c14 => ?_) (fun c14 => ?_)
  · rw [bI_n0] at c14
    refine aw_aload_n X dX11_say_20 rfl rfl ?_
    refine am_get X 20 (v := .int (M.1 20)) (Nat.le_of_ble_eq_true rfl) fl_X11_191 rfl rfl dX11_say_21 ?_
    refine aw_if_ne (tgt := 32) X dX11_say_24 rfl (fun c24 => ?_) (fun c24 => ?_)
    · refine aw_aload_n X dX11_say_32 rfl rfl ?_
      refine aw_aload_n X dX11_say_33 rfl rfl ?_
      refine aw_aload_n X dX11_say_34 rfl rfl ?_
      refine am_get X 20 (v := .int (M.1 20)) (Nat.le_of_ble_eq_true rfl) fl_X11_191 rfl rfl dX11_say_35 ?_
      refine aw_callV X (kX11_placeOf _ _ _ _ hq _) okm_X11_placeOf okX11 mw_0 ml_X11_183 im_X11_placeOf se_X11_X11_placeOf rfl rfl (Nat.le_of_ble_eq_true rfl) ⟨Nat.le_of_ble_eq_true rfl, Nat.le_of_ble_eq_true rfl, Nat.le_of_ble_eq_true rfl, Nat.le_of_ble_eq_true rfl⟩ dX11_say_38 (fun v w2 hp => ?_)
      obtain ⟨rfl, rfl⟩ := hp
      refine aw_iload_n X dX11_say_41 rfl rfl ?_
      refine aw_callV X (kX11_putOn _ _ _ _ hq (show PI (sI M 0 0) from hP) r hr8 (show mi_ech r (sI M 0 0) from hE) (oI (mo_pl (sI M 0 0) (M.1 20))) _ (pl_bt' (hN c24))) okm_X11_putOn okX11 mw_0 ml_X11_188 im_X11_putOn se_X11_X11_putOn rfl rfl (Nat.le_of_ble_eq_true rfl) ⟨Nat.le_of_ble_eq_true rfl, Nat.le_of_ble_eq_true rfl, Nat.le_of_ble_eq_true rfl, Nat.le_of_ble_eq_true rfl⟩ dX11_say_42 (fun v w2 hp => ?_)
      obtain ⟨rfl, rfl⟩ := hp
      refine RTN (some (.int _)) _ _ _ _ _ dX11_say_45 (⟨_, rfl⟩) (Nat.le_of_ble_eq_true rfl) (Nat.le_of_ble_eq_true rfl) ?_
      first | (constructor <;> ((try simp only [mo_say, c14, c24, if_true, if_false, not_true_eq_false, not_false_eq_true, and_self, true_and, and_true, false_and, and_false, or_true, true_or, or_false, false_or, reduceCtorEq, ne_eq, va_us, pk_us]); (try with_reducible rfl); done)) | (clear RTN X; constructor <;> ((try simp_all only [mo_say, if_true, if_false, not_true_eq_false, not_false_eq_true, and_self, true_and, and_true, false_and, and_false, or_true, true_or, or_false, false_or, reduceCtorEq, ne_eq, va_us, pk_us]); (try with_reducible rfl); done)) | (constructor <;> ((try simp only [mo_say, c14, c24, if_true, if_false, not_true_eq_false, not_false_eq_true, and_self, true_and, and_true, false_and, and_false, or_true, true_or, or_false, false_or, reduceCtorEq, ne_eq, va_us, pk_us]); (try rfl); done))
    · refine aw_bipush X dX11_say_27 cb_m4 ?_
      refine aw_goto (tgt := 45) X dX11_say_29 rfl ?_
      refine RTN (some (.int _)) _ _ _ _ _ dX11_say_45 (⟨_, rfl⟩) (Nat.le_of_ble_eq_true rfl) (Nat.le_of_ble_eq_true rfl) ?_
      first | (constructor <;> ((try simp only [mo_say, c14, (eq_true c24), if_true, if_false, not_true_eq_false, not_false_eq_true, and_self, true_and, and_true, false_and, and_false, or_true, true_or, or_false, false_or, reduceCtorEq, ne_eq, va_us, pk_us]); (try with_reducible rfl); done)) | (clear RTN X; constructor <;> ((try simp_all only [mo_say, if_true, if_false, not_true_eq_false, not_false_eq_true, and_self, true_and, and_true, false_and, and_false, or_true, true_or, or_false, false_or, reduceCtorEq, ne_eq, va_us, pk_us]); (try with_reducible rfl); done)) | (constructor <;> ((try simp only [mo_say, c14, (eq_true c24), if_true, if_false, not_true_eq_false, not_false_eq_true, and_self, true_and, and_true, false_and, and_false, or_true, true_or, or_false, false_or, reduceCtorEq, ne_eq, va_us, pk_us]); (try rfl); done))
  · rw [bI_0] at c14
    refine aw_bipush X dX11_say_17 cb_m3 ?_
    refine RTN (some (.int _)) _ _ _ _ _ dX11_say_19 (⟨_, rfl⟩) (Nat.le_of_ble_eq_true rfl) (Nat.le_of_ble_eq_true rfl) ?_
    first | (constructor <;> ((try simp only [mo_say, c14, if_true, if_false, not_true_eq_false, not_false_eq_true, and_self, true_and, and_true, false_and, and_false, or_true, true_or, or_false, false_or, reduceCtorEq, ne_eq, va_us, pk_us]); (try with_reducible rfl); done)) | (clear RTN X; constructor <;> ((try simp_all only [mo_say, if_true, if_false, not_true_eq_false, not_false_eq_true, and_self, true_and, and_true, false_and, and_false, or_true, true_or, or_false, false_or, reduceCtorEq, ne_eq, va_us, pk_us]); (try with_reducible rfl); done)) | (constructor <;> ((try simp only [mo_say, c14, if_true, if_false, not_true_eq_false, not_false_eq_true, and_self, true_and, and_true, false_and, and_false, or_true, true_or, or_false, false_or, reduceCtorEq, ne_eq, va_us, pk_us]); (try rfl); done))
