/-! putInto -/
def nrw (wide c : Int32) : Int32 := if wide = 0 then (if c ≤ 255 then c else 63) else c
def mo_sh (M : MS) (k : Int32) : Nat → MS
  | 0 => M
  | t + 1 => sF (mo_sh M k t) 18 ((40 * k) + nI (19 - t)).toNatClampNeg ((mo_sh M k t).2.2 18 (((40 * k) + nI (19 - t)) - 1).toNatClampNeg)
def mo_pp (M : MS) (k v : Int32) : MS :=
  sF (sF (mo_sh M k 19) 18 (40 * k).toNatClampNeg v) 19 k.toNatClampNeg ((mo_sh M k 19).2.2 19 k.toNatClampNeg + (if 20 ≤ (mo_sh M k 19).2.2 19 k.toNatClampNeg then 0 else 1))
def mo_fb (M : MS) (f en v : Int32) : Nat → MS
  | 0 => M
  | j + 1 => sF (mo_fb M f en v j) 37 ((((60 * f) + en) - 1) - nI j).toNatClampNeg ((v >>> ((8 * nI j) &&& 31)) &&& 255)
def mo_w (M : MS) (k : Nat) : Nat := if M.2.2 9 k = 0 then 1 else 4
def mo_en (M : MS) (k : Nat) : Int32 := (M.2.2 11 k + 1) * nI (mo_w M k)
def mo_pf (M : MS) (k : Nat) : Int32 := mo_ag M (M.2.2 15 k) (if M.2.2 9 k = 0 then 1 else 2) (M.2.2 11 k)
def mo_fl (M : MS) (k v : Int32) : MS := mo_fb M (M.2.2 16 k.toNatClampNeg) (mo_en M k.toNatClampNeg) v (mo_w M k.toNatClampNeg)
def mo_pfl (M : MS) (k v : Int32) : MS :=
  sF (sF (mo_fl M k v) 36 (M.2.2 16 k.toNatClampNeg).toNatClampNeg (if mo_en M k.toNatClampNeg ≤ (mo_fl M k v).2.2 36 (M.2.2 16 k.toNatClampNeg).toNatClampNeg then (mo_fl M k v).2.2 36 (M.2.2 16 k.toNatClampNeg).toNatClampNeg else mo_en M k.toNatClampNeg)) 11 k.toNatClampNeg ((mo_fl M k v).2.2 11 k.toNatClampNeg + 1)
def mo_pm (M : MS) (k v : Int32) : MS :=
  sF (sF M 4 (((40 * M.2.2 15 k.toNatClampNeg) + M.2.2 11 k.toNatClampNeg) - 40).toNatClampNeg (if M.2.2 9 k.toNatClampNeg = 0 then v.toInt8.toInt32 else v)) 11 k.toNatClampNeg (M.2.2 11 k.toNatClampNeg + 1)
def mo_pi (M : MS) (k c : Int32) : Int32 × MS :=
  if M.2.2 10 k.toNatClampNeg = 2 then (-4, M)
  else if M.2.2 8 k.toNatClampNeg = 0 then (1, mo_cnt (mo_pp M k (nrw (M.2.2 9 k.toNatClampNeg) c)) k.toNatClampNeg)
  else if M.2.2 8 k.toNatClampNeg = 1 then
    if M.2.2 11 k.toNatClampNeg < M.2.2 12 k.toNatClampNeg then
      if mo_pf M k.toNatClampNeg ≤ 0 then (1, mo_cnt (mo_pm M k (nrw (M.2.2 9 k.toNatClampNeg) c)) k.toNatClampNeg)
      else ((-10) - mo_pf M k.toNatClampNeg, sI M 5 (mo_pf M k.toNatClampNeg))
    else (1, mo_cnt (sL M 22 (M.2.1 22 + 1)) k.toNatClampNeg)
  else if mo_en M k.toNatClampNeg ≤ 60 then (1, mo_cnt (mo_pfl M k (nrw (M.2.2 9 k.toNatClampNeg) c)) k.toNatClampNeg)
  else (-5, M)
def mi_arr (M : MS) : Prop := ∀ k, k < 8 → bt (M.2.2 15 k) 0 24 = true
def mi_place (M : MS) : Prop := ∀ k, k < 8 → bt (M.2.2 11 k) 0 60 = true
def mi_kind (M : MS) : Prop := ∀ k, k < 8 → bt (M.2.2 8 k) 0 3 = true ∧ (M.2.2 8 k = 3 → M.2.2 10 k = 2)
theorem sh_1 (M : MS) (k : Int32) : ∀ t, (mo_sh M k t).1 = M.1
  | 0 => rfl
  | t + 1 => sh_1 M k t
theorem sh_l (M : MS) (k : Int32) : ∀ t, (mo_sh M k t).2.1 = M.2.1
  | 0 => rfl
  | t + 1 => sh_l M k t
theorem sh_f (M : MS) (k : Int32) {j : Nat} (hj : j ≠ 18) : ∀ t, (mo_sh M k t).2.2 j = M.2.2 j
  | 0 => rfl
  | t + 1 => by
    show va_up (mo_sh M k t).2.2 18 _ j = _
    rw [va_up_ne _ _ hj]
    exact sh_f M k hj t
theorem fb_1 (M : MS) (f en v : Int32) : ∀ t, (mo_fb M f en v t).1 = M.1
  | 0 => rfl
  | t + 1 => fb_1 M f en v t
theorem fb_l (M : MS) (f en v : Int32) : ∀ t, (mo_fb M f en v t).2.1 = M.2.1
  | 0 => rfl
  | t + 1 => fb_l M f en v t
theorem fb_f (M : MS) (f en v : Int32) {j : Nat} (hj : j ≠ 37) : ∀ t, (mo_fb M f en v t).2.2 j = M.2.2 j
  | 0 => rfl
  | t + 1 => by
    show va_up (mo_fb M f en v t).2.2 37 _ j = _
    rw [va_up_ne _ _ hj]
    exact fb_f M f en v hj t
theorem ix8m {k i : Int32} (hk : bt k 0 7) (hi : bt i 1 39) : vp_in (((40 * k) + i) - 1) 320 := by
  obtain ⟨a1, a2⟩ := bt_iff.mp hk
  obtain ⟨k1, k2⟩ := bt_iff.mp hi
  have h1 := ti_mul (a := 40) (b := k) (x := 40) rfl rfl (by omega)
  have h2 := ti_add h1 (b := i) rfl (by omega)
  have h3 := ti_sub h2 (b := 1) (y := 1) rfl (by omega)
  exact vp_in_iff.mpr ⟨by omega, by omega⟩
theorem ix80 {k : Int32} (hk : bt k 0 7) : vp_in (40 * k) 320 := by
  obtain ⟨a1, a2⟩ := bt_iff.mp hk
  have h1 := ti_mul (a := 40) (b := k) (x := 40) rfl rfl (by omega)
  exact vp_in_iff.mpr ⟨by omega, by omega⟩
theorem fl_bt {M : MS} (hF : mi_file M) (hK : mi_kind M) {k : Nat} (hk : k < 8) (h0 : ¬ M.2.2 8 k = 0) (h1 : ¬ M.2.2 8 k = 1) (h2 : ¬ M.2.2 10 k = 2) : bt (M.2.2 16 k) 0 19 := by
  obtain ⟨h3, h4⟩ := hK k hk
  refine hF k hk ?_
  have h5 := bt_iff.mp h3
  rw [i32_eq] at h0 h1 ⊢
  have h6 : (M.2.2 8 k).toInt ≠ 3 := fun z => h2 (h4 ((i32_eq _ 3).mpr z))
  have e0 : (0 : Int32).toInt = 0 := rfl
  have e1 : (1 : Int32).toInt = 1 := rfl
  have e2 : (2 : Int32).toInt = 2 := rfl
  omega
theorem w_or (M : MS) (k : Nat) : mo_w M k = 1 ∨ mo_w M k = 4 := by unfold mo_w; split <;> simp
theorem en_i {M : MS} {k : Nat} (hp : bt (M.2.2 11 k) 0 60) : (mo_en M k).toInt = ((M.2.2 11 k).toInt + 1) * (mo_w M k : Int) := by
  obtain ⟨h1, h2⟩ := bt_iff.mp hp
  have h3 := ti_add (a := M.2.2 11 k) (b := 1) (y := 1) rfl rfl (by omega)
  unfold mo_en
  rcases w_or M k with h | h
  · rw [h]; exact ti_mul h3 (nI_toInt (by decide)) (by omega)
  · rw [h]; exact ti_mul h3 (nI_toInt (by decide)) (by omega)
theorem ixfb {M : MS} {k j : Nat} {f : Int32} (hp : bt (M.2.2 11 k) 0 60) (hf : bt f 0 19) (he : mo_en M k ≤ 60) (hj : j < mo_w M k) : vp_in ((((60 * f) + mo_en M k) - 1) - nI j) 1200 := by
  obtain ⟨h1, h2⟩ := bt_iff.mp hp
  obtain ⟨f1, f2⟩ := bt_iff.mp hf
  have e := en_i hp
  rw [i32_le] at he
  have e60 : (60 : Int32).toInt = 60 := rfl
  have hw := w_or M k
  have hpos : (mo_w M k : Int) ≤ (mo_en M k).toInt := by
    rw [e]
    rcases hw with h | h <;> rw [h] <;> omega
  have g1 := ti_mul (a := 60) (b := f) (x := 60) rfl rfl (by omega)
  have g2 := ti_add g1 (b := mo_en M k) rfl (by omega)
  have g3 := ti_sub g2 (b := 1) (y := 1) rfl (by omega)
  have g4 := ti_sub g3 (nI_toInt (n := j) (by omega)) (by omega)
  exact vp_in_iff.mpr ⟨by omega, by omega⟩
set_option maxRecDepth 100000 in
set_option maxHeartbeats 4000000 in
theorem kX11_putInto (G : GG) (l : Launch) (q : Nat → Nat) (M : MS) (hq : mInj q) (hS : mi_size M) (hA1 : mi_arr M) (hPl : mi_place M) (hKd : mi_kind M) (hFl : mi_file M) (k c0 : Int32) (hk : bt k 0 7) : MC G l yX11_putInto cX11_putInto 8 ((Option.some .int)) ({ frames := 2, cells := 0, slots := 0, locals := 49 } : Room) [.ref (q 0), .int k, .int c0] (mw G q M) (fun v w' => v = some (.int (mo_pi M k c0).1) ∧ w' = mw G q (mo_pi M k c0).2) := by
  refine mc_int (by decide) (Nat.le_of_ble_eq_true rfl) rfl rfl ?_
  intro p e s m args below meth c A H0 Q X hnm RTN
  have X : Cx G p s m args meth c A H0 cX11_putInto 8 RX11 := X
  have hkl : k.toNatClampNeg < 8 := cl_lt hk (by decide) (by decide)
  have J : ¬ M.2.2 10 k.toNatClampNeg = 2 → ∀ x : Int32, x = (nrw (M.2.2 9 k.toNatClampNeg) c0) → AW G p l e ({ frames := 2, cells := 0, slots := 0, locals := 49 } : Room) s m args below meth c 8 A H0 Q (mw G q M) 0 0 35 [(0, .ref (q 0)), (1, .int k), (2, .int c0)] [.int x] := by
    intro c7 x hx
    subst hx
    refine aw_istore_n (lv' := [(3, _), (0, _), (1, _), (2, _)]) X dX11_putInto_35 rfl (by decide) rfl ?_
    refine aw_aload_n X dX11_putInto_36 rfl rfl ?_
    refine am_get X 8 (Nat.le_of_ble_eq_true rfl) fl_X11_23 rfl rfl dX11_putInto_37 ?_
    refine aw_iload_n X dX11_putInto_40 rfl rfl ?_
    refine am_ald X 8 _ (M.2.2 8) hq (by decide) rfl rfl rfl (bt_vp (hk) (by decide) (by decide)) dX11_putInto_41 ?_
    refine aw_if_ne (tgt := 124) X dX11_putInto_42 rfl (fun c42 => ?_) (fun c42 => ?_)
    · refine aw_aload_n X dX11_putInto_124 rfl rfl ?_
      refine am_get X 8 (Nat.le_of_ble_eq_true rfl) fl_X11_23 rfl rfl dX11_putInto_125 ?_
      refine aw_iload_n X dX11_putInto_128 rfl rfl ?_
      refine am_ald X 8 _ (M.2.2 8) hq (by decide) rfl rfl rfl (bt_vp (hk) (by decide) (by decide)) dX11_putInto_129 ?_
      refine aw_iconst X dX11_putInto_130 ci_1 ?_
      refine aw_icmp_ne (tgt := 262) X dX11_putInto_131 rfl (fun c131 => ?_) (fun c131 => ?_)
      · refine aw_aload_n X dX11_putInto_262 rfl rfl ?_
        refine am_get X 16 (Nat.le_of_ble_eq_true rfl) fl_X11_92 rfl rfl dX11_putInto_263 ?_
        refine aw_iload_n X dX11_putInto_266 rfl rfl ?_
        refine am_ald X 16 _ (M.2.2 16) hq (by decide) rfl rfl rfl (bt_vp (hk) (by decide) (by decide)) dX11_putInto_267 ?_
        refine aw_istore (lv' := [(4, _), (3, _), (0, _), (1, _), (2, _)]) X dX11_putInto_268 (by decide) rfl ?_
        refine aw_aload_n X dX11_putInto_270 rfl rfl ?_
        refine am_get X 9 (Nat.le_of_ble_eq_true rfl) fl_X11_74 rfl rfl dX11_putInto_271 ?_
        refine aw_iload_n X dX11_putInto_274 rfl rfl ?_
        refine am_zld X 9 _ (M.2.2 9) hq (by decide) rfl rfl rfl (bt_vp (hk) (by decide) (by decide)) dX11_putInto_275 ?_
        refine aw_if_eq (tgt := 283) X dX11_putInto_276 rfl (fun c276 => ?_) (fun c276 => ?_)
        · refine aw_iconst X dX11_putInto_283 ci_1 ?_
          refine aw_istore (lv' := [(5, _), (4, _), (3, _), (0, _), (1, _), (2, _)]) X dX11_putInto_284 (by decide) rfl ?_
          refine aw_aload_n X dX11_putInto_286 rfl rfl ?_
          refine am_get X 11 (Nat.le_of_ble_eq_true rfl) fl_X11_80 rfl rfl dX11_putInto_287 ?_
          refine aw_iload_n X dX11_putInto_290 rfl rfl ?_
          refine am_ald X 11 _ (M.2.2 11) hq (by decide) rfl rfl rfl (bt_vp (hk) (by decide) (by decide)) dX11_putInto_291 ?_
          refine aw_iconst X dX11_putInto_292 ci_1 ?_
          refine aw_iadd X dX11_putInto_293 ?_
          refine aw_iload X dX11_putInto_294 rfl ?_
          refine aw_imul X dX11_putInto_296 ?_
          refine aw_istore (lv' := [(6, _), (5, _), (4, _), (3, _), (0, _), (1, _), (2, _)]) X dX11_putInto_297 (by decide) rfl ?_
          have hw1 : mo_w M k.toNatClampNeg = 1 := by unfold mo_w; rw [if_pos c276]
          have e6 : (((M.2.2 11 k.toNatClampNeg) + 1) * 1 : Int32) = mo_en M k.toNatClampNeg := by unfold mo_en; rw [hw1]; rfl
          have e5 : (1 : Int32) = nI (mo_w M k.toNatClampNeg) := by rw [hw1]; rfl
          rw [e6, e5]
          refine aw_iload X dX11_putInto_299 rfl ?_
          refine aw_bipush X dX11_putInto_301 cb_60 ?_
          refine aw_icmp_le (tgt := 309) X dX11_putInto_303 rfl (fun c303 => ?_) (fun c303 => ?_)
          · refine aw_iconst X dX11_putInto_309 ci_0 ?_
            refine aw_istore (lv' := [(7, _), (6, _), (5, _), (4, _), (3, _), (0, _), (1, _), (2, _)]) X dX11_putInto_310 (by decide) rfl ?_
            have L : ∀ (nn j : Nat) (x : Int32), x = nI j → j ≤ mo_w M k.toNatClampNeg → mo_w M k.toNatClampNeg + 1 ≤ j + nn → AW G p l e ({ frames := 2, cells := 0, slots := 0, locals := 49 } : Room) s m args below meth c 8 A H0 Q (mw G q (mo_fb M (M.2.2 16 k.toNatClampNeg) (mo_en M k.toNatClampNeg) (nrw (M.2.2 9 k.toNatClampNeg) c0) j)) 0 0 312 [(7, .int x), (6, .int (mo_en M k.toNatClampNeg)), (5, .int (nI (mo_w M k.toNatClampNeg))), (4, .int (M.2.2 16 k.toNatClampNeg)), (3, .int (nrw (M.2.2 9 k.toNatClampNeg) c0)), (0, .ref (q 0)), (1, .int k), (2, .int c0)] [] := by
              intro nn
              induction nn with
              | zero => intro j x hx h1 h2; exact absurd h2 (by omega)
              | succ nn ih =>
                intro j x hx h1 h2
                subst hx
                refine aw_iload X dX11_putInto_312 rfl ?_
                refine aw_iload X dX11_putInto_314 rfl ?_
                refine aw_icmp_ge (tgt := 354) X dX11_putInto_316 rfl (fun c316 => ?_) (fun c316 => ?_)
                · have h9 : j = (mo_w M k.toNatClampNeg) := by have := (nI_leI (a := (mo_w M k.toNatClampNeg)) (b := j) (by omega) (by omega)).mp c316; omega
                  refine aw_aload_n X dX11_putInto_354 rfl rfl ?_
                  refine am_get X 36 (Nat.le_of_ble_eq_true rfl) fl_X11_121 rfl rfl dX11_putInto_355 ?_
                  refine aw_iload X dX11_putInto_358 rfl ?_
                  refine aw_aload_n X dX11_putInto_360 rfl rfl ?_
                  refine am_get X 36 (Nat.le_of_ble_eq_true rfl) fl_X11_121 rfl rfl dX11_putInto_361 ?_
                  refine aw_iload X dX11_putInto_364 rfl ?_
                  refine am_ald X 36 _ ((mo_fb M (M.2.2 16 k.toNatClampNeg) (mo_en M k.toNatClampNeg) (nrw (M.2.2 9 k.toNatClampNeg) c0) j).2.2 36) hq (by decide) rfl rfl rfl (bt_vp (fl_bt hFl hKd hkl c42 c131 c7) (by decide) (by decide)) dX11_putInto_366 ?_
                  refine aw_iload X dX11_putInto_367 rfl ?_
                  refine aw_icmp_ge (tgt := 377) X dX11_putInto_369 rfl (fun c369 => ?_) (fun c369 => ?_)
                  · refine aw_aload_n X dX11_putInto_377 rfl rfl ?_
                    refine am_get X 36 (Nat.le_of_ble_eq_true rfl) fl_X11_121 rfl rfl dX11_putInto_378 ?_
                    refine aw_iload X dX11_putInto_381 rfl ?_
                    refine am_ald X 36 _ ((mo_fb M (M.2.2 16 k.toNatClampNeg) (mo_en M k.toNatClampNeg) (nrw (M.2.2 9 k.toNatClampNeg) c0) j).2.2 36) hq (by decide) rfl rfl rfl (bt_vp (fl_bt hFl hKd hkl c42 c131 c7) (by decide) (by decide)) dX11_putInto_383 ?_
                    refine am_ast X 36 _ hq (by decide) rfl rfl (bt_vp (fl_bt hFl hKd hkl c42 c131 c7) (by decide) (by decide)) dX11_putInto_384 ?_
                    refine aw_aload_n X dX11_putInto_385 rfl rfl ?_
                    refine am_get X 11 (Nat.le_of_ble_eq_true rfl) fl_X11_80 rfl rfl dX11_putInto_386 ?_
                    refine aw_iload_n X dX11_putInto_389 rfl rfl ?_
                    refine aw_dup2_11 X dX11_putInto_390 rfl rfl ?_
                    refine am_ald X 11 _ ((mo_fb M (M.2.2 16 k.toNatClampNeg) (mo_en M k.toNatClampNeg) (nrw (M.2.2 9 k.toNatClampNeg) c0) j).2.2 11) hq (by decide) rfl rfl rfl (bt_vp (hk) (by decide) (by decide)) dX11_putInto_391 ?_
                    refine aw_iconst X dX11_putInto_392 ci_1 ?_
                    refine aw_iadd X dX11_putInto_393 ?_
                    refine am_ast X 11 _ hq (by decide) rfl rfl (bt_vp (hk) (by decide) (by decide)) dX11_putInto_394 ?_
                    refine aw_aload_n X dX11_putInto_395 rfl rfl ?_
                    refine aw_iload_n X dX11_putInto_396 rfl rfl ?_
                    refine aw_callV X (kX11_counted _ _ _ _ hq _ hk) okm_X11_counted okX11 mw_0 ml_X11_175 im_X11_counted se_X11_X11_counted rfl rfl (Nat.le_of_ble_eq_true rfl) ⟨Nat.le_of_ble_eq_true rfl, Nat.le_of_ble_eq_true rfl, Nat.le_of_ble_eq_true rfl, Nat.le_of_ble_eq_true rfl⟩ dX11_putInto_397 (fun v w2 hp => ?_)
                    obtain ⟨rfl, rfl⟩ := hp
                    refine aw_iconst X dX11_putInto_400 ci_1 ?_
                    refine RTN (some (.int _)) _ _ _ _ _ dX11_putInto_401 (⟨_, rfl⟩) (Nat.le_of_ble_eq_true rfl) (Nat.le_of_ble_eq_true rfl) ?_
                    refine ⟨by simp only [mo_pi, c7, c42, c131, c303, if_true, if_false], ?_⟩
                    subst h9
                    simp only [mo_pi, c7, c42, c131, c303, if_true, if_false, mo_pfl, mo_fl, c369]
                  · refine aw_iload X dX11_putInto_372 rfl ?_
                    refine aw_goto (tgt := 384) X dX11_putInto_374 rfl ?_
                    refine am_ast X 36 _ hq (by decide) rfl rfl (bt_vp (fl_bt hFl hKd hkl c42 c131 c7) (by decide) (by decide)) dX11_putInto_384 ?_
                    refine aw_aload_n X dX11_putInto_385 rfl rfl ?_
                    refine am_get X 11 (Nat.le_of_ble_eq_true rfl) fl_X11_80 rfl rfl dX11_putInto_386 ?_
                    refine aw_iload_n X dX11_putInto_389 rfl rfl ?_
                    refine aw_dup2_11 X dX11_putInto_390 rfl rfl ?_
                    refine am_ald X 11 _ ((mo_fb M (M.2.2 16 k.toNatClampNeg) (mo_en M k.toNatClampNeg) (nrw (M.2.2 9 k.toNatClampNeg) c0) j).2.2 11) hq (by decide) rfl rfl rfl (bt_vp (hk) (by decide) (by decide)) dX11_putInto_391 ?_
                    refine aw_iconst X dX11_putInto_392 ci_1 ?_
                    refine aw_iadd X dX11_putInto_393 ?_
                    refine am_ast X 11 _ hq (by decide) rfl rfl (bt_vp (hk) (by decide) (by decide)) dX11_putInto_394 ?_
                    refine aw_aload_n X dX11_putInto_395 rfl rfl ?_
                    refine aw_iload_n X dX11_putInto_396 rfl rfl ?_
                    refine aw_callV X (kX11_counted _ _ _ _ hq _ hk) okm_X11_counted okX11 mw_0 ml_X11_175 im_X11_counted se_X11_X11_counted rfl rfl (Nat.le_of_ble_eq_true rfl) ⟨Nat.le_of_ble_eq_true rfl, Nat.le_of_ble_eq_true rfl, Nat.le_of_ble_eq_true rfl, Nat.le_of_ble_eq_true rfl⟩ dX11_putInto_397 (fun v w2 hp => ?_)
                    obtain ⟨rfl, rfl⟩ := hp
                    refine aw_iconst X dX11_putInto_400 ci_1 ?_
                    refine RTN (some (.int _)) _ _ _ _ _ dX11_putInto_401 (⟨_, rfl⟩) (Nat.le_of_ble_eq_true rfl) (Nat.le_of_ble_eq_true rfl) ?_
                    refine ⟨by simp only [mo_pi, c7, c42, c131, c303, if_true, if_false], ?_⟩
                    subst h9
                    simp only [mo_pi, c7, c42, c131, c303, if_true, if_false, mo_pfl, mo_fl, c369]
                · have h9 : j < (mo_w M k.toNatClampNeg) := Nat.lt_of_not_le (fun h => c316 ((nI_leI (a := (mo_w M k.toNatClampNeg)) (b := j) (by omega) (by omega)).mpr h))
                  refine aw_aload_n X dX11_putInto_319 rfl rfl ?_
                  refine am_get X 37 (Nat.le_of_ble_eq_true rfl) fl_X11_154 rfl rfl dX11_putInto_320 ?_
                  refine aw_bipush X dX11_putInto_323 cb_60 ?_
                  refine aw_iload X dX11_putInto_325 rfl ?_
                  refine aw_imul X dX11_putInto_327 ?_
                  refine aw_iload X dX11_putInto_328 rfl ?_
                  refine aw_iadd X dX11_putInto_330 ?_
                  refine aw_iconst X dX11_putInto_331 ci_1 ?_
                  refine aw_isub X dX11_putInto_332 ?_
                  refine aw_iload X dX11_putInto_333 rfl ?_
                  refine aw_isub X dX11_putInto_335 ?_
                  refine aw_iload_n X dX11_putInto_336 rfl rfl ?_
                  refine aw_bipush X dX11_putInto_337 cb_8 ?_
                  refine aw_iload X dX11_putInto_339 rfl ?_
                  refine aw_imul X dX11_putInto_341 ?_
                  refine aw_ishr X dX11_putInto_342 ?_
                  refine aw_sipush X dX11_putInto_343 cs_255 ?_
                  refine aw_iand X dX11_putInto_346 ?_
                  refine am_ast X 37 _ hq (by decide) rfl rfl (ixfb (hPl _ hkl) (fl_bt hFl hKd hkl c42 c131 c7) c303 h9) dX11_putInto_347 ?_
                  refine aw_iinc (lv' := [(7, _), (6, _), (5, _), (4, _), (3, _), (0, _), (1, _), (2, _)]) X dX11_putInto_348 rfl (iinc_1 _) (by decide) rfl ?_
                  refine aw_goto (tgt := 312) X dX11_putInto_351 rfl ?_
                  refine aw_lv [0, 1, 2, 3, 4, 5, 6, 7] rfl ?_
                  exact ih (j + 1) _ (nI_1 j) (by omega) (by omega)
            refine aw_lv [0, 1, 2, 3, 4, 5, 6, 7] rfl ?_
            exact L 5 0 _ rfl (by omega) (by rcases w_or M k.toNatClampNeg with h | h <;> rw [h] <;> decide)
          · refine aw_bipush X dX11_putInto_306 cb_m5 ?_
            refine RTN (some (.int _)) _ _ _ _ _ dX11_putInto_308 (⟨_, rfl⟩) (Nat.le_of_ble_eq_true rfl) (Nat.le_of_ble_eq_true rfl) ?_
            constructor <;> simp only [mo_pi, mo_pf, mo_pm, c7, c42, c131, (eq_true c276), c303, if_true, if_false]
        · refine aw_iconst X dX11_putInto_279 ci_4 ?_
          refine aw_goto (tgt := 284) X dX11_putInto_280 rfl ?_
          refine aw_istore (lv' := [(5, _), (4, _), (3, _), (0, _), (1, _), (2, _)]) X dX11_putInto_284 (by decide) rfl ?_
          refine aw_aload_n X dX11_putInto_286 rfl rfl ?_
          refine am_get X 11 (Nat.le_of_ble_eq_true rfl) fl_X11_80 rfl rfl dX11_putInto_287 ?_
          refine aw_iload_n X dX11_putInto_290 rfl rfl ?_
          refine am_ald X 11 _ (M.2.2 11) hq (by decide) rfl rfl rfl (bt_vp (hk) (by decide) (by decide)) dX11_putInto_291 ?_
          refine aw_iconst X dX11_putInto_292 ci_1 ?_
          refine aw_iadd X dX11_putInto_293 ?_
          refine aw_iload X dX11_putInto_294 rfl ?_
          refine aw_imul X dX11_putInto_296 ?_
          refine aw_istore (lv' := [(6, _), (5, _), (4, _), (3, _), (0, _), (1, _), (2, _)]) X dX11_putInto_297 (by decide) rfl ?_
          have hw1 : mo_w M k.toNatClampNeg = 4 := by unfold mo_w; rw [if_neg c276]
          have e6 : (((M.2.2 11 k.toNatClampNeg) + 1) * 4 : Int32) = mo_en M k.toNatClampNeg := by unfold mo_en; rw [hw1]; rfl
          have e5 : (4 : Int32) = nI (mo_w M k.toNatClampNeg) := by rw [hw1]; rfl
          rw [e6, e5]
          refine aw_iload X dX11_putInto_299 rfl ?_
          refine aw_bipush X dX11_putInto_301 cb_60 ?_
          refine aw_icmp_le (tgt := 309) X dX11_putInto_303 rfl (fun c303 => ?_) (fun c303 => ?_)
          · refine aw_iconst X dX11_putInto_309 ci_0 ?_
            refine aw_istore (lv' := [(7, _), (6, _), (5, _), (4, _), (3, _), (0, _), (1, _), (2, _)]) X dX11_putInto_310 (by decide) rfl ?_
            have L : ∀ (nn j : Nat) (x : Int32), x = nI j → j ≤ mo_w M k.toNatClampNeg → mo_w M k.toNatClampNeg + 1 ≤ j + nn → AW G p l e ({ frames := 2, cells := 0, slots := 0, locals := 49 } : Room) s m args below meth c 8 A H0 Q (mw G q (mo_fb M (M.2.2 16 k.toNatClampNeg) (mo_en M k.toNatClampNeg) (nrw (M.2.2 9 k.toNatClampNeg) c0) j)) 0 0 312 [(7, .int x), (6, .int (mo_en M k.toNatClampNeg)), (5, .int (nI (mo_w M k.toNatClampNeg))), (4, .int (M.2.2 16 k.toNatClampNeg)), (3, .int (nrw (M.2.2 9 k.toNatClampNeg) c0)), (0, .ref (q 0)), (1, .int k), (2, .int c0)] [] := by
              intro nn
              induction nn with
              | zero => intro j x hx h1 h2; exact absurd h2 (by omega)
              | succ nn ih =>
                intro j x hx h1 h2
                subst hx
                refine aw_iload X dX11_putInto_312 rfl ?_
                refine aw_iload X dX11_putInto_314 rfl ?_
                refine aw_icmp_ge (tgt := 354) X dX11_putInto_316 rfl (fun c316 => ?_) (fun c316 => ?_)
                · have h9 : j = (mo_w M k.toNatClampNeg) := by have := (nI_leI (a := (mo_w M k.toNatClampNeg)) (b := j) (by omega) (by omega)).mp c316; omega
                  refine aw_aload_n X dX11_putInto_354 rfl rfl ?_
                  refine am_get X 36 (Nat.le_of_ble_eq_true rfl) fl_X11_121 rfl rfl dX11_putInto_355 ?_
                  refine aw_iload X dX11_putInto_358 rfl ?_
                  refine aw_aload_n X dX11_putInto_360 rfl rfl ?_
                  refine am_get X 36 (Nat.le_of_ble_eq_true rfl) fl_X11_121 rfl rfl dX11_putInto_361 ?_
                  refine aw_iload X dX11_putInto_364 rfl ?_
                  refine am_ald X 36 _ ((mo_fb M (M.2.2 16 k.toNatClampNeg) (mo_en M k.toNatClampNeg) (nrw (M.2.2 9 k.toNatClampNeg) c0) j).2.2 36) hq (by decide) rfl rfl rfl (bt_vp (fl_bt hFl hKd hkl c42 c131 c7) (by decide) (by decide)) dX11_putInto_366 ?_
                  refine aw_iload X dX11_putInto_367 rfl ?_
                  refine aw_icmp_ge (tgt := 377) X dX11_putInto_369 rfl (fun c369 => ?_) (fun c369 => ?_)
                  · refine aw_aload_n X dX11_putInto_377 rfl rfl ?_
                    refine am_get X 36 (Nat.le_of_ble_eq_true rfl) fl_X11_121 rfl rfl dX11_putInto_378 ?_
                    refine aw_iload X dX11_putInto_381 rfl ?_
                    refine am_ald X 36 _ ((mo_fb M (M.2.2 16 k.toNatClampNeg) (mo_en M k.toNatClampNeg) (nrw (M.2.2 9 k.toNatClampNeg) c0) j).2.2 36) hq (by decide) rfl rfl rfl (bt_vp (fl_bt hFl hKd hkl c42 c131 c7) (by decide) (by decide)) dX11_putInto_383 ?_
                    refine am_ast X 36 _ hq (by decide) rfl rfl (bt_vp (fl_bt hFl hKd hkl c42 c131 c7) (by decide) (by decide)) dX11_putInto_384 ?_
                    refine aw_aload_n X dX11_putInto_385 rfl rfl ?_
                    refine am_get X 11 (Nat.le_of_ble_eq_true rfl) fl_X11_80 rfl rfl dX11_putInto_386 ?_
                    refine aw_iload_n X dX11_putInto_389 rfl rfl ?_
                    refine aw_dup2_11 X dX11_putInto_390 rfl rfl ?_
                    refine am_ald X 11 _ ((mo_fb M (M.2.2 16 k.toNatClampNeg) (mo_en M k.toNatClampNeg) (nrw (M.2.2 9 k.toNatClampNeg) c0) j).2.2 11) hq (by decide) rfl rfl rfl (bt_vp (hk) (by decide) (by decide)) dX11_putInto_391 ?_
                    refine aw_iconst X dX11_putInto_392 ci_1 ?_
                    refine aw_iadd X dX11_putInto_393 ?_
                    refine am_ast X 11 _ hq (by decide) rfl rfl (bt_vp (hk) (by decide) (by decide)) dX11_putInto_394 ?_
                    refine aw_aload_n X dX11_putInto_395 rfl rfl ?_
                    refine aw_iload_n X dX11_putInto_396 rfl rfl ?_
                    refine aw_callV X (kX11_counted _ _ _ _ hq _ hk) okm_X11_counted okX11 mw_0 ml_X11_175 im_X11_counted se_X11_X11_counted rfl rfl (Nat.le_of_ble_eq_true rfl) ⟨Nat.le_of_ble_eq_true rfl, Nat.le_of_ble_eq_true rfl, Nat.le_of_ble_eq_true rfl, Nat.le_of_ble_eq_true rfl⟩ dX11_putInto_397 (fun v w2 hp => ?_)
                    obtain ⟨rfl, rfl⟩ := hp
                    refine aw_iconst X dX11_putInto_400 ci_1 ?_
                    refine RTN (some (.int _)) _ _ _ _ _ dX11_putInto_401 (⟨_, rfl⟩) (Nat.le_of_ble_eq_true rfl) (Nat.le_of_ble_eq_true rfl) ?_
                    refine ⟨by simp only [mo_pi, c7, c42, c131, c303, if_true, if_false], ?_⟩
                    subst h9
                    simp only [mo_pi, c7, c42, c131, c303, if_true, if_false, mo_pfl, mo_fl, c369]
                  · refine aw_iload X dX11_putInto_372 rfl ?_
                    refine aw_goto (tgt := 384) X dX11_putInto_374 rfl ?_
                    refine am_ast X 36 _ hq (by decide) rfl rfl (bt_vp (fl_bt hFl hKd hkl c42 c131 c7) (by decide) (by decide)) dX11_putInto_384 ?_
                    refine aw_aload_n X dX11_putInto_385 rfl rfl ?_
                    refine am_get X 11 (Nat.le_of_ble_eq_true rfl) fl_X11_80 rfl rfl dX11_putInto_386 ?_
                    refine aw_iload_n X dX11_putInto_389 rfl rfl ?_
                    refine aw_dup2_11 X dX11_putInto_390 rfl rfl ?_
                    refine am_ald X 11 _ ((mo_fb M (M.2.2 16 k.toNatClampNeg) (mo_en M k.toNatClampNeg) (nrw (M.2.2 9 k.toNatClampNeg) c0) j).2.2 11) hq (by decide) rfl rfl rfl (bt_vp (hk) (by decide) (by decide)) dX11_putInto_391 ?_
                    refine aw_iconst X dX11_putInto_392 ci_1 ?_
                    refine aw_iadd X dX11_putInto_393 ?_
                    refine am_ast X 11 _ hq (by decide) rfl rfl (bt_vp (hk) (by decide) (by decide)) dX11_putInto_394 ?_
                    refine aw_aload_n X dX11_putInto_395 rfl rfl ?_
                    refine aw_iload_n X dX11_putInto_396 rfl rfl ?_
                    refine aw_callV X (kX11_counted _ _ _ _ hq _ hk) okm_X11_counted okX11 mw_0 ml_X11_175 im_X11_counted se_X11_X11_counted rfl rfl (Nat.le_of_ble_eq_true rfl) ⟨Nat.le_of_ble_eq_true rfl, Nat.le_of_ble_eq_true rfl, Nat.le_of_ble_eq_true rfl, Nat.le_of_ble_eq_true rfl⟩ dX11_putInto_397 (fun v w2 hp => ?_)
                    obtain ⟨rfl, rfl⟩ := hp
                    refine aw_iconst X dX11_putInto_400 ci_1 ?_
                    refine RTN (some (.int _)) _ _ _ _ _ dX11_putInto_401 (⟨_, rfl⟩) (Nat.le_of_ble_eq_true rfl) (Nat.le_of_ble_eq_true rfl) ?_
                    refine ⟨by simp only [mo_pi, c7, c42, c131, c303, if_true, if_false], ?_⟩
                    subst h9
                    simp only [mo_pi, c7, c42, c131, c303, if_true, if_false, mo_pfl, mo_fl, c369]
                · have h9 : j < (mo_w M k.toNatClampNeg) := Nat.lt_of_not_le (fun h => c316 ((nI_leI (a := (mo_w M k.toNatClampNeg)) (b := j) (by omega) (by omega)).mpr h))
                  refine aw_aload_n X dX11_putInto_319 rfl rfl ?_
                  refine am_get X 37 (Nat.le_of_ble_eq_true rfl) fl_X11_154 rfl rfl dX11_putInto_320 ?_
                  refine aw_bipush X dX11_putInto_323 cb_60 ?_
                  refine aw_iload X dX11_putInto_325 rfl ?_
                  refine aw_imul X dX11_putInto_327 ?_
                  refine aw_iload X dX11_putInto_328 rfl ?_
                  refine aw_iadd X dX11_putInto_330 ?_
                  refine aw_iconst X dX11_putInto_331 ci_1 ?_
                  refine aw_isub X dX11_putInto_332 ?_
                  refine aw_iload X dX11_putInto_333 rfl ?_
                  refine aw_isub X dX11_putInto_335 ?_
                  refine aw_iload_n X dX11_putInto_336 rfl rfl ?_
                  refine aw_bipush X dX11_putInto_337 cb_8 ?_
                  refine aw_iload X dX11_putInto_339 rfl ?_
                  refine aw_imul X dX11_putInto_341 ?_
                  refine aw_ishr X dX11_putInto_342 ?_
                  refine aw_sipush X dX11_putInto_343 cs_255 ?_
                  refine aw_iand X dX11_putInto_346 ?_
                  refine am_ast X 37 _ hq (by decide) rfl rfl (ixfb (hPl _ hkl) (fl_bt hFl hKd hkl c42 c131 c7) c303 h9) dX11_putInto_347 ?_
                  refine aw_iinc (lv' := [(7, _), (6, _), (5, _), (4, _), (3, _), (0, _), (1, _), (2, _)]) X dX11_putInto_348 rfl (iinc_1 _) (by decide) rfl ?_
                  refine aw_goto (tgt := 312) X dX11_putInto_351 rfl ?_
                  refine aw_lv [0, 1, 2, 3, 4, 5, 6, 7] rfl ?_
                  exact ih (j + 1) _ (nI_1 j) (by omega) (by omega)
            refine aw_lv [0, 1, 2, 3, 4, 5, 6, 7] rfl ?_
            exact L 5 0 _ rfl (by omega) (by rcases w_or M k.toNatClampNeg with h | h <;> rw [h] <;> decide)
          · refine aw_bipush X dX11_putInto_306 cb_m5 ?_
            refine RTN (some (.int _)) _ _ _ _ _ dX11_putInto_308 (⟨_, rfl⟩) (Nat.le_of_ble_eq_true rfl) (Nat.le_of_ble_eq_true rfl) ?_
            constructor <;> simp only [mo_pi, mo_pf, mo_pm, c7, c42, c131, c276, c303, if_true, if_false]
      · refine aw_aload_n X dX11_putInto_134 rfl rfl ?_
        refine am_get X 11 (Nat.le_of_ble_eq_true rfl) fl_X11_80 rfl rfl dX11_putInto_135 ?_
        refine aw_iload_n X dX11_putInto_138 rfl rfl ?_
        refine am_ald X 11 _ (M.2.2 11) hq (by decide) rfl rfl rfl (bt_vp (hk) (by decide) (by decide)) dX11_putInto_139 ?_
        refine aw_aload_n X dX11_putInto_140 rfl rfl ?_
        refine am_get X 12 (Nat.le_of_ble_eq_true rfl) fl_X11_83 rfl rfl dX11_putInto_141 ?_
        refine aw_iload_n X dX11_putInto_144 rfl rfl ?_
        refine am_ald X 12 _ (M.2.2 12) hq (by decide) rfl rfl rfl (bt_vp (hk) (by decide) (by decide)) dX11_putInto_145 ?_
        refine aw_icmp_lt (tgt := 166) X dX11_putInto_146 rfl (fun c146 => ?_) (fun c146 => ?_)
        · refine aw_aload_n X dX11_putInto_166 rfl rfl ?_
          refine aw_aload_n X dX11_putInto_167 rfl rfl ?_
          refine am_get X 15 (Nat.le_of_ble_eq_true rfl) fl_X11_26 rfl rfl dX11_putInto_168 ?_
          refine aw_iload_n X dX11_putInto_171 rfl rfl ?_
          refine am_ald X 15 _ (M.2.2 15) hq (by decide) rfl rfl rfl (bt_vp (hk) (by decide) (by decide)) dX11_putInto_172 ?_
          refine aw_aload_n X dX11_putInto_173 rfl rfl ?_
          refine am_get X 9 (Nat.le_of_ble_eq_true rfl) fl_X11_74 rfl rfl dX11_putInto_174 ?_
          refine aw_iload_n X dX11_putInto_177 rfl rfl ?_
          refine am_zld X 9 _ (M.2.2 9) hq (by decide) rfl rfl rfl (bt_vp (hk) (by decide) (by decide)) dX11_putInto_178 ?_
          refine aw_if_eq (tgt := 186) X dX11_putInto_179 rfl (fun c179 => ?_) (fun c179 => ?_)
          · refine aw_iconst X dX11_putInto_186 ci_1 ?_
            refine aw_aload_n X dX11_putInto_187 rfl rfl ?_
            refine am_get X 11 (Nat.le_of_ble_eq_true rfl) fl_X11_80 rfl rfl dX11_putInto_188 ?_
            refine aw_iload_n X dX11_putInto_191 rfl rfl ?_
            refine am_ald X 11 _ (M.2.2 11) hq (by decide) rfl rfl rfl (bt_vp (hk) (by decide) (by decide)) dX11_putInto_192 ?_
            refine aw_callV X (kX11_against _ _ _ _ hq (M.2.2 15 k.toNatClampNeg) _ _ (hA1 _ hkl)) okm_X11_against okX11 mw_0 ml_X11_54 im_X11_against se_X11_X11_against rfl rfl (Nat.le_of_ble_eq_true rfl) ⟨Nat.le_of_ble_eq_true rfl, Nat.le_of_ble_eq_true rfl, Nat.le_of_ble_eq_true rfl, Nat.le_of_ble_eq_true rfl⟩ dX11_putInto_193 (fun v w2 hp => ?_)
            obtain ⟨rfl, rfl⟩ := hp
            refine aw_istore (lv' := [(4, _), (3, _), (0, _), (1, _), (2, _)]) X dX11_putInto_196 (by decide) rfl ?_
            refine aw_iload X dX11_putInto_198 rfl ?_
            refine aw_if_le (tgt := 210) X dX11_putInto_200 rfl (fun c200 => ?_) (fun c200 => ?_)
            · refine aw_aload_n X dX11_putInto_210 rfl rfl ?_
              refine am_get X 4 (Nat.le_of_ble_eq_true rfl) fl_X11_49 rfl rfl dX11_putInto_211 ?_
              refine aw_bipush X dX11_putInto_214 cb_40 ?_
              refine aw_aload_n X dX11_putInto_216 rfl rfl ?_
              refine am_get X 15 (Nat.le_of_ble_eq_true rfl) fl_X11_26 rfl rfl dX11_putInto_217 ?_
              refine aw_iload_n X dX11_putInto_220 rfl rfl ?_
              refine am_ald X 15 _ (M.2.2 15) hq (by decide) rfl rfl rfl (bt_vp (hk) (by decide) (by decide)) dX11_putInto_221 ?_
              refine aw_imul X dX11_putInto_222 ?_
              refine aw_aload_n X dX11_putInto_223 rfl rfl ?_
              refine am_get X 11 (Nat.le_of_ble_eq_true rfl) fl_X11_80 rfl rfl dX11_putInto_224 ?_
              refine aw_iload_n X dX11_putInto_227 rfl rfl ?_
              refine am_ald X 11 _ (M.2.2 11) hq (by decide) rfl rfl rfl (bt_vp (hk) (by decide) (by decide)) dX11_putInto_228 ?_
              refine aw_iadd X dX11_putInto_229 ?_
              refine aw_bipush X dX11_putInto_230 cb_40 ?_
              refine aw_isub X dX11_putInto_232 ?_
              refine aw_aload_n X dX11_putInto_233 rfl rfl ?_
              refine am_get X 9 (Nat.le_of_ble_eq_true rfl) fl_X11_74 rfl rfl dX11_putInto_234 ?_
              refine aw_iload_n X dX11_putInto_237 rfl rfl ?_
              refine am_zld X 9 _ (M.2.2 9) hq (by decide) rfl rfl rfl (bt_vp (hk) (by decide) (by decide)) dX11_putInto_238 ?_
              refine aw_if_eq (tgt := 246) X dX11_putInto_239 rfl (fun c239 => ?_) (fun c239 => ?_)
              · refine aw_iload_n X dX11_putInto_246 rfl rfl ?_
                refine aw_i2b X dX11_putInto_247 ?_
                refine am_ast X 4 _ hq (by decide) rfl rfl (ix_v (ag_ok hS (hA1 _ hkl) c200).1 (ag_ok hS (hA1 _ hkl) c200).2) dX11_putInto_248 ?_
                refine aw_aload_n X dX11_putInto_249 rfl rfl ?_
                refine am_get X 11 (Nat.le_of_ble_eq_true rfl) fl_X11_80 rfl rfl dX11_putInto_250 ?_
                refine aw_iload_n X dX11_putInto_253 rfl rfl ?_
                refine aw_dup2_11 X dX11_putInto_254 rfl rfl ?_
                refine am_ald X 11 _ (M.2.2 11) hq (by decide) rfl rfl rfl (bt_vp (hk) (by decide) (by decide)) dX11_putInto_255 ?_
                refine aw_iconst X dX11_putInto_256 ci_1 ?_
                refine aw_iadd X dX11_putInto_257 ?_
                refine am_ast X 11 _ hq (by decide) rfl rfl (bt_vp (hk) (by decide) (by decide)) dX11_putInto_258 ?_
                refine aw_goto (tgt := 395) X dX11_putInto_259 rfl ?_
                refine aw_aload_n X dX11_putInto_395 rfl rfl ?_
                refine aw_iload_n X dX11_putInto_396 rfl rfl ?_
                refine aw_callV X (kX11_counted _ _ _ _ hq _ hk) okm_X11_counted okX11 mw_0 ml_X11_175 im_X11_counted se_X11_X11_counted rfl rfl (Nat.le_of_ble_eq_true rfl) ⟨Nat.le_of_ble_eq_true rfl, Nat.le_of_ble_eq_true rfl, Nat.le_of_ble_eq_true rfl, Nat.le_of_ble_eq_true rfl⟩ dX11_putInto_397 (fun v w2 hp => ?_)
                obtain ⟨rfl, rfl⟩ := hp
                refine aw_iconst X dX11_putInto_400 ci_1 ?_
                refine RTN (some (.int _)) _ _ _ _ _ dX11_putInto_401 (⟨_, rfl⟩) (Nat.le_of_ble_eq_true rfl) (Nat.le_of_ble_eq_true rfl) ?_
                constructor <;> simp only [mo_pi, mo_pf, mo_pm, c7, c42, (eq_true c131), c146, (eq_true c179), c200, (eq_true c239), if_true, if_false]
              · exact absurd c179 c239
            · refine aw_aload_n X dX11_putInto_203 rfl rfl ?_
              refine aw_iload X dX11_putInto_204 rfl ?_
              refine aw_callV X (kX11_fails _ _ _ _ hq _) okm_X11_fails okX11 mw_0 ml_X11_35 im_X11_fails se_X11_X11_fails rfl rfl (Nat.le_of_ble_eq_true rfl) ⟨Nat.le_of_ble_eq_true rfl, Nat.le_of_ble_eq_true rfl, Nat.le_of_ble_eq_true rfl, Nat.le_of_ble_eq_true rfl⟩ dX11_putInto_206 (fun v w2 hp => ?_)
              obtain ⟨rfl, rfl⟩ := hp
              refine RTN (some (.int _)) _ _ _ _ _ dX11_putInto_209 (⟨_, rfl⟩) (Nat.le_of_ble_eq_true rfl) (Nat.le_of_ble_eq_true rfl) ?_
              constructor <;> simp only [mo_pi, mo_pf, mo_pm, c7, c42, (eq_true c131), c146, (eq_true c179), c200, if_true, if_false]
          · refine aw_iconst X dX11_putInto_182 ci_2 ?_
            refine aw_goto (tgt := 187) X dX11_putInto_183 rfl ?_
            refine aw_aload_n X dX11_putInto_187 rfl rfl ?_
            refine am_get X 11 (Nat.le_of_ble_eq_true rfl) fl_X11_80 rfl rfl dX11_putInto_188 ?_
            refine aw_iload_n X dX11_putInto_191 rfl rfl ?_
            refine am_ald X 11 _ (M.2.2 11) hq (by decide) rfl rfl rfl (bt_vp (hk) (by decide) (by decide)) dX11_putInto_192 ?_
            refine aw_callV X (kX11_against _ _ _ _ hq (M.2.2 15 k.toNatClampNeg) _ _ (hA1 _ hkl)) okm_X11_against okX11 mw_0 ml_X11_54 im_X11_against se_X11_X11_against rfl rfl (Nat.le_of_ble_eq_true rfl) ⟨Nat.le_of_ble_eq_true rfl, Nat.le_of_ble_eq_true rfl, Nat.le_of_ble_eq_true rfl, Nat.le_of_ble_eq_true rfl⟩ dX11_putInto_193 (fun v w2 hp => ?_)
            obtain ⟨rfl, rfl⟩ := hp
            refine aw_istore (lv' := [(4, _), (3, _), (0, _), (1, _), (2, _)]) X dX11_putInto_196 (by decide) rfl ?_
            refine aw_iload X dX11_putInto_198 rfl ?_
            refine aw_if_le (tgt := 210) X dX11_putInto_200 rfl (fun c200 => ?_) (fun c200 => ?_)
            · refine aw_aload_n X dX11_putInto_210 rfl rfl ?_
              refine am_get X 4 (Nat.le_of_ble_eq_true rfl) fl_X11_49 rfl rfl dX11_putInto_211 ?_
              refine aw_bipush X dX11_putInto_214 cb_40 ?_
              refine aw_aload_n X dX11_putInto_216 rfl rfl ?_
              refine am_get X 15 (Nat.le_of_ble_eq_true rfl) fl_X11_26 rfl rfl dX11_putInto_217 ?_
              refine aw_iload_n X dX11_putInto_220 rfl rfl ?_
              refine am_ald X 15 _ (M.2.2 15) hq (by decide) rfl rfl rfl (bt_vp (hk) (by decide) (by decide)) dX11_putInto_221 ?_
              refine aw_imul X dX11_putInto_222 ?_
              refine aw_aload_n X dX11_putInto_223 rfl rfl ?_
              refine am_get X 11 (Nat.le_of_ble_eq_true rfl) fl_X11_80 rfl rfl dX11_putInto_224 ?_
              refine aw_iload_n X dX11_putInto_227 rfl rfl ?_
              refine am_ald X 11 _ (M.2.2 11) hq (by decide) rfl rfl rfl (bt_vp (hk) (by decide) (by decide)) dX11_putInto_228 ?_
              refine aw_iadd X dX11_putInto_229 ?_
              refine aw_bipush X dX11_putInto_230 cb_40 ?_
              refine aw_isub X dX11_putInto_232 ?_
              refine aw_aload_n X dX11_putInto_233 rfl rfl ?_
              refine am_get X 9 (Nat.le_of_ble_eq_true rfl) fl_X11_74 rfl rfl dX11_putInto_234 ?_
              refine aw_iload_n X dX11_putInto_237 rfl rfl ?_
              refine am_zld X 9 _ (M.2.2 9) hq (by decide) rfl rfl rfl (bt_vp (hk) (by decide) (by decide)) dX11_putInto_238 ?_
              refine aw_if_eq (tgt := 246) X dX11_putInto_239 rfl (fun c239 => ?_) (fun c239 => ?_)
              · exact absurd c239 c179
              · refine aw_iload_n X dX11_putInto_242 rfl rfl ?_
                refine aw_goto (tgt := 248) X dX11_putInto_243 rfl ?_
                refine am_ast X 4 _ hq (by decide) rfl rfl (ix_v (ag_ok hS (hA1 _ hkl) c200).1 (ag_ok hS (hA1 _ hkl) c200).2) dX11_putInto_248 ?_
                refine aw_aload_n X dX11_putInto_249 rfl rfl ?_
                refine am_get X 11 (Nat.le_of_ble_eq_true rfl) fl_X11_80 rfl rfl dX11_putInto_250 ?_
                refine aw_iload_n X dX11_putInto_253 rfl rfl ?_
                refine aw_dup2_11 X dX11_putInto_254 rfl rfl ?_
                refine am_ald X 11 _ (M.2.2 11) hq (by decide) rfl rfl rfl (bt_vp (hk) (by decide) (by decide)) dX11_putInto_255 ?_
                refine aw_iconst X dX11_putInto_256 ci_1 ?_
                refine aw_iadd X dX11_putInto_257 ?_
                refine am_ast X 11 _ hq (by decide) rfl rfl (bt_vp (hk) (by decide) (by decide)) dX11_putInto_258 ?_
                refine aw_goto (tgt := 395) X dX11_putInto_259 rfl ?_
                refine aw_aload_n X dX11_putInto_395 rfl rfl ?_
                refine aw_iload_n X dX11_putInto_396 rfl rfl ?_
                refine aw_callV X (kX11_counted _ _ _ _ hq _ hk) okm_X11_counted okX11 mw_0 ml_X11_175 im_X11_counted se_X11_X11_counted rfl rfl (Nat.le_of_ble_eq_true rfl) ⟨Nat.le_of_ble_eq_true rfl, Nat.le_of_ble_eq_true rfl, Nat.le_of_ble_eq_true rfl, Nat.le_of_ble_eq_true rfl⟩ dX11_putInto_397 (fun v w2 hp => ?_)
                obtain ⟨rfl, rfl⟩ := hp
                refine aw_iconst X dX11_putInto_400 ci_1 ?_
                refine RTN (some (.int _)) _ _ _ _ _ dX11_putInto_401 (⟨_, rfl⟩) (Nat.le_of_ble_eq_true rfl) (Nat.le_of_ble_eq_true rfl) ?_
                constructor <;> simp only [mo_pi, mo_pf, mo_pm, c7, c42, (eq_true c131), c146, c179, c200, c239, if_true, if_false]
            · refine aw_aload_n X dX11_putInto_203 rfl rfl ?_
              refine aw_iload X dX11_putInto_204 rfl ?_
              refine aw_callV X (kX11_fails _ _ _ _ hq _) okm_X11_fails okX11 mw_0 ml_X11_35 im_X11_fails se_X11_X11_fails rfl rfl (Nat.le_of_ble_eq_true rfl) ⟨Nat.le_of_ble_eq_true rfl, Nat.le_of_ble_eq_true rfl, Nat.le_of_ble_eq_true rfl, Nat.le_of_ble_eq_true rfl⟩ dX11_putInto_206 (fun v w2 hp => ?_)
              obtain ⟨rfl, rfl⟩ := hp
              refine RTN (some (.int _)) _ _ _ _ _ dX11_putInto_209 (⟨_, rfl⟩) (Nat.le_of_ble_eq_true rfl) (Nat.le_of_ble_eq_true rfl) ?_
              constructor <;> simp only [mo_pi, mo_pf, mo_pm, c7, c42, (eq_true c131), c146, c179, c200, if_true, if_false]
        · refine aw_aload_n X dX11_putInto_149 rfl rfl ?_
          refine aw_dup X dX11_putInto_150 rfl ?_
          refine am_get X 22 (v := .long (M.2.1 22)) (Nat.le_of_ble_eq_true rfl) fl_X11_172 rfl rfl dX11_putInto_151 ?_
          refine aw_lconst X dX11_putInto_154 cl_1 ?_
          refine aw_ladd X dX11_putInto_155 ?_
          refine am_put X 22 (M' := sL _ 22 _) (Nat.le_of_ble_eq_true rfl) fl_X11_172 rfl rfl (rfl) (rfl) (mf_22 _ _ _) rfl dX11_putInto_156 ?_
          refine aw_aload_n X dX11_putInto_159 rfl rfl ?_
          refine aw_iload_n X dX11_putInto_160 rfl rfl ?_
          refine aw_callV X (kX11_counted _ _ _ _ hq _ hk) okm_X11_counted okX11 mw_0 ml_X11_175 im_X11_counted se_X11_X11_counted rfl rfl (Nat.le_of_ble_eq_true rfl) ⟨Nat.le_of_ble_eq_true rfl, Nat.le_of_ble_eq_true rfl, Nat.le_of_ble_eq_true rfl, Nat.le_of_ble_eq_true rfl⟩ dX11_putInto_161 (fun v w2 hp => ?_)
          obtain ⟨rfl, rfl⟩ := hp
          refine aw_iconst X dX11_putInto_164 ci_1 ?_
          refine RTN (some (.int _)) _ _ _ _ _ dX11_putInto_165 (⟨_, rfl⟩) (Nat.le_of_ble_eq_true rfl) (Nat.le_of_ble_eq_true rfl) ?_
          constructor <;> simp only [mo_pi, mo_pf, mo_pm, c7, c42, (eq_true c131), c146, if_true, if_false]
    · refine aw_bipush X dX11_putInto_45 cb_19 ?_
      refine aw_istore (lv' := [(4, _), (3, _), (0, _), (1, _), (2, _)]) X dX11_putInto_47 (by decide) rfl ?_
      have L : ∀ (nn t : Nat) (x : Int32), x = nI (19 - t) → t ≤ 19 → 20 ≤ t + nn → AW G p l e ({ frames := 2, cells := 0, slots := 0, locals := 49 } : Room) s m args below meth c 8 A H0 Q (mw G q (mo_sh M k t)) 0 0 49 [(4, .int x), (3, .int (nrw (M.2.2 9 k.toNatClampNeg) c0)), (0, .ref (q 0)), (1, .int k), (2, .int c0)] [] := by
        intro nn
        induction nn with
        | zero => intro t x hx h1 h2; exact absurd h2 (by omega)
        | succ nn ih =>
          intro t x hx h1 h2
          subst hx
          refine aw_iload X dX11_putInto_49 rfl ?_
          refine aw_if_le (tgt := 86) X dX11_putInto_51 rfl (fun c51 => ?_) (fun c51 => ?_)
          · have h9 : t = 19 := by
              rcases Nat.lt_or_ge t 19 with hh | hh
              · exact absurd c51 (nI_nle (by omega) (by omega))
              · omega
            refine aw_aload_n X dX11_putInto_86 rfl rfl ?_
            refine am_get X 18 (Nat.le_of_ble_eq_true rfl) fl_X11_133 rfl rfl dX11_putInto_87 ?_
            refine aw_bipush X dX11_putInto_90 cb_40 ?_
            refine aw_iload_n X dX11_putInto_92 rfl rfl ?_
            refine aw_imul X dX11_putInto_93 ?_
            refine aw_iload_n X dX11_putInto_94 rfl rfl ?_
            refine am_ast X 18 _ hq (by decide) rfl rfl (ix80 hk) dX11_putInto_95 ?_
            refine aw_aload_n X dX11_putInto_96 rfl rfl ?_
            refine am_get X 19 (Nat.le_of_ble_eq_true rfl) fl_X11_98 rfl rfl dX11_putInto_97 ?_
            refine aw_iload_n X dX11_putInto_100 rfl rfl ?_
            refine aw_dup2_11 X dX11_putInto_101 rfl rfl ?_
            refine am_ald X 19 _ ((mo_sh M k t).2.2 19) hq (by decide) rfl rfl rfl (bt_vp (hk) (by decide) (by decide)) dX11_putInto_102 ?_
            refine aw_aload_n X dX11_putInto_103 rfl rfl ?_
            refine am_get X 19 (Nat.le_of_ble_eq_true rfl) fl_X11_98 rfl rfl dX11_putInto_104 ?_
            refine aw_iload_n X dX11_putInto_107 rfl rfl ?_
            refine am_ald X 19 _ ((mo_sh M k t).2.2 19) hq (by decide) rfl rfl rfl (bt_vp (hk) (by decide) (by decide)) dX11_putInto_108 ?_
            refine aw_bipush X dX11_putInto_109 cb_20 ?_
            refine aw_icmp_ge (tgt := 118) X dX11_putInto_111 rfl (fun c111 => ?_) (fun c111 => ?_)
            · refine aw_iconst X dX11_putInto_118 ci_0 ?_
              refine aw_iadd X dX11_putInto_119 ?_
              refine am_ast X 19 _ hq (by decide) rfl rfl (bt_vp (hk) (by decide) (by decide)) dX11_putInto_120 ?_
              refine aw_goto (tgt := 395) X dX11_putInto_121 rfl ?_
              refine aw_aload_n X dX11_putInto_395 rfl rfl ?_
              refine aw_iload_n X dX11_putInto_396 rfl rfl ?_
              refine aw_callV X (kX11_counted _ _ _ _ hq _ hk) okm_X11_counted okX11 mw_0 ml_X11_175 im_X11_counted se_X11_X11_counted rfl rfl (Nat.le_of_ble_eq_true rfl) ⟨Nat.le_of_ble_eq_true rfl, Nat.le_of_ble_eq_true rfl, Nat.le_of_ble_eq_true rfl, Nat.le_of_ble_eq_true rfl⟩ dX11_putInto_397 (fun v w2 hp => ?_)
              obtain ⟨rfl, rfl⟩ := hp
              refine aw_iconst X dX11_putInto_400 ci_1 ?_
              refine RTN (some (.int _)) _ _ _ _ _ dX11_putInto_401 (⟨_, rfl⟩) (Nat.le_of_ble_eq_true rfl) (Nat.le_of_ble_eq_true rfl) ?_
              subst h9
              refine ⟨by simp only [mo_pi, c7, c42, if_true, if_false], ?_⟩
              simp only [mo_pi, c7, c42, if_true, if_false, mo_pp, c111]
            · refine aw_iconst X dX11_putInto_114 ci_1 ?_
              refine aw_goto (tgt := 119) X dX11_putInto_115 rfl ?_
              refine aw_iadd X dX11_putInto_119 ?_
              refine am_ast X 19 _ hq (by decide) rfl rfl (bt_vp (hk) (by decide) (by decide)) dX11_putInto_120 ?_
              refine aw_goto (tgt := 395) X dX11_putInto_121 rfl ?_
              refine aw_aload_n X dX11_putInto_395 rfl rfl ?_
              refine aw_iload_n X dX11_putInto_396 rfl rfl ?_
              refine aw_callV X (kX11_counted _ _ _ _ hq _ hk) okm_X11_counted okX11 mw_0 ml_X11_175 im_X11_counted se_X11_X11_counted rfl rfl (Nat.le_of_ble_eq_true rfl) ⟨Nat.le_of_ble_eq_true rfl, Nat.le_of_ble_eq_true rfl, Nat.le_of_ble_eq_true rfl, Nat.le_of_ble_eq_true rfl⟩ dX11_putInto_397 (fun v w2 hp => ?_)
              obtain ⟨rfl, rfl⟩ := hp
              refine aw_iconst X dX11_putInto_400 ci_1 ?_
              refine RTN (some (.int _)) _ _ _ _ _ dX11_putInto_401 (⟨_, rfl⟩) (Nat.le_of_ble_eq_true rfl) (Nat.le_of_ble_eq_true rfl) ?_
              subst h9
              refine ⟨by simp only [mo_pi, c7, c42, if_true, if_false], ?_⟩
              simp only [mo_pi, c7, c42, if_true, if_false, mo_pp, c111]
          · have h9 : t < 19 := by
              rcases Nat.lt_or_ge t 19 with hh | hh
              · exact hh
              · exact absurd (by rw [show 19 - t = 0 by omega]; decide) c51
            refine aw_aload_n X dX11_putInto_54 rfl rfl ?_
            refine am_get X 18 (Nat.le_of_ble_eq_true rfl) fl_X11_133 rfl rfl dX11_putInto_55 ?_
            refine aw_bipush X dX11_putInto_58 cb_40 ?_
            refine aw_iload_n X dX11_putInto_60 rfl rfl ?_
            refine aw_imul X dX11_putInto_61 ?_
            refine aw_iload X dX11_putInto_62 rfl ?_
            refine aw_iadd X dX11_putInto_64 ?_
            refine aw_aload_n X dX11_putInto_65 rfl rfl ?_
            refine am_get X 18 (Nat.le_of_ble_eq_true rfl) fl_X11_133 rfl rfl dX11_putInto_66 ?_
            refine aw_bipush X dX11_putInto_69 cb_40 ?_
            refine aw_iload_n X dX11_putInto_71 rfl rfl ?_
            refine aw_imul X dX11_putInto_72 ?_
            refine aw_iload X dX11_putInto_73 rfl ?_
            refine aw_iadd X dX11_putInto_75 ?_
            refine aw_iconst X dX11_putInto_76 ci_1 ?_
            refine aw_isub X dX11_putInto_77 ?_
            refine am_ald X 18 _ ((mo_sh M k t).2.2 18) hq (by decide) rfl rfl rfl (ix8m hk ((bt_nI (n := 19 - t) (lo := 1) (hi := 39) (by omega)).mpr ⟨by omega, by omega⟩)) dX11_putInto_78 ?_
            refine am_ast X 18 _ hq (by decide) rfl rfl (ix8 hk ((bt_nI (n := 19 - t) (lo := 0) (hi := 39) (by omega)).mpr ⟨by omega, by omega⟩)) dX11_putInto_79 ?_
            refine aw_iinc (lv' := [(4, _), (3, _), (0, _), (1, _), (2, _)]) X dX11_putInto_80 rfl (iinc_m1 _) (by decide) rfl ?_
            refine aw_goto (tgt := 49) X dX11_putInto_83 rfl ?_
            refine aw_lv [0, 1, 2, 3, 4] rfl ?_
            exact ih (t + 1) _ (by rw [sb_m1 (by omega)]; congr 1) (by omega) (by omega)
      refine aw_lv [0, 1, 2, 3, 4] rfl ?_
      exact L 20 0 _ rfl (by decide) (by decide)
  refine aw_aload_n X dX11_putInto_0 rfl rfl ?_
  refine am_get X 10 (Nat.le_of_ble_eq_true rfl) fl_X11_77 rfl rfl dX11_putInto_1 ?_
  refine aw_iload_n X dX11_putInto_4 rfl rfl ?_
  refine am_ald X 10 _ (M.2.2 10) hq (by decide) rfl rfl rfl (bt_vp (hk) (by decide) (by decide)) dX11_putInto_5 ?_
  refine aw_iconst X dX11_putInto_6 ci_2 ?_
  refine aw_icmp_ne (tgt := 13) X dX11_putInto_7 rfl (fun c7 => ?_) (fun c7 => ?_)
  · refine aw_aload_n X dX11_putInto_13 rfl rfl ?_
    refine am_get X 9 (Nat.le_of_ble_eq_true rfl) fl_X11_74 rfl rfl dX11_putInto_14 ?_
    refine aw_iload_n X dX11_putInto_17 rfl rfl ?_
    refine am_zld X 9 _ (M.2.2 9) hq (by decide) rfl rfl rfl (bt_vp (hk) (by decide) (by decide)) dX11_putInto_18 ?_
    refine aw_if_ne (tgt := 34) X dX11_putInto_19 rfl (fun c19 => ?_) (fun c19 => ?_)
    · refine aw_iload_n X dX11_putInto_34 rfl rfl ?_
      exact J c7 _ (by simp only [nrw, c19, if_true, if_false])
    · refine aw_iload_n X dX11_putInto_22 rfl rfl ?_
      refine aw_sipush X dX11_putInto_23 cs_255 ?_
      refine aw_icmp_le (tgt := 34) X dX11_putInto_26 rfl (fun c26 => ?_) (fun c26 => ?_)
      · refine aw_iload_n X dX11_putInto_34 rfl rfl ?_
        exact J c7 _ (by simp only [nrw, c19, c26, if_true, if_false])
      · refine aw_bipush X dX11_putInto_29 cb_63 ?_
        refine aw_goto (tgt := 35) X dX11_putInto_31 rfl ?_
        exact J c7 _ (by simp only [nrw, c19, c26, if_true, if_false])
  · refine aw_bipush X dX11_putInto_10 cb_m4 ?_
    refine RTN (some (.int _)) _ _ _ _ _ dX11_putInto_12 (⟨_, rfl⟩) (Nat.le_of_ble_eq_true rfl) (Nat.le_of_ble_eq_true rfl) ?_
    constructor <;> simp only [mo_pi, c7, if_true]
