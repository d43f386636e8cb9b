/-! signs taken out of an array; give -/
def sgp (so : Int32) (f : Nat → Int32) : Nat → (Nat → Int32)
  | 0 => fun _ => 0
  | j + 1 => upd (sgp so f j) (nI j).toNatClampNeg (it_sign so (f (nI j).toNatClampNeg))
def sgf (so : Int32) (f : Nat → Int32) (N : Nat) : Nat → Int32 := fun j => if j < N then it_sign so (f j) else 0
theorem sgp_eq {so : Int32} {f : Nat → Int32} : ∀ N, N ≤ 40 → sgp so f N = sgf so f N
  | 0, _ => by
    funext j
    exact (if_neg (by omega) : sgf so f 0 j = 0).symm
  | N + 1, h => by
    show upd (sgp so f N) (nI N).toNatClampNeg (it_sign so (f (nI N).toNatClampNeg)) = _
    rw [sgp_eq N (by omega), nI_clamp (by omega)]
    funext j
    unfold upd sgf
    by_cases hj : j = N
    · rw [if_pos hj, if_pos (by omega), hj]
    · rw [if_neg hj]
      by_cases h2 : j < N
      · rw [if_pos h2, if_pos (by omega)]
      · rw [if_neg h2, if_neg (by omega)]
set_option maxRecDepth 100000 in
set_option maxHeartbeats 4000000 in
theorem kX2_signs (G : GG) (l : Launch) (w : WM) (ob va N : Nat) (so : Int32) (f : Nat → Int32) (hO : w ob = some (.inr (4, [.int so, .ref va]))) (hV : w va = some (.inl (gA G 0, N, .inl f))) (hN : N ≤ 40) : MC G l yX2_signs cX2_signs 3 ((Option.some (.object "GlkStreams$Items"))) ({ frames := 4, cells := 2, slots := 42, locals := 84 } : Room) [.ref ob] w (fun v w' => ∃ q qa : Nat, v = some (.ref q) ∧ w q = none ∧ w qa = none ∧ q ≠ qa ∧ w' q = some (.inr (4, [.int 2, .ref qa])) ∧ w' qa = some (.inl (gA G 0, N, .inl (sgf so f N))) ∧ ∀ b, b ≠ q → b ≠ qa → w' b = w b) := by
  refine mc_ref (by decide) (Nat.le_of_ble_eq_true rfl) rfl rfl (Or.inl ⟨_, rfl⟩) ?_
  intro p e s m args below meth c A H0 Q X hnm RTN
  have X : Cx G p s m args meth c A H0 cX2_signs 3 RX2 := X
  refine aw_new2 X okX2 cl_X2_10 is_X2 in_X2 rfl (Nat.le_of_ble_eq_true rfl) (Nat.le_of_ble_eq_true rfl) dX2_signs_0 (fun q101 w102 hf103 hk104 hn105 he106 => ?_)
  have hk107 := (hn105 _ (ne_fr hO hf103)).trans hO
  have hk108 := (hn105 _ (ne_fr hV hf103)).trans hV
  refine aw_dup X dX2_signs_3 rfl ?_
  refine aw_iconst X dX2_signs_4 ci_2 ?_
  refine aw_aload_n X dX2_signs_5 rfl rfl ?_
  refine aw_get X okX2 (k := 1) hk107 (Nat.le_of_ble_eq_true rfl) fl_X2_15 (Or.inl rfl) rfl dX2_signs_6 ?_
  refine aw_alen X 0 hk108 rfl (v := (nI N)) rfl dX2_signs_9 ?_
  refine aw_callI X (kX2_init _ _ _ q101 N _ hN hk104) okm_X2_init rfl ml_X2_27 im_X2_init rfl rfl (Nat.le_of_ble_eq_true rfl) ⟨Nat.le_of_ble_eq_true rfl, Nat.le_of_ble_eq_true rfl, Nat.le_of_ble_eq_true rfl, Nat.le_of_ble_eq_true rfl⟩ dX2_signs_10 (fun v w2 hp => ?_)
  obtain ⟨rfl, va109, hf110, hk111, hk112, hb113⟩ := hp
  have hk114 := (hb113 ob (ne_fr hO hf103) (ne_fr hk107 hf110)).trans hk107
  have hk115 := (hb113 va (ne_fr hV hf103) (ne_fr hk108 hf110)).trans hk108
  refine aw_astore_n (lv' := [(1, _), (0, _)]) X dX2_signs_13 rfl (by decide) rfl ?_
  refine aw_iconst X dX2_signs_14 ci_0 ?_
  refine aw_istore_n (lv' := [(2, _), (1, _), (0, _)]) X dX2_signs_15 rfl (by decide) rfl ?_
  have hqq : q101 ≠ va109 := ne_fr hk104 hf110
  have hqn : w va109 = none := by have h := hf110; rw [he106, wm_upn (Ne.symm hqq)] at h; exact h
  have hoq : ob ≠ q101 := ne_fr hO hf103
  have hvq : va ≠ va109 := ne_fr hV hqn
  have L : ∀ (nn : Nat) (i : Nat) (x : Int32) (W9 : WM), (x = nI i) → (i ≤ N) → (W9 ob = some (.inr (4, [.int so, .ref va]))) → (W9 va = some (.inl (gA G 0, N, .inl f))) → (W9 q101 = some (.inr (4, [.int 2, .ref va109]))) → (W9 va109 = some (.inl (gA G 0, N, .inl (sgp so f i)))) → (∀ b, b ≠ q101 → b ≠ va109 → W9 b = w b) → (N + 1 ≤ i + nn) → AW G p l e ({ frames := 4, cells := 2, slots := 42, locals := 84 } : Room) s m args below meth c 3 A H0 Q W9 2 42 16 [(2, .int x), (1, .ref q101), (0, .ref ob)] [] := by
    intro nn
    induction nn with
    | zero => intro i x W9 hx h1 hO9 hV9 hQ9 hA9 hb9 h2; exact absurd h2 (by omega)
    | succ nn ih =>
      intro i x W9 hx h1 hO9 hV9 hQ9 hA9 hb9 h2
      subst hx
      refine aw_iload_n X dX2_signs_16 rfl rfl ?_
      refine aw_aload_n X dX2_signs_17 rfl rfl ?_
      refine aw_get X okX2 (k := 1) hO9 (Nat.le_of_ble_eq_true rfl) fl_X2_15 (Or.inl rfl) rfl dX2_signs_18 ?_
      refine aw_alen X 0 hV9 rfl (v := (nI N)) rfl dX2_signs_21 ?_
      refine aw_icmp_ge (tgt := 42) X dX2_signs_22 rfl (fun c22 => ?_) (fun c22 => ?_)
      · have h9 : i = N := by have := (nI_leI (a := N) (b := i) (by omega) (by omega)).mp c22; omega
        refine aw_aload_n X dX2_signs_42 rfl rfl ?_
        refine RTN (some _) _ _ _ _ _ dX2_signs_43 (⟨some q101, rfl⟩) (Nat.le_of_ble_eq_true rfl) (Nat.le_of_ble_eq_true rfl) ?_
        exact ⟨q101, va109, rfl, hf103, hqn, hqq, hQ9, by rw [hA9, h9, sgp_eq N hN], hb9⟩
      · have h9 : i < N := Nat.lt_of_not_le (fun h => c22 ((nI_leI (a := N) (b := i) (by omega) (by omega)).mpr h))
        refine aw_aload_n X dX2_signs_25 rfl rfl ?_
        refine aw_get X okX2 (k := 1) hQ9 (Nat.le_of_ble_eq_true rfl) fl_X2_15 (Or.inl rfl) rfl dX2_signs_26 ?_
        refine aw_iload_n X dX2_signs_29 rfl rfl ?_
        refine aw_aload_n X dX2_signs_30 rfl rfl ?_
        refine aw_iload_n X dX2_signs_31 rfl rfl ?_
        refine aw_callV X (kX2_signAt _ _ _ ob _ _ _ _ hO9 hV9 _ (vp_in_nI h9 (by omega))) okm_X2_signAt okX2 hO9 ml_X2_30 im_X2_signAt se_X2_X2_signAt rfl rfl (Nat.le_of_ble_eq_true rfl) ⟨Nat.le_of_ble_eq_true rfl, Nat.le_of_ble_eq_true rfl, Nat.le_of_ble_eq_true rfl, Nat.le_of_ble_eq_true rfl⟩ dX2_signs_32 (fun v w2 hp => ?_)
        obtain ⟨rfl, hw9⟩ := hp
        have hw9 := hw9.symm
        subst hw9
        refine aw_iast2 X hA9 (vp_in_nI h9 (by omega)) dX2_signs_35 (fun w116 hk117 hn118 he119 => ?_)
        have hk120 := (hn118 _ (ne_oa hO9 hA9)).trans hO9
        have hk121 := (hn118 _ hvq).trans hV9
        have hk122 := (hn118 _ (ne_oa hQ9 hA9)).trans hQ9
        refine aw_iinc (lv' := [(2, _), (1, _), (0, _)]) X dX2_signs_36 rfl (iinc_1 _) (by decide) rfl ?_
        refine aw_goto (tgt := 16) X dX2_signs_39 rfl ?_
        refine aw_lv [0, 1, 2] rfl ?_
        exact ih (i + 1) _ w116 (nI_1 i) (by omega) hk120 hk121 hk122 hk117 (fun b h3 h4 => by rw [he119, wm_upn h4]; exact hb9 b h3 h4) (by omega)
  refine aw_lv [0, 1, 2] rfl ?_
  refine aw_widen 2 42 (Nat.le_refl _) (Nat.le_refl _) ?_
  exact L (N + 1) 0 _ _ rfl (by omega) hk114 hk115 hk111 (by rw [hk112]; rfl) (fun b h3 h4 => by rw [hb113 b h3 h4, he106, wm_upn h3]) (by omega)
def glg (M : MS) (n u j : Nat) : Nat → Int32 := fun x => if 40 * n ≤ x ∧ x < 40 * n + j then (if M.2.2 2 u = 1 then M.2.2 4 (40 * u + (x - 40 * n) - 40) &&& 255 else sgn (M.2.2 4 (40 * u + (x - 40 * n) - 40))) else M.2.2 24 x
theorem gl_eq {N : MS} {n u : Nat} (hn : n < 4) (hu : 1 ≤ u) (hu2 : u ≤ 24) : ∀ j, j ≤ 40 → mo_gl N (nI n) (nI u) j = sA N 24 (glg N n u j)
  | 0, _ => by
    have e : glg N n u 0 = N.2.2 24 := by
      funext x
      unfold glg
      rw [if_neg (by omega)]
    rw [e]
    exact sA_self.symm
  | j + 1, h => by
    show sF (mo_gl N (nI n) (nI u) j) 24 ((40 * nI n) + nI j).toNatClampNeg (if (mo_gl N (nI n) (nI u) j).2.2 2 (nI u).toNatClampNeg = 1 then (mo_gl N (nI n) (nI u) j).2.2 4 (((40 * nI u) + nI j) - 40).toNatClampNeg &&& 255 else sgn ((mo_gl N (nI n) (nI u) j).2.2 4 (((40 * nI u) + nI j) - 40).toNatClampNeg)) = _
    have i2 : (((40 * nI u) + nI j) - 40).toNatClampNeg = 40 * u + j - 40 := by
      rw [ix_40 ((bt_nI (by omega)).mpr ⟨by omega, by omega⟩) ((bt_nI (by omega)).mpr ⟨by omega, by omega⟩), nI_clamp (by omega), nI_clamp (by omega)]
    rw [gl_eq hn hu hu2 j (by omega), ix_k (by omega) (by omega), i2, nI_clamp (show u < 2 ^ 31 by omega)]
    refine Prod.ext rfl (Prod.ext rfl (funext fun t => ?_))
    show va_up (va_up N.2.2 24 (glg N n u j)) 24 (upd (glg N n u j) (40 * n + j) (if N.2.2 2 u = 1 then N.2.2 4 (40 * u + j - 40) &&& 255 else sgn (N.2.2 4 (40 * u + j - 40)))) t = va_up N.2.2 24 (glg N n u (j + 1)) t
    unfold va_up
    by_cases ht : t = 24
    · rw [if_pos ht, if_pos ht]
      funext x
      unfold upd glg
      by_cases hx : x = 40 * n + j
      · rw [if_pos hx, if_pos (show 40 * n ≤ x ∧ x < 40 * n + (j + 1) by omega), hx, show 40 * n + j - 40 * n = j by omega]
      · rw [if_neg hx]
        by_cases hy : 40 * n ≤ x ∧ x < 40 * n + j
        · rw [if_pos hy, if_pos (show 40 * n ≤ x ∧ x < 40 * n + (j + 1) by omega)]
        · rw [if_neg hy, if_neg (show ¬ (40 * n ≤ x ∧ x < 40 * n + (j + 1)) by omega)]
    · rw [if_neg ht, if_neg ht, if_neg ht]
theorem sAd_c2 {M M' : MS} {ad ad' : AD} {t : Int32} (h : M'.2.2 6 = M.2.2 6) (h2 : ad' 13 = ad 13) : sAd M' ad' t = sAd M ad t := by unfold sAd mo_pl; rw [h, h2]
theorem cS_c2 {M M' : MS} {ad ad' : AD} (h : M'.2.2 6 = M.2.2 6) (h2 : ad' 13 = ad 13) : cS M' ad' = cS M ad := by unfold cS; rw [h, h2]
theorem cGiv_o {M M' : MS} {n u i k : Nat} {len : Int32} (hgv : mi_given M) (f23 : M'.2.2 23 = upd (M.2.2 23) n len) (f24 : M'.2.2 24 = glg M n u k) (hin : i ≠ n) (hi : i < 4) (hk : k ≤ 40 := by omega) : cGiv M' i = cGiv M i := by
  funext j
  unfold cGiv
  rw [f23, f24, upd_n hin]
  split
  · rename_i hj
    have b := bt_iff.mp (hgv i hi)
    have c : (M.2.2 23 i).toNatClampNeg = (M.2.2 23 i).toInt.toNat := rfl
    unfold glg
    rw [if_neg (by omega)]
  · rfl
theorem rl_gv {G : GG} {M : MS} {ad : AD} {gi : GI} {w w' : WM} {n u q qa : Nat} {len : Int32} (hL : RLa G M ad gi w) (hgv : mi_given M) (hn : n < 4) (hu : usd M u) (hlen : len = M.2.2 3 u) (hl0 : bt len 0 40) (hso : M.2.2 2 u = 1 ∨ M.2.2 2 u = 2) (hq : w q = none) (hqa : w qa = none) (hqq : q ≠ qa) (h1 : w' (ad 2 0) = some (rA (gA G 4) 4 (va_up (cG M ad) n (some q)))) (h2 : w' q = some (.inr (4, [.int 2, .ref qa]))) (h3 : w' qa = some (.inl (gA G 0, (M.2.2 3 u).toNatClampNeg, .inl (sgf (M.2.2 2 u) (cArr M u) (M.2.2 3 u).toNatClampNeg)))) (h4 : ∀ b, b ≠ ad 2 0 → b ≠ q → b ≠ qa → w' b = w b) : RLa G (sA (sF (sI M 0 0) 23 n len) 24 (glg M n u len.toNatClampNeg)) (adu (adu ad 20 n q) 21 n qa) gi w' := by
  have bl := bt_iff.mp hl0
  have cl := cl_toInt (x := len) bl.1
  have f23 : (sA (sF (sI M 0 0) 23 n len) 24 (glg M n u len.toNatClampNeg)).2.2 23 = upd (M.2.2 23) n len := rfl
  have f24 : (sA (sF (sI M 0 0) 23 n len) 24 (glg M n u len.toNatClampNeg)).2.2 24 = glg M n u len.toNatClampNeg := rfl
  generalize hM' : sA (sF (sI M 0 0) 23 n len) 24 (glg M n u len.toNatClampNeg) = M' at *
  have m1 : M'.2.2 1 = M.2.2 1 := hM' ▸ (rfl : (sA (sF (sI M 0 0) 23 n len) 24 (glg M n u len.toNatClampNeg)).2.2 1 = M.2.2 1)
  have m2 : M'.2.2 2 = M.2.2 2 := hM' ▸ (rfl : (sA (sF (sI M 0 0) 23 n len) 24 (glg M n u len.toNatClampNeg)).2.2 2 = M.2.2 2)
  have m3 : M'.2.2 3 = M.2.2 3 := hM' ▸ (rfl : (sA (sF (sI M 0 0) 23 n len) 24 (glg M n u len.toNatClampNeg)).2.2 3 = M.2.2 3)
  have m4 : M'.2.2 4 = M.2.2 4 := hM' ▸ (rfl : (sA (sF (sI M 0 0) 23 n len) 24 (glg M n u len.toNatClampNeg)).2.2 4 = M.2.2 4)
  have m6 : M'.2.2 6 = M.2.2 6 := hM' ▸ (rfl : (sA (sF (sI M 0 0) 23 n len) 24 (glg M n u len.toNatClampNeg)).2.2 6 = M.2.2 6)
  have m8 : M'.2.2 8 = M.2.2 8 := hM' ▸ (rfl : (sA (sF (sI M 0 0) 23 n len) 24 (glg M n u len.toNatClampNeg)).2.2 8 = M.2.2 8)
  have m9 : M'.2.2 9 = M.2.2 9 := hM' ▸ (rfl : (sA (sF (sI M 0 0) 23 n len) 24 (glg M n u len.toNatClampNeg)).2.2 9 = M.2.2 9)
  have m10 : M'.2.2 10 = M.2.2 10 := hM' ▸ (rfl : (sA (sF (sI M 0 0) 23 n len) 24 (glg M n u len.toNatClampNeg)).2.2 10 = M.2.2 10)
  have m11 : M'.2.2 11 = M.2.2 11 := hM' ▸ (rfl : (sA (sF (sI M 0 0) 23 n len) 24 (glg M n u len.toNatClampNeg)).2.2 11 = M.2.2 11)
  have m12 : M'.2.2 12 = M.2.2 12 := hM' ▸ (rfl : (sA (sF (sI M 0 0) 23 n len) 24 (glg M n u len.toNatClampNeg)).2.2 12 = M.2.2 12)
  have m13 : M'.2.2 13 = M.2.2 13 := hM' ▸ (rfl : (sA (sF (sI M 0 0) 23 n len) 24 (glg M n u len.toNatClampNeg)).2.2 13 = M.2.2 13)
  have m14 : M'.2.2 14 = M.2.2 14 := hM' ▸ (rfl : (sA (sF (sI M 0 0) 23 n len) 24 (glg M n u len.toNatClampNeg)).2.2 14 = M.2.2 14)
  have m15 : M'.2.2 15 = M.2.2 15 := hM' ▸ (rfl : (sA (sF (sI M 0 0) 23 n len) 24 (glg M n u len.toNatClampNeg)).2.2 15 = M.2.2 15)
  have m16 : M'.2.2 16 = M.2.2 16 := hM' ▸ (rfl : (sA (sF (sI M 0 0) 23 n len) 24 (glg M n u len.toNatClampNeg)).2.2 16 = M.2.2 16)
  have m17 : M'.2.2 17 = M.2.2 17 := hM' ▸ (rfl : (sA (sF (sI M 0 0) 23 n len) 24 (glg M n u len.toNatClampNeg)).2.2 17 = M.2.2 17)
  have m18 : M'.2.2 18 = M.2.2 18 := hM' ▸ (rfl : (sA (sF (sI M 0 0) 23 n len) 24 (glg M n u len.toNatClampNeg)).2.2 18 = M.2.2 18)
  have m19 : M'.2.2 19 = M.2.2 19 := hM' ▸ (rfl : (sA (sF (sI M 0 0) 23 n len) 24 (glg M n u len.toNatClampNeg)).2.2 19 = M.2.2 19)
  have m25 : M'.2.2 25 = M.2.2 25 := hM' ▸ (rfl : (sA (sF (sI M 0 0) 23 n len) 24 (glg M n u len.toNatClampNeg)).2.2 25 = M.2.2 25)
  have m30 : M'.2.2 30 = M.2.2 30 := hM' ▸ (rfl : (sA (sF (sI M 0 0) 23 n len) 24 (glg M n u len.toNatClampNeg)).2.2 30 = M.2.2 30)
  have m31 : M'.2.2 31 = M.2.2 31 := hM' ▸ (rfl : (sA (sF (sI M 0 0) 23 n len) 24 (glg M n u len.toNatClampNeg)).2.2 31 = M.2.2 31)
  have m32 : M'.2.2 32 = M.2.2 32 := hM' ▸ (rfl : (sA (sF (sI M 0 0) 23 n len) 24 (glg M n u len.toNatClampNeg)).2.2 32 = M.2.2 32)
  have m33 : M'.2.2 33 = M.2.2 33 := hM' ▸ (rfl : (sA (sF (sI M 0 0) 23 n len) 24 (glg M n u len.toNatClampNeg)).2.2 33 = M.2.2 33)
  have m34 : M'.2.2 34 = M.2.2 34 := hM' ▸ (rfl : (sA (sF (sI M 0 0) 23 n len) 24 (glg M n u len.toNatClampNeg)).2.2 34 = M.2.2 34)
  have m35 : M'.2.2 35 = M.2.2 35 := hM' ▸ (rfl : (sA (sF (sI M 0 0) 23 n len) 24 (glg M n u len.toNatClampNeg)).2.2 35 = M.2.2 35)
  have m36 : M'.2.2 36 = M.2.2 36 := hM' ▸ (rfl : (sA (sF (sI M 0 0) 23 n len) 24 (glg M n u len.toNatClampNeg)).2.2 36 = M.2.2 36)
  have m37 : M'.2.2 37 = M.2.2 37 := hM' ▸ (rfl : (sA (sF (sI M 0 0) 23 n len) 24 (glg M n u len.toNatClampNeg)).2.2 37 = M.2.2 37)
  have m42 : M'.2.2 42 = M.2.2 42 := hM' ▸ (rfl : (sA (sF (sI M 0 0) 23 n len) 24 (glg M n u len.toNatClampNeg)).2.2 42 = M.2.2 42)
  have m43 : M'.2.2 43 = M.2.2 43 := hM' ▸ (rfl : (sA (sF (sI M 0 0) 23 n len) 24 (glg M n u len.toNatClampNeg)).2.2 43 = M.2.2 43)
  have i5 : M'.1 5 = M.1 5 := hM' ▸ (rfl : (sA (sF (sI M 0 0) 23 n len) 24 (glg M n u len.toNatClampNeg)).1 5 = M.1 5)
  have i7 : M'.1 7 = M.1 7 := hM' ▸ (rfl : (sA (sF (sI M 0 0) 23 n len) 24 (glg M n u len.toNatClampNeg)).1 7 = M.1 7)
  have i20 : M'.1 20 = M.1 20 := hM' ▸ (rfl : (sA (sF (sI M 0 0) 23 n len) 24 (glg M n u len.toNatClampNeg)).1 20 = M.1 20)
  have i26 : M'.1 26 = M.1 26 := hM' ▸ (rfl : (sA (sF (sI M 0 0) 23 n len) 24 (glg M n u len.toNatClampNeg)).1 26 = M.1 26)
  have i27 : M'.1 27 = M.1 27 := hM' ▸ (rfl : (sA (sF (sI M 0 0) 23 n len) 24 (glg M n u len.toNatClampNeg)).1 27 = M.1 27)
  have i28 : M'.1 28 = M.1 28 := hM' ▸ (rfl : (sA (sF (sI M 0 0) 23 n len) 24 (glg M n u len.toNatClampNeg)).1 28 = M.1 28)
  have i29 : M'.1 29 = M.1 29 := hM' ▸ (rfl : (sA (sF (sI M 0 0) 23 n len) 24 (glg M n u len.toNatClampNeg)).1 29 = M.1 29)
  have i38 : M'.1 38 = M.1 38 := hM' ▸ (rfl : (sA (sF (sI M 0 0) 23 n len) 24 (glg M n u len.toNatClampNeg)).1 38 = M.1 38)
  have i39 : M'.1 39 = M.1 39 := hM' ▸ (rfl : (sA (sF (sI M 0 0) 23 n len) 24 (glg M n u len.toNatClampNeg)).1 39 = M.1 39)
  have i40 : M'.1 40 = M.1 40 := hM' ▸ (rfl : (sA (sF (sI M 0 0) 23 n len) 24 (glg M n u len.toNatClampNeg)).1 40 = M.1 40)
  have i41 : M'.1 41 = M.1 41 := hM' ▸ (rfl : (sA (sF (sI M 0 0) 23 n len) 24 (glg M n u len.toNatClampNeg)).1 41 = M.1 41)
  have i44 : M'.1 44 = M.1 44 := hM' ▸ (rfl : (sA (sF (sI M 0 0) 23 n len) 24 (glg M n u len.toNatClampNeg)).1 44 = M.1 44)
  have i45 : M'.1 45 = M.1 45 := hM' ▸ (rfl : (sA (sF (sI M 0 0) 23 n len) 24 (glg M n u len.toNatClampNeg)).1 45 = M.1 45)
  have l0 : M'.2.1 = M.2.1 := hM' ▸ (rfl : (sA (sF (sI M 0 0) 23 n len) 24 (glg M n u len.toNatClampNeg)).2.1 = M.2.1)
  generalize hA' : adu (adu ad 20 n q) 21 n qa = ad' at *
  have d0 : ad' 0 = ad 0 := hA' ▸ (rfl : (adu (adu ad 20 n q) 21 n qa) 0 = ad 0)
  have d1 : ad' 1 = ad 1 := hA' ▸ (rfl : (adu (adu ad 20 n q) 21 n qa) 1 = ad 1)
  have d2 : ad' 2 = ad 2 := hA' ▸ (rfl : (adu (adu ad 20 n q) 21 n qa) 2 = ad 2)
  have d3 : ad' 3 = ad 3 := hA' ▸ (rfl : (adu (adu ad 20 n q) 21 n qa) 3 = ad 3)
  have d4 : ad' 4 = ad 4 := hA' ▸ (rfl : (adu (adu ad 20 n q) 21 n qa) 4 = ad 4)
  have d5 : ad' 5 = ad 5 := hA' ▸ (rfl : (adu (adu ad 20 n q) 21 n qa) 5 = ad 5)
  have d6 : ad' 6 = ad 6 := hA' ▸ (rfl : (adu (adu ad 20 n q) 21 n qa) 6 = ad 6)
  have d7 : ad' 7 = ad 7 := hA' ▸ (rfl : (adu (adu ad 20 n q) 21 n qa) 7 = ad 7)
  have d8 : ad' 8 = ad 8 := hA' ▸ (rfl : (adu (adu ad 20 n q) 21 n qa) 8 = ad 8)
  have d9 : ad' 9 = ad 9 := hA' ▸ (rfl : (adu (adu ad 20 n q) 21 n qa) 9 = ad 9)
  have d10 : ad' 10 = ad 10 := hA' ▸ (rfl : (adu (adu ad 20 n q) 21 n qa) 10 = ad 10)
  have d11 : ad' 11 = ad 11 := hA' ▸ (rfl : (adu (adu ad 20 n q) 21 n qa) 11 = ad 11)
  have d12 : ad' 12 = ad 12 := hA' ▸ (rfl : (adu (adu ad 20 n q) 21 n qa) 12 = ad 12)
  have d13 : ad' 13 = ad 13 := hA' ▸ (rfl : (adu (adu ad 20 n q) 21 n qa) 13 = ad 13)
  have d14 : ad' 14 = ad 14 := hA' ▸ (rfl : (adu (adu ad 20 n q) 21 n qa) 14 = ad 14)
  have d15 : ad' 15 = ad 15 := hA' ▸ (rfl : (adu (adu ad 20 n q) 21 n qa) 15 = ad 15)
  have d16 : ad' 16 = ad 16 := hA' ▸ (rfl : (adu (adu ad 20 n q) 21 n qa) 16 = ad 16)
  have d17 : ad' 17 = ad 17 := hA' ▸ (rfl : (adu (adu ad 20 n q) 21 n qa) 17 = ad 17)
  have d18 : ad' 18 = ad 18 := hA' ▸ (rfl : (adu (adu ad 20 n q) 21 n qa) 18 = ad 18)
  have d19 : ad' 19 = ad 19 := hA' ▸ (rfl : (adu (adu ad 20 n q) 21 n qa) 19 = ad 19)
  have d22 : ad' 22 = ad 22 := hA' ▸ (rfl : (adu (adu ad 20 n q) 21 n qa) 22 = ad 22)
  have d23 : ad' 23 = ad 23 := hA' ▸ (rfl : (adu (adu ad 20 n q) 21 n qa) 23 = ad 23)
  have a20s : ad' 20 n = q := by rw [← hA']; exact (adu_s : adu ad 20 n q 20 n = q)
  have a21s : ad' 21 n = qa := by rw [← hA']; exact adu_s
  have a20 : ∀ i, i ≠ n → ad' 20 i = ad 20 i := fun i hi => by rw [← hA']; exact (adu_n hi : adu ad 20 n q 20 i = ad 20 i)
  have a21 : ∀ i, i ≠ n → ad' 21 i = ad 21 i := fun i hi => by rw [← hA']; exact (adu_n hi : adu (adu ad 20 n q) 21 n qa 21 i = (adu ad 20 n q) 21 i)
  refine rl_addP hL (fun t i => i = n ∧ (t = 20 ∨ t = 21)) (fun _ _ => False) (fun t i => i = 0 ∧ t = 2) ?_ ?_ (fun _ _ h => h.elim) (fun t i hl hn0 hn1 => by
    match t, hl, hn0, hn1 with
    | 0, hl, hn0, hn1 => (have h := (show _ ∧ i = 0 from hl).2; subst h; exact ⟨lvf 0 (by decide), congrFun d0 _⟩)
    | 1, hl, hn0, hn1 => (have h := (show _ ∧ i = 0 from hl).2; subst h; exact ⟨lvf 1 (by decide), congrFun d1 _⟩)
    | 2, hl, hn0, hn1 => (have h := (show _ ∧ i = 0 from hl).2; subst h; exact ⟨lvf 2 (by decide), congrFun d2 _⟩)
    | 3, hl, hn0, hn1 => (have h := (show _ ∧ i = 0 from hl).2; subst h; exact ⟨lvf 3 (by decide), congrFun d3 _⟩)
    | 4, hl, hn0, hn1 => (have h := (show _ ∧ i = 0 from hl).2; subst h; exact ⟨lvf 4 (by decide), congrFun d4 _⟩)
    | 5, hl, hn0, hn1 => (have h := (show _ ∧ i = 0 from hl).2; subst h; exact ⟨lvf 5 (by decide), congrFun d5 _⟩)
    | 6, hl, hn0, hn1 => (have h := (show _ ∧ i = 0 from hl).2; subst h; exact ⟨lvf 6 (by decide), congrFun d6 _⟩)
    | 7, hl, hn0, hn1 => (have h := (show _ ∧ i = 0 from hl).2; subst h; exact ⟨lvf 7 (by decide), congrFun d7 _⟩)
    | 8, hl, hn0, hn1 => (have h := (show _ ∧ i = 0 from hl).2; subst h; exact ⟨lvf 8 (by decide), congrFun d8 _⟩)
    | 9, hl, hn0, hn1 => (have h := (show _ ∧ i = 0 from hl).2; subst h; exact ⟨lvf 9 (by decide), congrFun d9 _⟩)
    | 10, hl, hn0, hn1 => (have h := (show _ ∧ i = 0 from hl).2; subst h; exact ⟨lvf 10 (by decide), congrFun d10 _⟩)
    | 11, hl, hn0, hn1 => exact ⟨(by have h : usd M' i := hl; unfold usd uA uF at h; rw [m1, m6, m8, m15] at h; exact h), congrFun d11 _⟩
    | 12, hl, hn0, hn1 => exact ⟨(by have h : usd M' i := hl; unfold usd uA uF at h; rw [m1, m6, m8, m15] at h; exact h), congrFun d12 _⟩
    | 13, hl, hn0, hn1 => exact ⟨(by have h : opn M' i := hl; unfold opn at h; rw [m6] at h; exact h), congrFun d13 _⟩
    | 14, hl, hn0, hn1 => exact ⟨(by have h : opn M' i ∧ M'.2.2 8 i = 0 := hl; unfold opn at h; rw [m6, m8] at h; exact h), congrFun d14 _⟩
    | 15, hl, hn0, hn1 => exact ⟨(by have h : isr M' i ∧ M'.2.2 34 i = nI i := hl; unfold isr at h; rw [i29, m34] at h; exact h), congrFun d15 _⟩
    | 16, hl, hn0, hn1 => exact ⟨(by have h : isr M' i ∧ M'.2.2 34 i = nI i := hl; unfold isr at h; rw [i29, m34] at h; exact h), congrFun d16 _⟩
    | 17, hl, hn0, hn1 => exact ⟨(by have h : isr M' i := hl; unfold isr at h; rw [i29] at h; exact h), congrFun d17 _⟩
    | 18, hl, hn0, hn1 => exact ⟨(by have h : isr M' i ∧ M'.2.2 33 i = 0 := hl; unfold isr at h; rw [i29, m33] at h; exact h), congrFun d18 _⟩
    | 19, hl, hn0, hn1 => exact ⟨(by have h : isr M' i ∧ M'.2.2 33 i = 0 := hl; unfold isr at h; rw [i29, m33] at h; exact h), congrFun d19 _⟩
    | 20, hl, hn0, hn1 => (by_cases hin : i = n; exact absurd ⟨hin, Or.inl rfl⟩ hn0; exact ⟨(by have h : i < 4 ∧ 0 ≤ M'.2.2 23 i := hl; rw [f23, upd_n hin] at h; exact h), a20 i hin⟩)
    | 21, hl, hn0, hn1 => (by_cases hin : i = n; exact absurd ⟨hin, Or.inr rfl⟩ hn0; exact ⟨(by have h : i < 4 ∧ 0 ≤ M'.2.2 23 i := hl; rw [f23, upd_n hin] at h; exact h), a21 i hin⟩)
    | 22, hl, hn0, hn1 => exact ⟨(by have h : opn M' i ∧ M'.2.2 8 i = 3 := hl; unfold opn at h; rw [m6, m8] at h; exact h), congrFun d22 _⟩
    | 23, hl, hn0, hn1 => exact ⟨(by have h : opn M' i ∧ M'.2.2 8 i = 3 := hl; unfold opn at h; rw [m6, m8] at h; exact h), congrFun d23 _⟩
    | n + 24, hl, hn0, hn1 => exact absurd (show n + 24 ≤ 10 ∧ i = 0 from hl).1 (by omega)) ?_ ?_ (fun t i hl hn0 hn1 hn2 => by
    match t, hl, hn0, hn1, hn2 with
    | 0, hl, hn0, hn1, hn2 => (refine cc_0 ?_; rw [d1, d2, d3, d4, d5, d6, sAd_c2 m6 d13, i20, i7, i29, i38, l0, i5])
    | 1, hl, hn0, hn1, hn2 => (refine cc_1 ?_; rw [cR_c m1 d11])
    | 2, hl, hn0, hn1, hn2 => exact absurd ⟨(show _ ∧ i = 0 from hl).2, rfl⟩ hn2
    | 3, hl, hn0, hn1, hn2 => (refine cc_3 ?_; rw [cS_c2 m6 d13])
    | 4, hl, hn0, hn1, hn2 => (refine cc_4 ?_; rw [cF_c i29 d17])
    | 5, hl, hn0, hn1, hn2 => (refine cc_5 ?_; rw [d9, i27, i28])
    | 6, hl, hn0, hn1, hn2 => (refine cc_6 ?_; rw [i39, i40, i44, i45, d7, d8])
    | 7, hl, hn0, hn1, hn2 => (refine cc_7 ?_; rw [m42])
    | 8, hl, hn0, hn1, hn2 => (refine cc_8 ?_; rw [m43])
    | 9, hl, hn0, hn1, hn2 => (refine cc_9 ?_; rw [d10, i26])
    | 10, hl, hn0, hn1, hn2 => (refine cc_10 ?_; rfl)
    | 11, hl, hn0, hn1, hn2 => (refine cc_11 ?_; rw [m2, d12])
    | 12, hl, hn0, hn1, hn2 => (refine cc_12 ?_; rw [m3, cArr_c m2 m3 m4])
    | 13, hl, hn0, hn1, hn2 => (refine cc_13 ?_; rw [cSI_c (M := M) (M' := M') (gi := gi) (gi' := gi) (k := i) (by rw [m8]) (by rw [m10]) (by rw [m9]) (by rw [m6]) (by rw [m11]) (by rw [m13]) (by rw [m14]) (by rw [m12]) (by rw [m19]) rfl, sAd_c2 m6 d13, m17, cX_c (M := M) (M' := M') (ad := ad) (ad' := ad') (k := i) (by rw [m8]) (congrFun d14 _) (fun _ => by unfold rIA; rw [m15, d11]) (by rw [m16]) (congrFun d15 _) (congrFun d22 _)])
    | 14, hl, hn0, hn1, hn2 => (refine cc_14 ?_; rfl)
    | 15, hl, hn0, hn1, hn2 => (refine cc_15 ?_; rw [d16, m36, m35])
    | 16, hl, hn0, hn1, hn2 => (refine cc_16 ?_; rfl)
    | 17, hl, hn0, hn1, hn2 => (refine cc_17 ?_; rw [m30, m33, m34, d18, d15])
    | 18, hl, hn0, hn1, hn2 => (refine cc_18 ?_; rw [d19])
    | 19, hl, hn0, hn1, hn2 => (refine cc_19 ?_; rw [m32])
    | 20, hl, hn0, hn1, hn2 => (by_cases hin : i = n; exact absurd ⟨hin, Or.inl rfl⟩ hn0; refine cc_20 ?_; rw [a21 i hin])
    | 21, hl, hn0, hn1, hn2 => (by_cases hin : i = n; exact absurd ⟨hin, Or.inr rfl⟩ hn0; have hi4 := (show i < 4 ∧ _ from hl).1; refine cc_21 ?_; rw [f23, upd_n hin, cGiv_o hgv f23 f24 hin hi4])
    | 22, hl, hn0, hn1, hn2 => (refine cc_22 ?_; rw [d23])
    | 23, hl, hn0, hn1, hn2 => (refine cc_23 ?_; rw [m12])
    | n + 24, hl, hn0, hn1, hn2 => exact absurd (show n + 24 ≤ 10 ∧ i = 0 from hl).1 (by omega)) ?_ (fun _ _ h => h.elim) ?_ ⟨by unfold sd_p opn; rw [m6, m8, m19, m18]; exact hL.2.2.1, by unfold sd_f; rw [m37]; exact hL.2.2.2.1, by unfold sd_t; rw [i39, i40, i41]; exact hL.2.2.2.2.1, by unfold sd_n; rw [i26, m25]; exact hL.2.2.2.2.2.1, by unfold sd_s isr; rw [i29, m33, m32, m31]; exact hL.2.2.2.2.2.2.1, by unfold sd_r opn; rw [m6, m8, m12, m18, m9]; exact hL.2.2.2.2.2.2.2⟩
  · rintro t i ⟨rfl, rfl | rfl⟩
    · rw [a20s]; exact fr_ad hL hq
    · rw [a21s]; exact fr_ad hL hqa
  · rintro t i t' i' ⟨rfl, h⟩ ⟨rfl, h'⟩ he
    refine ⟨?_, rfl⟩
    rcases h with rfl | rfl <;> rcases h' with rfl | rfl
    · rfl
    · rw [a20s, a21s] at he; exact absurd he hqq
    · rw [a20s, a21s] at he; exact absurd he.symm hqq
    · rfl
  · rintro t i ⟨rfl, rfl⟩
    exact ⟨lvf 2 (by decide), rfl⟩
  · intro b hN hl
    have b1 := hN 20 n ⟨rfl, Or.inl rfl⟩
    have b2 := hN 21 n ⟨rfl, Or.inr rfl⟩
    rw [a20s] at b1
    rw [a21s] at b2
    exact h4 b (hl 2 0 ⟨rfl, rfl⟩) b1 b2
  · rintro t i ⟨rfl, rfl | rfl⟩ _
    · show w' (ad' 20 i) = some (.inr (4, [.int 2, .ref (ad' 21 i)]))
      rw [a20s, a21s]; exact h2
    · show w' (ad' 21 i) = some (.inl (gA G 0, (M'.2.2 23 i).toNatClampNeg, .inl (cGiv M' i)))
      have e : cGiv M' i = sgf (M.2.2 2 u) (cArr M u) (M.2.2 3 u).toNatClampNeg := by
        funext j
        unfold cGiv sgf
        rw [f23, f24, upd_s, hlen]
        by_cases hj : j < (M.2.2 3 u).toNatClampNeg
        · rw [if_pos hj, if_pos hj]
          unfold glg
          rw [hlen] at cl bl
          rw [if_pos (by omega), show 40 * i + j - 40 * i = j by omega]
          have ec : cArr M u j = M.2.2 4 (40 * u + j - 40) := (if_pos hj).trans (dec_num hso)
          rw [ec]
          unfold it_sign
          rw [sgn_cl]
        · rw [if_neg hj, if_neg hj]
      rw [a21s, e, f23, upd_s, hlen]
      exact h3
  · rintro t i ⟨rfl, rfl⟩ _ _ _
    show w' (ad 2 0) = some (rA (gA G 4) 4 (cG M' ad'))
    have e : cG M' ad' = va_up (cG M ad) n (some q) := by
      funext j
      unfold cG va_up
      rw [f23]
      by_cases hj : j = n
      · rw [if_pos hj, hj, upd_s, if_pos ⟨hn, by rw [i32_le]; exact bl.1⟩, a20s]
      · rw [if_neg hj, upd_n hj, a20 j hj]
    rw [e]
    exact h1
/-- sorts of arrays -/
def mi_so (M : MS) : Prop := ∀ u, usd M u → bt (M.2.2 2 u) 1 4 = true
theorem so_1 {x : Int32} (h : it_of x 1 = true) : x = 1 ∨ x = 2 := (of_ag.mp h).elim Or.inl (fun z => absurd z.1 (by decide))
theorem so_2 {x : Int32} (h : it_of x 2 = true) : x = 1 ∨ x = 2 := (of_ag.mp h).elim Or.inr (fun z => absurd z.1 (by decide))
theorem so_gt {x : Int32} (hb : bt x 1 4) (h1 : ¬ it_of x 1 = true) (h2 : ¬ it_of x 2 = true) : ¬ x ≤ 2 := by
  intro z
  have b := bt_iff.mp hb
  rw [i32_le] at z
  have e2 : (2 : Int32).toInt = 2 := rfl
  rcases bt_12 (bt_iff.mpr ⟨b.1, by omega⟩) with h | h
  · exact h1 (of_ag.mpr (Or.inl h))
  · exact h2 (of_ag.mpr (Or.inl h))
set_option maxRecDepth 100000 in
set_option maxHeartbeats 4000000 in
theorem kX10_give (G : GG) (l : Launch) (M : MS) (ad : AD) (gi : GI) (w : WM) (hL : RLa G M ad gi w) (hR : mi_row M) (hS : mi_size M) (hgv : mi_given M) (hSo : mi_so M) (n1 r : Int32) : MC G l yX10_give cX10_give 4 ((Option.some .int)) ({ frames := 5, cells := 2, slots := 42, locals := 106 } : Room) [.ref (ad 0 0), .int n1, .int r] w (fun v w' => v = some (.int (mo_give M n1 r).1) ∧ ∃ ad' gi', RLa G (mo_give M n1 r).2 ad' gi' w' ∧ ad' 0 0 = ad 0 0) := by
  refine mc_int (by decide) (Nat.le_of_ble_eq_true rfl) rfl rfl ?_
  intro p e s m args below meth c A H0 Q X hnm RTN
  have X : Cx G p s m args meth c A H0 cX10_give 4 RX10 := X
  have k0_ : w (ad 0 0) = some (.inr (11, [.ref (ad 1 0), .ref (ad 2 0), .ref (ad 3 0), .ref (ad 4 0), .ref (ad 5 0), .ref (ad 6 0), va_rf (sAd M ad (M.1 20)), .int (M.1 7), .int (M.1 29), .int (M.1 38), .int ((M.2.1 21).toInt32), .int ((M.2.1 22).toInt32), .int (M.1 5)])) := hL.1 0 0 (lvf 0 (by decide))
  have k1_ : w (ad 1 0) = some (rA (gA G 4) 8 (cR M ad)) := hL.1 1 0 (lvf 1 (by decide))
  have k2_ : w (ad 2 0) = some (rA (gA G 4) 4 (cG M ad)) := hL.1 2 0 (lvf 2 (by decide))
  refine aw_iload_n X dX10_give_0 rfl rfl ?_
  refine aw_callS X (kX10_isResource _ _ _ _) okm_X10_isResource ml_X10_157 st_X10_isResource rfl rfl (Nat.le_of_ble_eq_true rfl) ⟨Nat.le_of_ble_eq_true rfl, Nat.le_of_ble_eq_true rfl, Nat.le_of_ble_eq_true rfl, Nat.le_of_ble_eq_true rfl⟩ dX10_give_1 (fun v w2 hp => ?_)
  obtain ⟨rfl, hw9⟩ := hp
  have hw9 := hw9.symm
  subst hw9
  refine aw_if_eq (tgt := 14) X dX10_give_4 rfl (fun c4 => ?_) (fun c4 => ?_)
  · rw [bI_0] at c4
    refine aw_bipush X dX10_give_14 cb_m2 ?_
    refine RTN (some (.int _)) _ _ _ _ _ dX10_give_16 (⟨_, rfl⟩) (Nat.le_of_ble_eq_true rfl) (Nat.le_of_ble_eq_true rfl) ?_
    have hm : mo_give M n1 r = (-2, sI M 0 0) := by simp only [mo_give, c4, if_true, if_false, not_true_eq_false, not_false_eq_true, and_self, true_and, and_true, false_and, and_false, or_true, true_or, or_false, false_or, reduceCtorEq, ne_eq, va_us, pk_us]
    rw [hm]
    exact ⟨rfl, ad, gi, rl_0 hL, rfl⟩
  · rw [bI_n0] at c4
    refine aw_iload_n X dX10_give_7 rfl rfl ?_
    refine aw_callS X (kX10_isRow _ _ _ _) okm_X10_isRow ml_X10_46 st_X10_isRow rfl rfl (Nat.le_of_ble_eq_true rfl) ⟨Nat.le_of_ble_eq_true rfl, Nat.le_of_ble_eq_true rfl, Nat.le_of_ble_eq_true rfl, Nat.le_of_ble_eq_true rfl⟩ dX10_give_8 (fun v w2 hp => ?_)
    obtain ⟨rfl, hw9⟩ := hp
    have hw9 := hw9.symm
    subst hw9
    refine aw_if_ne (tgt := 17) X dX10_give_11 rfl (fun c11 => ?_) (fun c11 => ?_)
    · rw [bI_n0] at c11
      refine aw_aload_n X dX10_give_17 rfl rfl ?_
      refine aw_get X okX10 (k := 0) k0_ (Nat.le_of_ble_eq_true rfl) fl_X10_13 (Or.inl rfl) rfl dX10_give_18 ?_
      refine aw_iload_n X dX10_give_21 rfl rfl ?_
      refine aw_aald X 4 k1_ rfl (bt_vp c11 (by decide) (by decide)) dX10_give_22 ?_
      rcases hr123 : (cR M ad) r.toNatClampNeg with _ | a124
      · refine aw_astore_nN (lv' := [(3, _), (0, _), (1, _), (2, _)]) X dX10_give_23 rfl (by decide) rfl ?_
        refine aw_aload_nN X dX10_give_24 rfl rfl ?_
        refine aw_ifnonnullN X dX10_give_25 ?_
        refine aw_aload_n X dX10_give_28 rfl rfl ?_
        refine aw_iconst X dX10_give_29 ci_1 ?_
        refine aw_callV X (kX10_faulted _ _ _ _ _ _ _ _ _ _ _ _ _ _ _ _ _ k0_ _) okm_X10_faulted okX10 k0_ ml_X10_54 im_X10_faulted se_X10_X10_faulted rfl rfl (Nat.le_of_ble_eq_true rfl) ⟨Nat.le_of_ble_eq_true rfl, Nat.le_of_ble_eq_true rfl, Nat.le_of_ble_eq_true rfl, Nat.le_of_ble_eq_true rfl⟩ dX10_give_30 (fun v w2 hp => ?_)
        obtain ⟨rfl, hw125⟩ := hp
        have hk126 := (congrFun hw125 (ad 0 0)).trans wm_ups
        have hk127 := ((congrFun hw125 (ad 1 0)).trans (wm_upn (rl_ne hL (t := 1) (i := 0) (t' := 0) (i' := 0) (lvf 1 (by decide)) (lvf 0 (by decide)) (Or.inl rfl) (fun z => absurd z.1 (by decide))))).trans k1_
        have hk128 := ((congrFun hw125 (ad 2 0)).trans (wm_upn (rl_ne hL (t := 2) (i := 0) (t' := 0) (i' := 0) (lvf 2 (by decide)) (lvf 0 (by decide)) (Or.inl rfl) (fun z => absurd z.1 (by decide))))).trans k2_
        refine RTN (some (.int _)) _ _ _ _ _ dX10_give_33 (⟨_, rfl⟩) (Nat.le_of_ble_eq_true rfl) (Nat.le_of_ble_eq_true rfl) ?_
        have h0 : M.2.2 1 r.toNatClampNeg = 0 := by have h := hr123; rw [cR_k (cl_lt c11 (by decide) (by decide))] at h; exact rIA_none h
        have hm : mo_give M n1 r = ((-10) - 1, sI (sI M 0 0) 5 1) := by unfold mo_give; rw [if_pos ⟨c4, c11⟩, if_pos h0]
        rw [hm]
        exact ⟨rfl, ad, gi, rl_5 hL hw125, rfl⟩
      · rw [cR_k (cl_lt c11 (by decide) (by decide))] at hr123
        obtain ⟨hzR, he129⟩ := rIA_some hr123
        subst he129
        have huR := row_usd hR (cl_lt c11 (by decide) (by decide)) hzR
        refine aw_astore_n (lv' := [(3, _), (0, _), (1, _), (2, _)]) X dX10_give_23 rfl (by decide) rfl ?_
        refine aw_aload_n X dX10_give_24 rfl rfl ?_
        refine aw_ifnonnull (tgt := 34) X dX10_give_25 rfl ?_
        refine aw_aload_n X dX10_give_34 rfl rfl ?_
        refine aw_iconst X dX10_give_35 ci_1 ?_
        refine aw_callV X (kX2_isOf _ _ _ (ad 11 (M.2.2 1 r.toNatClampNeg).toNatClampNeg) _ _ _ _ (hL.1 11 (M.2.2 1 r.toNatClampNeg).toNatClampNeg huR) (hL.1 12 (M.2.2 1 r.toNatClampNeg).toNatClampNeg huR) _) okm_X2_isOf okX2 (hL.1 11 (M.2.2 1 r.toNatClampNeg).toNatClampNeg huR) ml_X10_100 im_X2_isOf se_X2_X2_isOf rfl rfl (Nat.le_of_ble_eq_true rfl) ⟨Nat.le_of_ble_eq_true rfl, Nat.le_of_ble_eq_true rfl, Nat.le_of_ble_eq_true rfl, Nat.le_of_ble_eq_true rfl⟩ dX10_give_36 (fun v w2 hp => ?_)
        obtain ⟨rfl, hw9⟩ := hp
        have hw9 := hw9.symm
        subst hw9
        refine aw_if_ne (tgt := 56) X dX10_give_39 rfl (fun c39 => ?_) (fun c39 => ?_)
        · rw [bI_n0] at c39
          refine aw_aload_n X dX10_give_56 rfl rfl ?_
          refine aw_get X okX10 (k := 1) k0_ (Nat.le_of_ble_eq_true rfl) fl_X10_17 (Or.inl rfl) rfl dX10_give_57 ?_
          refine aw_iload_n X dX10_give_60 rfl rfl ?_
          refine aw_aload_n X dX10_give_61 rfl rfl ?_
          refine aw_callV X (kX2_signs _ _ _ (ad 11 (M.2.2 1 r.toNatClampNeg).toNatClampNeg) (ad 12 (M.2.2 1 r.toNatClampNeg).toNatClampNeg) _ _ _ (hL.1 11 (M.2.2 1 r.toNatClampNeg).toNatClampNeg huR) (hL.1 12 (M.2.2 1 r.toNatClampNeg).toNatClampNeg huR) (n40 (sz_row hR hS (cl_lt c11 (by decide) (by decide))))) okm_X2_signs okX2 (hL.1 11 (M.2.2 1 r.toNatClampNeg).toNatClampNeg huR) ml_X10_165 im_X2_signs se_X2_X2_signs rfl rfl (Nat.le_of_ble_eq_true rfl) ⟨Nat.le_of_ble_eq_true rfl, Nat.le_of_ble_eq_true rfl, Nat.le_of_ble_eq_true rfl, Nat.le_of_ble_eq_true rfl⟩ dX10_give_62 (fun v w2 hp => ?_)
          obtain ⟨q9, qa9, rfl, hq9, hqa9, hqq9, hQ9, hA9, hb9⟩ := hp
          have hk130 := (hb9 (ad 0 0) (ne_fr k0_ hq9) (ne_fr k0_ hqa9)).trans k0_
          have hk131 := (hb9 (ad 1 0) (ne_fr k1_ hq9) (ne_fr k1_ hqa9)).trans k1_
          have hk132 := (hb9 (ad 2 0) (ne_fr k2_ hq9) (ne_fr k2_ hqa9)).trans k2_
          have hk133 := (hb9 (ad 11 (M.2.2 1 r.toNatClampNeg).toNatClampNeg) (ne_fr (hL.1 11 (M.2.2 1 r.toNatClampNeg).toNatClampNeg huR) hq9) (ne_fr (hL.1 11 (M.2.2 1 r.toNatClampNeg).toNatClampNeg huR) hqa9)).trans (hL.1 11 (M.2.2 1 r.toNatClampNeg).toNatClampNeg huR)
          have hk134 := (hb9 (ad 12 (M.2.2 1 r.toNatClampNeg).toNatClampNeg) (ne_fr (hL.1 12 (M.2.2 1 r.toNatClampNeg).toNatClampNeg huR) hq9) (ne_fr (hL.1 12 (M.2.2 1 r.toNatClampNeg).toNatClampNeg huR) hqa9)).trans (hL.1 12 (M.2.2 1 r.toNatClampNeg).toNatClampNeg huR)
          refine aw_aast2 X 4 okX2 hk132 rfl hQ9 (bt_vp c4 (by decide) (by decide)) dX10_give_65 (fun w135 hk136 hn137 he138 => ?_)
          have hk139 := (hn137 _ (rl_ne hL (t := 0) (i := 0) (t' := 2) (i' := 0) (lvf 0 (by decide)) (lvf 2 (by decide)) (Or.inl rfl) (fun z => absurd z.1 (by decide)))).trans hk130
          have hk140 := (hn137 _ (rl_ne hL (t := 1) (i := 0) (t' := 2) (i' := 0) (lvf 1 (by decide)) (lvf 2 (by decide)) (Or.inl rfl) (fun z => absurd z.1 (by decide)))).trans hk131
          have hk141 := (hn137 _ (rl_ne hL (t := 11) (i := (M.2.2 1 r.toNatClampNeg).toNatClampNeg) (t' := 2) (i' := 0) (huR) (lvf 2 (by decide)) (Or.inl rfl) (fun z => absurd z.1 (by decide)))).trans hk133
          have hk142 := (hn137 _ (rl_ne hL (t := 12) (i := (M.2.2 1 r.toNatClampNeg).toNatClampNeg) (t' := 2) (i' := 0) (huR) (lvf 2 (by decide)) (Or.inl rfl) (fun z => absurd z.1 (by decide)))).trans hk134
          have hk143 := (hn137 _ (ne_oa hQ9 hk132)).trans hQ9
          have hk144 := (hn137 _ (ne_ar hA9 hk132)).trans hA9
          refine aw_aload_n X dX10_give_66 rfl rfl ?_
          refine aw_get X okX2 (k := 1) hk141 (Nat.le_of_ble_eq_true rfl) fl_X10_65 (Or.inl rfl) rfl dX10_give_67 ?_
          refine aw_alen X 0 hk142 rfl (v := (nI ((M.2.2 3 (M.2.2 1 r.toNatClampNeg).toNatClampNeg).toNatClampNeg))) rfl dX10_give_70 ?_
          refine RTN (some (.int _)) _ _ _ _ _ dX10_give_71 (⟨_, rfl⟩) (Nat.le_of_ble_eq_true rfl) (Nat.le_of_ble_eq_true rfl) ?_
          have hso : M.2.2 2 (M.2.2 1 r.toNatClampNeg).toNatClampNeg = 1 ∨ M.2.2 2 (M.2.2 1 r.toNatClampNeg).toNatClampNeg = 2 := so_1 c39
          have hs2 : M.2.2 2 (M.2.2 1 r.toNatClampNeg).toNatClampNeg ≤ 2 := by rcases hso with h | h <;> rw [h] <;> decide
          have hr8 : r.toNatClampNeg < 8 := cl_lt c11 (by decide) (by decide)
          have bn := bt_iff.mp c4
          have br := bt_iff.mp (hR _ hr8)
          have hsz := sz_row hR hS hr8
          have e1 : nI n1.toNatClampNeg = n1 := nI_cl bn.1
          have e2 : nI (M.2.2 1 r.toNatClampNeg).toNatClampNeg = M.2.2 1 r.toNatClampNeg := nI_cl br.1
          have e3 : nI (M.2.2 3 (M.2.2 1 r.toNatClampNeg).toNatClampNeg).toNatClampNeg = M.2.2 3 (M.2.2 1 r.toNatClampNeg).toNatClampNeg := nI_cl (bt_iff.mp hsz).1
          have hm : mo_give M n1 r = (M.2.2 3 (M.2.2 1 r.toNatClampNeg).toNatClampNeg, sA (sF (sI M 0 0) 23 n1.toNatClampNeg (M.2.2 3 (M.2.2 1 r.toNatClampNeg).toNatClampNeg)) 24 (glg M n1.toNatClampNeg (M.2.2 1 r.toNatClampNeg).toNatClampNeg (M.2.2 3 (M.2.2 1 r.toNatClampNeg).toNatClampNeg).toNatClampNeg)) := by
            have hg := gl_eq (N := sF (sI M 0 0) 23 n1.toNatClampNeg (M.2.2 3 (M.2.2 1 r.toNatClampNeg).toNatClampNeg)) (n := n1.toNatClampNeg) (u := (M.2.2 1 r.toNatClampNeg).toNatClampNeg) (cl_lt c4 (by decide) (by decide)) huR.1 huR.2.1 (M.2.2 3 (M.2.2 1 r.toNatClampNeg).toNatClampNeg).toNatClampNeg (n40 hsz)
            rw [e1, e2] at hg
            unfold mo_give
            rw [if_pos ⟨c4, c11⟩, if_neg hzR, if_pos hs2, hg]
            rfl
          rw [hm]
          exact ⟨by rw [e3], _, gi, rl_gv (q := q9) (qa := qa9) hL hgv (cl_lt c4 (by decide) (by decide)) huR rfl hsz hso hq9 hqa9 hqq9 hk136 hk143 hk144 (fun b h1 h2 h3 => by rw [he138, wm_upn h1, hb9 b h2 h3]), rfl⟩
        · rw [bI_0] at c39
          refine aw_aload_n X dX10_give_42 rfl rfl ?_
          refine aw_iconst X dX10_give_43 ci_2 ?_
          refine aw_callV X (kX2_isOf _ _ _ (ad 11 (M.2.2 1 r.toNatClampNeg).toNatClampNeg) _ _ _ _ (hL.1 11 (M.2.2 1 r.toNatClampNeg).toNatClampNeg huR) (hL.1 12 (M.2.2 1 r.toNatClampNeg).toNatClampNeg huR) _) okm_X2_isOf okX2 (hL.1 11 (M.2.2 1 r.toNatClampNeg).toNatClampNeg huR) ml_X10_100 im_X2_isOf se_X2_X2_isOf rfl rfl (Nat.le_of_ble_eq_true rfl) ⟨Nat.le_of_ble_eq_true rfl, Nat.le_of_ble_eq_true rfl, Nat.le_of_ble_eq_true rfl, Nat.le_of_ble_eq_true rfl⟩ dX10_give_44 (fun v w2 hp => ?_)
          obtain ⟨rfl, hw9⟩ := hp
          have hw9 := hw9.symm
          subst hw9
          refine aw_if_ne (tgt := 56) X dX10_give_47 rfl (fun c47 => ?_) (fun c47 => ?_)
          · rw [bI_n0] at c47
            refine aw_aload_n X dX10_give_56 rfl rfl ?_
            refine aw_get X okX10 (k := 1) k0_ (Nat.le_of_ble_eq_true rfl) fl_X10_17 (Or.inl rfl) rfl dX10_give_57 ?_
            refine aw_iload_n X dX10_give_60 rfl rfl ?_
            refine aw_aload_n X dX10_give_61 rfl rfl ?_
            refine aw_callV X (kX2_signs _ _ _ (ad 11 (M.2.2 1 r.toNatClampNeg).toNatClampNeg) (ad 12 (M.2.2 1 r.toNatClampNeg).toNatClampNeg) _ _ _ (hL.1 11 (M.2.2 1 r.toNatClampNeg).toNatClampNeg huR) (hL.1 12 (M.2.2 1 r.toNatClampNeg).toNatClampNeg huR) (n40 (sz_row hR hS (cl_lt c11 (by decide) (by decide))))) okm_X2_signs okX2 (hL.1 11 (M.2.2 1 r.toNatClampNeg).toNatClampNeg huR) ml_X10_165 im_X2_signs se_X2_X2_signs rfl rfl (Nat.le_of_ble_eq_true rfl) ⟨Nat.le_of_ble_eq_true rfl, Nat.le_of_ble_eq_true rfl, Nat.le_of_ble_eq_true rfl, Nat.le_of_ble_eq_true rfl⟩ dX10_give_62 (fun v w2 hp => ?_)
            obtain ⟨q9, qa9, rfl, hq9, hqa9, hqq9, hQ9, hA9, hb9⟩ := hp
            have hk145 := (hb9 (ad 0 0) (ne_fr k0_ hq9) (ne_fr k0_ hqa9)).trans k0_
            have hk146 := (hb9 (ad 1 0) (ne_fr k1_ hq9) (ne_fr k1_ hqa9)).trans k1_
            have hk147 := (hb9 (ad 2 0) (ne_fr k2_ hq9) (ne_fr k2_ hqa9)).trans k2_
            have hk148 := (hb9 (ad 11 (M.2.2 1 r.toNatClampNeg).toNatClampNeg) (ne_fr (hL.1 11 (M.2.2 1 r.toNatClampNeg).toNatClampNeg huR) hq9) (ne_fr (hL.1 11 (M.2.2 1 r.toNatClampNeg).toNatClampNeg huR) hqa9)).trans (hL.1 11 (M.2.2 1 r.toNatClampNeg).toNatClampNeg huR)
            have hk149 := (hb9 (ad 12 (M.2.2 1 r.toNatClampNeg).toNatClampNeg) (ne_fr (hL.1 12 (M.2.2 1 r.toNatClampNeg).toNatClampNeg huR) hq9) (ne_fr (hL.1 12 (M.2.2 1 r.toNatClampNeg).toNatClampNeg huR) hqa9)).trans (hL.1 12 (M.2.2 1 r.toNatClampNeg).toNatClampNeg huR)
            refine aw_aast2 X 4 okX2 hk147 rfl hQ9 (bt_vp c4 (by decide) (by decide)) dX10_give_65 (fun w150 hk151 hn152 he153 => ?_)
            have hk154 := (hn152 _ (rl_ne hL (t := 0) (i := 0) (t' := 2) (i' := 0) (lvf 0 (by decide)) (lvf 2 (by decide)) (Or.inl rfl) (fun z => absurd z.1 (by decide)))).trans hk145
            have hk155 := (hn152 _ (rl_ne hL (t := 1) (i := 0) (t' := 2) (i' := 0) (lvf 1 (by decide)) (lvf 2 (by decide)) (Or.inl rfl) (fun z => absurd z.1 (by decide)))).trans hk146
            have hk156 := (hn152 _ (rl_ne hL (t := 11) (i := (M.2.2 1 r.toNatClampNeg).toNatClampNeg) (t' := 2) (i' := 0) (huR) (lvf 2 (by decide)) (Or.inl rfl) (fun z => absurd z.1 (by decide)))).trans hk148
            have hk157 := (hn152 _ (rl_ne hL (t := 12) (i := (M.2.2 1 r.toNatClampNeg).toNatClampNeg) (t' := 2) (i' := 0) (huR) (lvf 2 (by decide)) (Or.inl rfl) (fun z => absurd z.1 (by decide)))).trans hk149
            have hk158 := (hn152 _ (ne_oa hQ9 hk147)).trans hQ9
            have hk159 := (hn152 _ (ne_ar hA9 hk147)).trans hA9
            refine aw_aload_n X dX10_give_66 rfl rfl ?_
            refine aw_get X okX2 (k := 1) hk156 (Nat.le_of_ble_eq_true rfl) fl_X10_65 (Or.inl rfl) rfl dX10_give_67 ?_
            refine aw_alen X 0 hk157 rfl (v := (nI ((M.2.2 3 (M.2.2 1 r.toNatClampNeg).toNatClampNeg).toNatClampNeg))) rfl dX10_give_70 ?_
            refine RTN (some (.int _)) _ _ _ _ _ dX10_give_71 (⟨_, rfl⟩) (Nat.le_of_ble_eq_true rfl) (Nat.le_of_ble_eq_true rfl) ?_
            have hso : M.2.2 2 (M.2.2 1 r.toNatClampNeg).toNatClampNeg = 1 ∨ M.2.2 2 (M.2.2 1 r.toNatClampNeg).toNatClampNeg = 2 := so_2 c47
            have hs2 : M.2.2 2 (M.2.2 1 r.toNatClampNeg).toNatClampNeg ≤ 2 := by rcases hso with h | h <;> rw [h] <;> decide
            have hr8 : r.toNatClampNeg < 8 := cl_lt c11 (by decide) (by decide)
            have bn := bt_iff.mp c4
            have br := bt_iff.mp (hR _ hr8)
            have hsz := sz_row hR hS hr8
            have e1 : nI n1.toNatClampNeg = n1 := nI_cl bn.1
            have e2 : nI (M.2.2 1 r.toNatClampNeg).toNatClampNeg = M.2.2 1 r.toNatClampNeg := nI_cl br.1
            have e3 : nI (M.2.2 3 (M.2.2 1 r.toNatClampNeg).toNatClampNeg).toNatClampNeg = M.2.2 3 (M.2.2 1 r.toNatClampNeg).toNatClampNeg := nI_cl (bt_iff.mp hsz).1
            have hm : mo_give M n1 r = (M.2.2 3 (M.2.2 1 r.toNatClampNeg).toNatClampNeg, sA (sF (sI M 0 0) 23 n1.toNatClampNeg (M.2.2 3 (M.2.2 1 r.toNatClampNeg).toNatClampNeg)) 24 (glg M n1.toNatClampNeg (M.2.2 1 r.toNatClampNeg).toNatClampNeg (M.2.2 3 (M.2.2 1 r.toNatClampNeg).toNatClampNeg).toNatClampNeg)) := by
              have hg := gl_eq (N := sF (sI M 0 0) 23 n1.toNatClampNeg (M.2.2 3 (M.2.2 1 r.toNatClampNeg).toNatClampNeg)) (n := n1.toNatClampNeg) (u := (M.2.2 1 r.toNatClampNeg).toNatClampNeg) (cl_lt c4 (by decide) (by decide)) huR.1 huR.2.1 (M.2.2 3 (M.2.2 1 r.toNatClampNeg).toNatClampNeg).toNatClampNeg (n40 hsz)
              rw [e1, e2] at hg
              unfold mo_give
              rw [if_pos ⟨c4, c11⟩, if_neg hzR, if_pos hs2, hg]
              rfl
            rw [hm]
            exact ⟨by rw [e3], _, gi, rl_gv (q := q9) (qa := qa9) hL hgv (cl_lt c4 (by decide) (by decide)) huR rfl hsz hso hq9 hqa9 hqq9 hk151 hk158 hk159 (fun b h1 h2 h3 => by rw [he153, wm_upn h1, hb9 b h2 h3]), rfl⟩
          · rw [bI_0] at c47
            refine aw_aload_n X dX10_give_50 rfl rfl ?_
            refine aw_iconst X dX10_give_51 ci_2 ?_
            refine aw_callV X (kX10_faulted _ _ _ _ _ _ _ _ _ _ _ _ _ _ _ _ _ k0_ _) okm_X10_faulted okX10 k0_ ml_X10_54 im_X10_faulted se_X10_X10_faulted rfl rfl (Nat.le_of_ble_eq_true rfl) ⟨Nat.le_of_ble_eq_true rfl, Nat.le_of_ble_eq_true rfl, Nat.le_of_ble_eq_true rfl, Nat.le_of_ble_eq_true rfl⟩ dX10_give_52 (fun v w2 hp => ?_)
            obtain ⟨rfl, hw160⟩ := hp
            have hk161 := (congrFun hw160 (ad 0 0)).trans wm_ups
            have hk162 := ((congrFun hw160 (ad 1 0)).trans (wm_upn (rl_ne hL (t := 1) (i := 0) (t' := 0) (i' := 0) (lvf 1 (by decide)) (lvf 0 (by decide)) (Or.inl rfl) (fun z => absurd z.1 (by decide))))).trans k1_
            have hk163 := ((congrFun hw160 (ad 2 0)).trans (wm_upn (rl_ne hL (t := 2) (i := 0) (t' := 0) (i' := 0) (lvf 2 (by decide)) (lvf 0 (by decide)) (Or.inl rfl) (fun z => absurd z.1 (by decide))))).trans k2_
            have hk164 := ((congrFun hw160 (ad 11 (M.2.2 1 r.toNatClampNeg).toNatClampNeg)).trans (wm_upn (rl_ne hL (t := 11) (i := (M.2.2 1 r.toNatClampNeg).toNatClampNeg) (t' := 0) (i' := 0) (huR) (lvf 0 (by decide)) (Or.inl rfl) (fun z => absurd z.1 (by decide))))).trans (hL.1 11 (M.2.2 1 r.toNatClampNeg).toNatClampNeg huR)
            have hk165 := ((congrFun hw160 (ad 12 (M.2.2 1 r.toNatClampNeg).toNatClampNeg)).trans (wm_upn (rl_ne hL (t := 12) (i := (M.2.2 1 r.toNatClampNeg).toNatClampNeg) (t' := 0) (i' := 0) (huR) (lvf 0 (by decide)) (Or.inl rfl) (fun z => absurd z.1 (by decide))))).trans (hL.1 12 (M.2.2 1 r.toNatClampNeg).toNatClampNeg huR)
            refine RTN (some (.int _)) _ _ _ _ _ dX10_give_55 (⟨_, rfl⟩) (Nat.le_of_ble_eq_true rfl) (Nat.le_of_ble_eq_true rfl) ?_
            have hs : ¬ M.2.2 2 (M.2.2 1 r.toNatClampNeg).toNatClampNeg ≤ 2 := so_gt (hSo _ huR) c39 c47
            have hm : mo_give M n1 r = ((-10) - 2, sI (sI M 0 0) 5 2) := by unfold mo_give; rw [if_pos ⟨c4, c11⟩, if_neg hzR, if_neg hs]
            rw [hm]
            exact ⟨rfl, ad, gi, rl_5 hL hw160, rfl⟩
    · rw [bI_0] at c11
      refine aw_bipush X dX10_give_14 cb_m2 ?_
      refine RTN (some (.int _)) _ _ _ _ _ dX10_give_16 (⟨_, rfl⟩) (Nat.le_of_ble_eq_true rfl) (Nat.le_of_ble_eq_true rfl) ?_
      have hm : mo_give M n1 r = (-2, sI M 0 0) := by simp only [mo_give, c4, c11, if_true, if_false, not_true_eq_false, not_false_eq_true, and_self, true_and, and_true, false_and, and_false, or_true, true_or, or_false, false_or, reduceCtorEq, ne_eq, va_us, pk_us]
      rw [hm]
      exact ⟨rfl, ad, gi, rl_0 hL, rfl⟩
