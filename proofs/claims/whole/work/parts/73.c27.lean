/-! what streams write -/
theorem nar_nrw {M : MS} {gi : GI} {k : Nat} {c : Int32} : st_nar (cSI M gi k) c = nrw (M.2.2 9 k) c := nrw_eq.symm
theorem sh_eq {M : MS} {k : Nat} (hk : k < 8) : ∀ j, j ≤ 19 → mo_sh M (nI k) j = sA M 18 (fun x => if 40 * k + 20 - j ≤ x ∧ x < 40 * k + 20 then M.2.2 18 (x - 1) else M.2.2 18 x)
  | 0, _ => by
    have e : (fun x => if 40 * k + 20 - 0 ≤ x ∧ x < 40 * k + 20 then M.2.2 18 (x - 1) else M.2.2 18 x) = M.2.2 18 := funext fun x => if_neg (fun z => by omega)
    rw [e]
    exact sA_self.symm
  | j + 1, h => by
    show sF (mo_sh M (nI k) j) 18 ((40 * nI k) + nI (19 - j)).toNatClampNeg ((mo_sh M (nI k) j).2.2 18 (((40 * nI k) + nI (19 - j)) - 1).toNatClampNeg) = _
    have i1 : ((40 * nI k) + nI (19 - j)).toNatClampNeg = 40 * k + (19 - j) := ix_k (by omega) (by omega)
    have i2 : (((40 * nI k) + nI (19 - j)) - 1).toNatClampNeg = 40 * k + (19 - j) - 1 := by
      have h1 := ti_mul (a := 40) (b := nI k) (x := 40) rfl (nI_toInt (by omega)) (by omega)
      have h2 := ti_add h1 (b := nI (19 - j)) (nI_toInt (by omega)) (by omega)
      have h3 := ti_sub h2 (b := 1) (y := 1) rfl (by omega)
      have h4 := cl_toInt (x := ((40 * nI k) + nI (19 - j)) - 1) (by omega)
      omega
    rw [i1, i2, sh_eq hk j (by omega)]
    refine Prod.ext rfl (Prod.ext rfl (funext fun a => ?_))
    show va_up (va_up M.2.2 18 (fun x => if 40 * k + 20 - j ≤ x ∧ x < 40 * k + 20 then M.2.2 18 (x - 1) else M.2.2 18 x)) 18 (upd (fun x => if 40 * k + 20 - j ≤ x ∧ x < 40 * k + 20 then M.2.2 18 (x - 1) else M.2.2 18 x) (40 * k + (19 - j)) (if 40 * k + 20 - j ≤ 40 * k + (19 - j) - 1 ∧ 40 * k + (19 - j) - 1 < 40 * k + 20 then M.2.2 18 (40 * k + (19 - j) - 1 - 1) else M.2.2 18 (40 * k + (19 - j) - 1))) a = va_up M.2.2 18 (fun x => if 40 * k + 20 - (j + 1) ≤ x ∧ x < 40 * k + 20 then M.2.2 18 (x - 1) else M.2.2 18 x) a
    rw [if_neg (fun z => by omega)]
    unfold va_up
    by_cases ha : a = 18
    · rw [if_pos ha, if_pos ha]
      funext x
      unfold upd
      by_cases hx : x = 40 * k + (19 - j)
      · rw [if_pos hx, if_pos (by omega), hx]
      · rw [if_neg hx]
        show (if 40 * k + 20 - j ≤ x ∧ x < 40 * k + 20 then M.2.2 18 (x - 1) else M.2.2 18 x) = if 40 * k + 20 - (j + 1) ≤ x ∧ x < 40 * k + 20 then M.2.2 18 (x - 1) else M.2.2 18 x
        by_cases hz : 40 * k + 20 - j ≤ x ∧ x < 40 * k + 20
        · rw [if_pos hz, if_pos (by omega)]
        · rw [if_neg hz, if_neg (by omega)]
    · rw [if_neg ha, if_neg ha, if_neg ha]
def ppg (M : MS) (k : Nat) (v : Int32) : Nat → Int32 := fun x => if x = 40 * k then v else if 40 * k < x ∧ x < 40 * k + 20 then M.2.2 18 (x - 1) else M.2.2 18 x
theorem pp_eq {M : MS} {k : Nat} {v : Int32} (hk : k < 8) : mo_pp M (nI k) v = sF (sA M 18 (ppg M k v)) 19 k (M.2.2 19 k + (if 20 ≤ M.2.2 19 k then 0 else 1)) := by
  unfold mo_pp
  have i0 : (40 * nI k).toNatClampNeg = 40 * k := by
    have h1 := ti_mul (a := 40) (b := nI k) (x := 40) rfl (nI_toInt (by omega)) (by omega)
    have h4 := cl_toInt (x := 40 * nI k) (by omega)
    omega
  rw [sh_eq hk 19 (Nat.le_refl 19), i0, nI_clamp (show k < 2 ^ 31 by omega)]
  have e : sF (sA M 18 (fun x => if 40 * k + 20 - 19 ≤ x ∧ x < 40 * k + 20 then M.2.2 18 (x - 1) else M.2.2 18 x)) 18 (40 * k) v = sA M 18 (ppg M k v) := by
    refine (sA_sA (M := M) (k := 18)).trans ?_
    have e2 : upd ((sA M 18 (fun x => if 40 * k + 20 - 19 ≤ x ∧ x < 40 * k + 20 then M.2.2 18 (x - 1) else M.2.2 18 x)).2.2 18) (40 * k) v = ppg M k v := by
      funext x
      show upd (fun x => if 40 * k + 20 - 19 ≤ x ∧ x < 40 * k + 20 then M.2.2 18 (x - 1) else M.2.2 18 x) (40 * k) v x = _
      unfold upd ppg
      by_cases hx : x = 40 * k
      · rw [if_pos hx, if_pos hx]
      · rw [if_neg hx, if_neg hx]
        show (if 40 * k + 20 - 19 ≤ x ∧ x < 40 * k + 20 then M.2.2 18 (x - 1) else M.2.2 18 x) = _
        by_cases hz : 40 * k < x ∧ x < 40 * k + 20
        · rw [if_pos hz, if_pos (by omega)]
        · rw [if_neg hz, if_neg (by omega)]
    rw [e2]
  rw [e]
  rfl
theorem nx_v {n : Int32} (h : bt n 0 19) : bt (n + 1 - (n + 1) / 20 * 20) 0 19 = true ∧ (n + 1 - (n + 1) / 20 * 20).toNatClampNeg = (n.toNatClampNeg + 1) % 20 := by
  have a := bt_iff.mp h
  have c1 := cl_toInt (x := n) a.1
  have t1 := ti_add (a := n) (b := 1) (y := 1) rfl rfl (by omega)
  have e20 : (20 : Int32).toInt = 20 := rfl
  have d : ((n + 1) / 20).toInt = (n.toInt + 1) / 20 := by
    rw [Int32.toInt_div, t1, e20, Int.tdiv_eq_ediv_of_nonneg (by omega)]
    exact Int.bmod_eq_of_le (by omega) (by omega)
  have m := ti_mul (b := 20) (y := 20) d rfl (by omega)
  have s := ti_sub t1 m (by omega)
  have c3 := cl_toInt (x := n + 1 - (n + 1) / 20 * 20) (by omega)
  exact ⟨bt_iff.mpr ⟨by omega, by omega⟩, by omega⟩
theorem kp_v {n : Int32} (h : bt n 0 20) : (if 20 < n + 1 then 20 else n + 1) = n + (if 20 ≤ n then 0 else 1) ∧ ∀ i : Nat, (i : Int) < (n + (if 20 ≤ n then 0 else 1)).toInt → i < 20 ∧ (i ≠ 0 → ((i - 1 : Nat) : Int) < n.toInt) := by
  have a := bt_iff.mp h
  have t1 := ti_add (a := n) (b := 1) (y := 1) rfl rfl (by omega)
  have e20 : (20 : Int32).toInt = 20 := rfl
  by_cases h20 : 20 ≤ n
  · have e : n = 20 := (i32_eq _ 20).mpr (by rw [i32_le] at h20; omega)
    subst e
    exact ⟨by decide, fun i hi => by rw [if_pos (by decide)] at hi; have : ((20 : Int32) + 0).toInt = 20 := rfl; omega⟩
  · rw [if_neg h20, if_neg (fun z => h20 (by rw [i32_lt] at z; rw [i32_le]; omega))]
    rw [i32_le] at h20
    exact ⟨rfl, fun i hi => ⟨by omega, fun _ => by omega⟩⟩
theorem rl_pp {G : GG} {M : MS} {ad : AD} {gi : GI} {w w' : WM} {k : Nat} {v : Int32} (hL : RLa G M ad gi w) (hsg : mi_signs M) (hls : mi_last M) (ho : opn M k) (h8 : M.2.2 8 k = 0) (h1 : w' (ad 13 k) = some (sC (upd (upd (cSI M gi k) 9 (gi 0 k 0 + 1 - (gi 0 k 0 + 1) / 20 * 20)) 10 (if 20 < M.2.2 19 k + 1 then 20 else M.2.2 19 k + 1)) (sAd M ad (M.2.2 17 k)) (some (ad 14 k)))) (h2 : w' (ad 14 k) = some (.inl (gA G 0, 20, .inl (upd (gi 1 k) (gi 0 k 0).toNatClampNeg v)))) (h3 : ∀ c, c ≠ ad 13 k → c ≠ ad 14 k → w' c = w c) : RLa G (sF (sA M 18 (ppg M k v)) 19 k (M.2.2 19 k + (if 20 ≤ M.2.2 19 k then 0 else 1))) ad (gu (gu gi 0 k (fun _ => gi 0 k 0 + 1 - (gi 0 k 0 + 1) / 20 * 20)) 1 k (upd (gi 1 k) (gi 0 k 0).toNatClampNeg v)) w' := by
  have f18 : (sF (sA M 18 (ppg M k v)) 19 k (M.2.2 19 k + (if 20 ≤ M.2.2 19 k then 0 else 1))).2.2 18 = ppg M k v := rfl
  have f19 : (sF (sA M 18 (ppg M k v)) 19 k (M.2.2 19 k + (if 20 ≤ M.2.2 19 k then 0 else 1))).2.2 19 = upd (M.2.2 19) k (M.2.2 19 k + (if 20 ≤ M.2.2 19 k then 0 else 1)) := rfl
  generalize hM' : sF (sA M 18 (ppg M k v)) 19 k (M.2.2 19 k + (if 20 ≤ M.2.2 19 k then 0 else 1)) = M' at *
  have m1 : M'.2.2 1 = M.2.2 1 := hM' ▸ (rfl : (sF (sA M 18 (ppg M k v)) 19 k (M.2.2 19 k + (if 20 ≤ M.2.2 19 k then 0 else 1))).2.2 1 = M.2.2 1)
  have m2 : M'.2.2 2 = M.2.2 2 := hM' ▸ (rfl : (sF (sA M 18 (ppg M k v)) 19 k (M.2.2 19 k + (if 20 ≤ M.2.2 19 k then 0 else 1))).2.2 2 = M.2.2 2)
  have m3 : M'.2.2 3 = M.2.2 3 := hM' ▸ (rfl : (sF (sA M 18 (ppg M k v)) 19 k (M.2.2 19 k + (if 20 ≤ M.2.2 19 k then 0 else 1))).2.2 3 = M.2.2 3)
  have m4 : M'.2.2 4 = M.2.2 4 := hM' ▸ (rfl : (sF (sA M 18 (ppg M k v)) 19 k (M.2.2 19 k + (if 20 ≤ M.2.2 19 k then 0 else 1))).2.2 4 = M.2.2 4)
  have m6 : M'.2.2 6 = M.2.2 6 := hM' ▸ (rfl : (sF (sA M 18 (ppg M k v)) 19 k (M.2.2 19 k + (if 20 ≤ M.2.2 19 k then 0 else 1))).2.2 6 = M.2.2 6)
  have m8 : M'.2.2 8 = M.2.2 8 := hM' ▸ (rfl : (sF (sA M 18 (ppg M k v)) 19 k (M.2.2 19 k + (if 20 ≤ M.2.2 19 k then 0 else 1))).2.2 8 = M.2.2 8)
  have m9 : M'.2.2 9 = M.2.2 9 := hM' ▸ (rfl : (sF (sA M 18 (ppg M k v)) 19 k (M.2.2 19 k + (if 20 ≤ M.2.2 19 k then 0 else 1))).2.2 9 = M.2.2 9)
  have m10 : M'.2.2 10 = M.2.2 10 := hM' ▸ (rfl : (sF (sA M 18 (ppg M k v)) 19 k (M.2.2 19 k + (if 20 ≤ M.2.2 19 k then 0 else 1))).2.2 10 = M.2.2 10)
  have m11 : M'.2.2 11 = M.2.2 11 := hM' ▸ (rfl : (sF (sA M 18 (ppg M k v)) 19 k (M.2.2 19 k + (if 20 ≤ M.2.2 19 k then 0 else 1))).2.2 11 = M.2.2 11)
  have m12 : M'.2.2 12 = M.2.2 12 := hM' ▸ (rfl : (sF (sA M 18 (ppg M k v)) 19 k (M.2.2 19 k + (if 20 ≤ M.2.2 19 k then 0 else 1))).2.2 12 = M.2.2 12)
  have m13 : M'.2.2 13 = M.2.2 13 := hM' ▸ (rfl : (sF (sA M 18 (ppg M k v)) 19 k (M.2.2 19 k + (if 20 ≤ M.2.2 19 k then 0 else 1))).2.2 13 = M.2.2 13)
  have m14 : M'.2.2 14 = M.2.2 14 := hM' ▸ (rfl : (sF (sA M 18 (ppg M k v)) 19 k (M.2.2 19 k + (if 20 ≤ M.2.2 19 k then 0 else 1))).2.2 14 = M.2.2 14)
  have m15 : M'.2.2 15 = M.2.2 15 := hM' ▸ (rfl : (sF (sA M 18 (ppg M k v)) 19 k (M.2.2 19 k + (if 20 ≤ M.2.2 19 k then 0 else 1))).2.2 15 = M.2.2 15)
  have m16 : M'.2.2 16 = M.2.2 16 := hM' ▸ (rfl : (sF (sA M 18 (ppg M k v)) 19 k (M.2.2 19 k + (if 20 ≤ M.2.2 19 k then 0 else 1))).2.2 16 = M.2.2 16)
  have m17 : M'.2.2 17 = M.2.2 17 := hM' ▸ (rfl : (sF (sA M 18 (ppg M k v)) 19 k (M.2.2 19 k + (if 20 ≤ M.2.2 19 k then 0 else 1))).2.2 17 = M.2.2 17)
  have m23 : M'.2.2 23 = M.2.2 23 := hM' ▸ (rfl : (sF (sA M 18 (ppg M k v)) 19 k (M.2.2 19 k + (if 20 ≤ M.2.2 19 k then 0 else 1))).2.2 23 = M.2.2 23)
  have m24 : M'.2.2 24 = M.2.2 24 := hM' ▸ (rfl : (sF (sA M 18 (ppg M k v)) 19 k (M.2.2 19 k + (if 20 ≤ M.2.2 19 k then 0 else 1))).2.2 24 = M.2.2 24)
  have m25 : M'.2.2 25 = M.2.2 25 := hM' ▸ (rfl : (sF (sA M 18 (ppg M k v)) 19 k (M.2.2 19 k + (if 20 ≤ M.2.2 19 k then 0 else 1))).2.2 25 = M.2.2 25)
  have m30 : M'.2.2 30 = M.2.2 30 := hM' ▸ (rfl : (sF (sA M 18 (ppg M k v)) 19 k (M.2.2 19 k + (if 20 ≤ M.2.2 19 k then 0 else 1))).2.2 30 = M.2.2 30)
  have m31 : M'.2.2 31 = M.2.2 31 := hM' ▸ (rfl : (sF (sA M 18 (ppg M k v)) 19 k (M.2.2 19 k + (if 20 ≤ M.2.2 19 k then 0 else 1))).2.2 31 = M.2.2 31)
  have m32 : M'.2.2 32 = M.2.2 32 := hM' ▸ (rfl : (sF (sA M 18 (ppg M k v)) 19 k (M.2.2 19 k + (if 20 ≤ M.2.2 19 k then 0 else 1))).2.2 32 = M.2.2 32)
  have m33 : M'.2.2 33 = M.2.2 33 := hM' ▸ (rfl : (sF (sA M 18 (ppg M k v)) 19 k (M.2.2 19 k + (if 20 ≤ M.2.2 19 k then 0 else 1))).2.2 33 = M.2.2 33)
  have m34 : M'.2.2 34 = M.2.2 34 := hM' ▸ (rfl : (sF (sA M 18 (ppg M k v)) 19 k (M.2.2 19 k + (if 20 ≤ M.2.2 19 k then 0 else 1))).2.2 34 = M.2.2 34)
  have m35 : M'.2.2 35 = M.2.2 35 := hM' ▸ (rfl : (sF (sA M 18 (ppg M k v)) 19 k (M.2.2 19 k + (if 20 ≤ M.2.2 19 k then 0 else 1))).2.2 35 = M.2.2 35)
  have m36 : M'.2.2 36 = M.2.2 36 := hM' ▸ (rfl : (sF (sA M 18 (ppg M k v)) 19 k (M.2.2 19 k + (if 20 ≤ M.2.2 19 k then 0 else 1))).2.2 36 = M.2.2 36)
  have m37 : M'.2.2 37 = M.2.2 37 := hM' ▸ (rfl : (sF (sA M 18 (ppg M k v)) 19 k (M.2.2 19 k + (if 20 ≤ M.2.2 19 k then 0 else 1))).2.2 37 = M.2.2 37)
  have m42 : M'.2.2 42 = M.2.2 42 := hM' ▸ (rfl : (sF (sA M 18 (ppg M k v)) 19 k (M.2.2 19 k + (if 20 ≤ M.2.2 19 k then 0 else 1))).2.2 42 = M.2.2 42)
  have m43 : M'.2.2 43 = M.2.2 43 := hM' ▸ (rfl : (sF (sA M 18 (ppg M k v)) 19 k (M.2.2 19 k + (if 20 ≤ M.2.2 19 k then 0 else 1))).2.2 43 = M.2.2 43)
  have i5 : M'.1 5 = M.1 5 := hM' ▸ (rfl : (sF (sA M 18 (ppg M k v)) 19 k (M.2.2 19 k + (if 20 ≤ M.2.2 19 k then 0 else 1))).1 5 = M.1 5)
  have i7 : M'.1 7 = M.1 7 := hM' ▸ (rfl : (sF (sA M 18 (ppg M k v)) 19 k (M.2.2 19 k + (if 20 ≤ M.2.2 19 k then 0 else 1))).1 7 = M.1 7)
  have i20 : M'.1 20 = M.1 20 := hM' ▸ (rfl : (sF (sA M 18 (ppg M k v)) 19 k (M.2.2 19 k + (if 20 ≤ M.2.2 19 k then 0 else 1))).1 20 = M.1 20)
  have i26 : M'.1 26 = M.1 26 := hM' ▸ (rfl : (sF (sA M 18 (ppg M k v)) 19 k (M.2.2 19 k + (if 20 ≤ M.2.2 19 k then 0 else 1))).1 26 = M.1 26)
  have i27 : M'.1 27 = M.1 27 := hM' ▸ (rfl : (sF (sA M 18 (ppg M k v)) 19 k (M.2.2 19 k + (if 20 ≤ M.2.2 19 k then 0 else 1))).1 27 = M.1 27)
  have i28 : M'.1 28 = M.1 28 := hM' ▸ (rfl : (sF (sA M 18 (ppg M k v)) 19 k (M.2.2 19 k + (if 20 ≤ M.2.2 19 k then 0 else 1))).1 28 = M.1 28)
  have i29 : M'.1 29 = M.1 29 := hM' ▸ (rfl : (sF (sA M 18 (ppg M k v)) 19 k (M.2.2 19 k + (if 20 ≤ M.2.2 19 k then 0 else 1))).1 29 = M.1 29)
  have i38 : M'.1 38 = M.1 38 := hM' ▸ (rfl : (sF (sA M 18 (ppg M k v)) 19 k (M.2.2 19 k + (if 20 ≤ M.2.2 19 k then 0 else 1))).1 38 = M.1 38)
  have i39 : M'.1 39 = M.1 39 := hM' ▸ (rfl : (sF (sA M 18 (ppg M k v)) 19 k (M.2.2 19 k + (if 20 ≤ M.2.2 19 k then 0 else 1))).1 39 = M.1 39)
  have i40 : M'.1 40 = M.1 40 := hM' ▸ (rfl : (sF (sA M 18 (ppg M k v)) 19 k (M.2.2 19 k + (if 20 ≤ M.2.2 19 k then 0 else 1))).1 40 = M.1 40)
  have i41 : M'.1 41 = M.1 41 := hM' ▸ (rfl : (sF (sA M 18 (ppg M k v)) 19 k (M.2.2 19 k + (if 20 ≤ M.2.2 19 k then 0 else 1))).1 41 = M.1 41)
  have i44 : M'.1 44 = M.1 44 := hM' ▸ (rfl : (sF (sA M 18 (ppg M k v)) 19 k (M.2.2 19 k + (if 20 ≤ M.2.2 19 k then 0 else 1))).1 44 = M.1 44)
  have i45 : M'.1 45 = M.1 45 := hM' ▸ (rfl : (sF (sA M 18 (ppg M k v)) 19 k (M.2.2 19 k + (if 20 ≤ M.2.2 19 k then 0 else 1))).1 45 = M.1 45)
  have l0 : M'.2.1 = M.2.1 := hM' ▸ (rfl : (sF (sA M 18 (ppg M k v)) 19 k (M.2.2 19 k + (if 20 ≤ M.2.2 19 k then 0 else 1))).2.1 = M.2.1)
  generalize hG' : gu (gu gi 0 k (fun _ => gi 0 k 0 + 1 - (gi 0 k 0 + 1) / 20 * 20)) 1 k (upd (gi 1 k) (gi 0 k 0).toNatClampNeg v) = gi' at *
  have g0 : ∀ i, i ≠ k → gi' 0 i = gi 0 i := fun i hi => by rw [← hG']; exact (if_neg (fun z => hi z.2) : gu gi 0 k (fun _ => gi 0 k 0 + 1 - (gi 0 k 0 + 1) / 20 * 20) 0 i = gi 0 i)
  have g1 : ∀ i, i ≠ k → gi' 1 i = gi 1 i := fun i hi => by rw [← hG']; exact if_neg (fun z => hi z.2)
  have gk0 : gi' 0 k 0 = gi 0 k 0 + 1 - (gi 0 k 0 + 1) / 20 * 20 := by rw [← hG']; exact congrFun (if_pos ⟨rfl, rfl⟩ : gu gi 0 k (fun _ => gi 0 k 0 + 1 - (gi 0 k 0 + 1) / 20 * 20) 0 k = _) 0
  have gk1 : gi' 1 k = upd (gi 1 k) (gi 0 k 0).toNatClampNeg v := by rw [← hG']; exact if_pos ⟨rfl, rfl⟩
  have x2 : gi' 2 = gi 2 := by rw [← hG']; rfl
  have x3 : gi' 3 = gi 3 := by rw [← hG']; rfl
  have x4 : gi' 4 = gi 4 := by rw [← hG']; rfl
  have x5 : gi' 5 = gi 5 := by rw [← hG']; rfl
  have x6 : gi' 6 = gi 6 := by rw [← hG']; rfl
  have x7 : gi' 7 = gi 7 := by rw [← hG']; rfl
  have n19 : ∀ i, i ≠ k → M'.2.2 19 i = M.2.2 19 i := fun i hi => by rw [f19]; exact upd_n hi
  have k19 : M'.2.2 19 k = M.2.2 19 k + (if 20 ≤ M.2.2 19 k then 0 else 1) := by rw [f19]; exact upd_s
  have hpk := hL.2.2.1 k ho h8
  have hnx := nx_v hpk.1
  have hkp := kp_v (hsg k ho.1)
  refine rl_addP hL (fun _ _ => False) (fun _ _ => False) (fun t i => (t = 13 ∧ i = k) ∨ (t = 14 ∧ i = k)) (fun _ _ h => h.elim) (fun _ _ _ _ h => h.elim) (fun _ _ h => h.elim) (fun t i hl hn0 hn1 => by
    match t, hl, hn0, hn1 with
    | 0, hl, hn0, hn1 => (have h := (show _ ∧ i = 0 from hl).2; subst h; exact ⟨lvf 0 (by decide), rfl⟩)
    | 1, hl, hn0, hn1 => (have h := (show _ ∧ i = 0 from hl).2; subst h; exact ⟨lvf 1 (by decide), rfl⟩)
    | 2, hl, hn0, hn1 => (have h := (show _ ∧ i = 0 from hl).2; subst h; exact ⟨lvf 2 (by decide), rfl⟩)
    | 3, hl, hn0, hn1 => (have h := (show _ ∧ i = 0 from hl).2; subst h; exact ⟨lvf 3 (by decide), rfl⟩)
    | 4, hl, hn0, hn1 => (have h := (show _ ∧ i = 0 from hl).2; subst h; exact ⟨lvf 4 (by decide), rfl⟩)
    | 5, hl, hn0, hn1 => (have h := (show _ ∧ i = 0 from hl).2; subst h; exact ⟨lvf 5 (by decide), rfl⟩)
    | 6, hl, hn0, hn1 => (have h := (show _ ∧ i = 0 from hl).2; subst h; exact ⟨lvf 6 (by decide), rfl⟩)
    | 7, hl, hn0, hn1 => (have h := (show _ ∧ i = 0 from hl).2; subst h; exact ⟨lvf 7 (by decide), rfl⟩)
    | 8, hl, hn0, hn1 => (have h := (show _ ∧ i = 0 from hl).2; subst h; exact ⟨lvf 8 (by decide), rfl⟩)
    | 9, hl, hn0, hn1 => (have h := (show _ ∧ i = 0 from hl).2; subst h; exact ⟨lvf 9 (by decide), rfl⟩)
    | 10, hl, hn0, hn1 => (have h := (show _ ∧ i = 0 from hl).2; subst h; exact ⟨lvf 10 (by decide), rfl⟩)
    | 11, hl, hn0, hn1 => exact ⟨(by have h : usd M' i := hl; unfold usd uA uF at h; rw [m1, m6, m8, m15] at h; exact h), rfl⟩
    | 12, hl, hn0, hn1 => exact ⟨(by have h : usd M' i := hl; unfold usd uA uF at h; rw [m1, m6, m8, m15] at h; exact h), rfl⟩
    | 13, hl, hn0, hn1 => exact ⟨(by have h : opn M' i := hl; unfold opn at h; rw [m6] at h; exact h), rfl⟩
    | 14, hl, hn0, hn1 => exact ⟨(by have h : opn M' i ∧ M'.2.2 8 i = 0 := hl; unfold opn at h; rw [m6, m8] at h; exact h), rfl⟩
    | 15, hl, hn0, hn1 => exact ⟨(by have h : isr M' i ∧ M'.2.2 34 i = nI i := hl; unfold isr at h; rw [i29, m34] at h; exact h), rfl⟩
    | 16, hl, hn0, hn1 => exact ⟨(by have h : isr M' i ∧ M'.2.2 34 i = nI i := hl; unfold isr at h; rw [i29, m34] at h; exact h), rfl⟩
    | 17, hl, hn0, hn1 => exact ⟨(by have h : isr M' i := hl; unfold isr at h; rw [i29] at h; exact h), rfl⟩
    | 18, hl, hn0, hn1 => exact ⟨(by have h : isr M' i ∧ M'.2.2 33 i = 0 := hl; unfold isr at h; rw [i29, m33] at h; exact h), rfl⟩
    | 19, hl, hn0, hn1 => exact ⟨(by have h : isr M' i ∧ M'.2.2 33 i = 0 := hl; unfold isr at h; rw [i29, m33] at h; exact h), rfl⟩
    | 20, hl, hn0, hn1 => exact ⟨(by have h : i < 4 ∧ 0 ≤ M'.2.2 23 i := hl; rw [m23] at h; exact h), rfl⟩
    | 21, hl, hn0, hn1 => exact ⟨(by have h : i < 4 ∧ 0 ≤ M'.2.2 23 i := hl; rw [m23] at h; exact h), rfl⟩
    | 22, hl, hn0, hn1 => exact ⟨(by have h : opn M' i ∧ M'.2.2 8 i = 3 := hl; unfold opn at h; rw [m6, m8] at h; exact h), rfl⟩
    | 23, hl, hn0, hn1 => exact ⟨(by have h : opn M' i ∧ M'.2.2 8 i = 3 := hl; unfold opn at h; rw [m6, m8] at h; exact h), rfl⟩
    | n + 24, hl, hn0, hn1 => exact absurd (show n + 24 ≤ 10 ∧ i = 0 from hl).1 (by omega)) ?_ ?_ (fun t i hl hn0 hn1 hn2 => by
    match t, hl, hn0, hn1, hn2 with
    | 0, hl, hn0, hn1, hn2 => (refine cc_0 ?_; rw [sAd_c m6, i20, i7, i29, i38, l0, i5])
    | 1, hl, hn0, hn1, hn2 => (refine cc_1 ?_; rw [cR_c m1 rfl])
    | 2, hl, hn0, hn1, hn2 => (refine cc_2 ?_; rw [cG_c m23 rfl])
    | 3, hl, hn0, hn1, hn2 => (refine cc_3 ?_; rw [cS_c m6])
    | 4, hl, hn0, hn1, hn2 => (refine cc_4 ?_; rw [cF_c i29 rfl])
    | 5, hl, hn0, hn1, hn2 => (refine cc_5 ?_; rw [i27, i28])
    | 6, hl, hn0, hn1, hn2 => (refine cc_6 ?_; rw [i39, i40, i44, i45, x3])
    | 7, hl, hn0, hn1, hn2 => (refine cc_7 ?_; rw [m42])
    | 8, hl, hn0, hn1, hn2 => (refine cc_8 ?_; rw [m43])
    | 9, hl, hn0, hn1, hn2 => (refine cc_9 ?_; rw [i26, x7])
    | 10, hl, hn0, hn1, hn2 => (refine cc_10 ?_; rw [x4])
    | 11, hl, hn0, hn1, hn2 => (refine cc_11 ?_; rw [m2])
    | 12, hl, hn0, hn1, hn2 => (refine cc_12 ?_; rw [m3, cArr_c m2 m3 m4])
    | 13, hl, hn0, hn1, hn2 => (have hi : i ≠ k := fun z => hn2 (Or.inl ⟨rfl, z⟩); refine cc_13 ?_; rw [cSI_c (M := M) (M' := M') (gi := gi) (gi' := gi') (k := i) (by rw [m8]) (by rw [m10]) (by rw [m9]) (by rw [m6]) (by rw [m11]) (by rw [m13]) (by rw [m14]) (by rw [m12]) (n19 i hi) (congrFun (g0 i hi) 0), sAd_c m6, m17, cX_c (M := M) (M' := M') (ad := ad) (ad' := ad) (k := i) (by rw [m8]) rfl (fun _ => by rw [m15]) (by rw [m16]) rfl rfl])
    | 14, hl, hn0, hn1, hn2 => (have hi : i ≠ k := fun z => hn2 (Or.inr ⟨rfl, z⟩); refine cc_14 ?_; rw [g1 i hi])
    | 15, hl, hn0, hn1, hn2 => (refine cc_15 ?_; rw [m36, m35])
    | 16, hl, hn0, hn1, hn2 => (refine cc_16 ?_; rw [x2])
    | 17, hl, hn0, hn1, hn2 => (refine cc_17 ?_; rw [m30, m33, m34])
    | 18, hl, hn0, hn1, hn2 => (refine cc_18 ?_; rfl)
    | 19, hl, hn0, hn1, hn2 => (refine cc_19 ?_; rw [m32, x5])
    | 20, hl, hn0, hn1, hn2 => (refine cc_20 ?_; rfl)
    | 21, hl, hn0, hn1, hn2 => (refine cc_21 ?_; rw [m23, cGiv_c m23 m24])
    | 22, hl, hn0, hn1, hn2 => (refine cc_22 ?_; rfl)
    | 23, hl, hn0, hn1, hn2 => (refine cc_23 ?_; rw [m12, x6])
    | n + 24, hl, hn0, hn1, hn2 => exact absurd (show n + 24 ≤ 10 ∧ i = 0 from hl).1 (by omega)) (fun _ _ h => h.elim) (fun _ _ h => h.elim) ?_ ?_
  · rintro t i (⟨rfl, rfl⟩ | ⟨rfl, rfl⟩)
    · exact ⟨ho, rfl⟩
    · exact ⟨⟨ho, h8⟩, rfl⟩
  · intro b _ hl
    exact h3 b (hl 13 k (Or.inl ⟨rfl, rfl⟩)) (hl 14 k (Or.inr ⟨rfl, rfl⟩))
  · rintro u i (⟨rfl, rfl⟩ | ⟨rfl, rfl⟩) _ _ _
    · show w' (ad 13 i) = some (sC (cSI M' gi' i) (sAd M' ad (M'.2.2 17 i)) (cX M' ad i))
      rw [sAd_c m6, m17, cX_c (M := M) (M' := M') (ad := ad) (ad' := ad) (k := i) (by rw [m8]) rfl (fun _ => by rw [m15]) (by rw [m16]) rfl rfl, cX_0 h8, h1]
      have e : cSI M' gi' i = upd (upd (cSI M gi i) 9 (gi 0 i 0 + 1 - (gi 0 i 0 + 1) / 20 * 20)) 10 (if 20 < M.2.2 19 i + 1 then 20 else M.2.2 19 i + 1) := by
        funext j
        match j with
        | 0 => exact congrFun m8 i
        | 1 => exact congrFun m10 i
        | 2 => exact congrFun m9 i
        | 3 => exact congrFun m6 i
        | 4 => exact congrFun m11 i
        | 5 => exact congrFun m13 i
        | 6 => exact congrFun m14 i
        | 7 => rfl
        | 8 => rfl
        | 9 =>
          show c9 M' gi' i = gi 0 i 0 + 1 - (gi 0 i 0 + 1) / 20 * 20
          rw [c9_0 (by rw [m8]; exact h8), gk0]
        | 10 =>
          show M'.2.2 19 i = if 20 < M.2.2 19 i + 1 then 20 else M.2.2 19 i + 1
          rw [k19, hkp.1]
        | j + 11 => exact ((upd_n (by omega) : upd (upd (cSI M gi i) 9 _) 10 _ (j + 11) = upd (cSI M gi i) 9 _ (j + 11)).trans (upd_n (by omega))).symm
      rw [e]
    · show w' (ad 14 i) = some (.inl (gA G 0, 20, .inl (gi' 1 i)))
      rw [gk1, h2]
  · refine ⟨?_, ?_, ?_, ?_, ?_, ?_⟩
    · intro i hoi hi8
      unfold opn at hoi
      rw [m6] at hoi
      rw [m8] at hi8
      by_cases hi : i = k
      · subst hi
        rw [gk0, gk1, k19, f18]
        refine ⟨hnx.1, fun a ha => ?_⟩
        obtain ⟨b1, b2⟩ := hkp.2 a ha
        rw [hnx.2]
        have hn19 := bt_iff.mp hpk.1
        have cn := cl_toInt (x := gi 0 i 0) hn19.1
        by_cases h0 : a = 0
        · subst h0
          have e1 : ((gi 0 i 0).toNatClampNeg + 1) % 20 + 39 - 0 = ((gi 0 i 0).toNatClampNeg + 1) % 20 + 39 := rfl
          rw [show (((gi 0 i 0).toNatClampNeg + 1) % 20 + 39 - 0) % 20 = (gi 0 i 0).toNatClampNeg by omega, upd_s]
          exact (if_pos rfl : ppg M i v (40 * i) = v).symm
        · have hd := hpk.2 (a - 1) (b2 h0)
          rw [show (((gi 0 i 0).toNatClampNeg + 1) % 20 + 39 - a) % 20 = ((gi 0 i 0).toNatClampNeg + 39 - (a - 1)) % 20 by omega, upd_n (by omega), hd]
          unfold ppg
          rw [if_neg (by omega), if_pos (by omega), show 40 * i + a - 1 = 40 * i + (a - 1) by omega]
      · rw [g0 i hi, g1 i hi, n19 i hi, f18]
        have h := hL.2.2.1 i hoi hi8
        refine ⟨h.1, fun a ha => ?_⟩
        have b19 := bt_iff.mp (hsg i hoi.1)
        rw [h.2 a ha]
        unfold ppg
        rw [if_neg (by omega), if_neg (by omega)]
    · unfold sd_f; rw [m37, x2]; exact hL.2.2.2.1
    · unfold sd_t; rw [i39, i40, i41, x3]; exact hL.2.2.2.2.1
    · unfold sd_n; rw [i26, m25, x4]; exact hL.2.2.2.2.2.1
    · unfold sd_s isr; rw [i29, m33, m32, m31, x5]; exact hL.2.2.2.2.2.2.1
    · intro i hoi hi8 a ha
      unfold opn at hoi
      rw [m6] at hoi
      rw [m8] at hi8
      rw [m12] at ha
      have b12 := bt_iff.mp (hls i hoi.1)
      have hik : i ≠ k := fun z => by rw [z, h8] at hi8; exact absurd hi8 (by decide)
      rw [f18, m9, x6, ← hL.2.2.2.2.2.2.2 i hoi hi8 a ha]
      unfold ppg
      rw [if_neg (by omega), if_neg (by omega)]
