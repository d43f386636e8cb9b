/-! the law's share -/
theorem i64_t32 {a : Int64} (h0 : 0 ≤ a.toInt) (h1 : a.toInt < 2 ^ 31) : a.toInt32.toInt = a.toInt := by
  rw [Int64.toInt_toInt32]
  exact Int.bmod_eq_of_le (by omega) (by omega)
theorem sh_z {a : Int64} (h0 : 0 ≤ a.toInt) (h1 : a.toInt < 2 ^ 31) : a.toInt32 = 0 ↔ a = 0 := by
  have e := i64_t32 h0 h1
  rw [i32_eq, e]
  have z : (0 : Int32).toInt = 0 := rfl
  have z2 : (0 : Int64).toInt = 0 := rfl
  constructor
  · intro h
    exact Int64.toInt_inj.mp (by omega)
  · intro h
    rw [h]
    rfl
theorem sh_q {a d : Int64} (h0 : 0 ≤ a.toInt) (h1 : a.toInt < 2 ^ 31) (d0 : 0 < d.toInt) (d1 : d.toInt < 2 ^ 31) : a.toInt32 / d.toInt32 = (a / d).toInt32 := by
  have ea := i64_t32 h0 h1
  have ed := i64_t32 (a := d) (by omega) d1
  have hle : a.toInt / d.toInt ≤ a.toInt := Int.ediv_le_self _ h0
  have hge : 0 ≤ a.toInt / d.toInt := Int.ediv_nonneg h0 (by omega)
  have e1 : (a.toInt32 / d.toInt32).toInt = a.toInt / d.toInt := by
    rw [Int32.toInt_div, ea, ed, Int.tdiv_eq_ediv_of_nonneg h0]
    exact Int.bmod_eq_of_le (by omega) (by omega)
  have e2 : (a / d).toInt = a.toInt / d.toInt := by
    rw [Int64.toInt_div, Int.tdiv_eq_ediv_of_nonneg h0]
    exact Int.bmod_eq_of_le (by omega) (by omega)
  rw [i32_eq, e1, i64_t32 (by omega) (by omega), e2]
theorem rl_sh {G : GG} {M : MS} {ad : AD} {gi : GI} {w : WM} (h : RLa G M ad gi w) : RLa G (mo_share M).2 ad gi w := by
  unfold mo_share
  split
  · exact h
  · exact h
theorem sh_n (sig : MethodDescriptor) (h : parseMethodDescriptor yL_share.desc = some sig) : 2 = sig.parameters.length := by
  have h2 : (parseMethodDescriptor yL_share.desc).map (fun d => d.parameters.length) = some 2 := by decide +kernel
  rw [h] at h2
  exact (Option.some.inj h2).symm
section LWS
variable {G : GG} {p : Program} {l : Launch} {e : Env} {s : State} {m : MethodId} {below : List Frame} {meth : Method} {c : Code} {b L : Nat} {xs : Nat → Int32} {Q : State → Prop} {w wc : WM} {cells slots pc k : Nat} {lv : List (Nat × Value)} {rest : List Value} {q : Nat → Nat} {M : MS} {ad : AD} {gi : GI} {f : Nat → Int64} {oa ox om : Nat}
theorem law_cs (hX : LX G p s m meth c b L xs) (hl : l.stackTraces = false) (hD : LD G q M oa f wc w) (hR : RLa G M ad gi wc) (hW : (rest.map fun v => v.category).sum ≤ 8) (h1 : cells ≤ 10000) (h2 : slots ≤ 1000000) (hdg : decode code pc = .ok (.invokestatic 167, 3))
    (kk : ∀ (r : Int32) (w' : WM) (f' : Nat → Int64), (((M.2.1 22).toInt32 = 0 ∧ r = 1) ∨ (¬ (M.2.1 22).toInt32 = 0 ∧ r = 0 ∧ f' 0 = ((M.2.1 21).toInt32 / (M.2.1 22).toInt32).toInt64)) → LD G q M oa f' wc w' → AWL G p l e s m below meth c b Q w' (cells + 8) (slots + 100) (pc + 3) lv (.int r :: rest)) : AWL G p l e s m below meth c b Q w cells slots pc lv (.ref oa :: .ref (ad 0 0) :: rest) := by
  have X := hX.1
  have hO : w (ad 0 0) = some (.inr (11, [.ref (ad 1 0), .ref (ad 2 0), .ref (ad 3 0), .ref (ad 4 0), .ref (ad 5 0), .ref (ad 6 0), va_rf (sAd M ad (M.1 20)), .int (M.1 7), .int (M.1 29), .int (M.1 38), .int ((M.2.1 21).toInt32), .int ((M.2.1 22).toInt32), .int (M.1 5)])) := hD.1 _ _ (hR.1 0 0 (lvf 0 (by decide)))
  refine aw_runD (w1 := w) (mc := 1) (ms := 6) (rest := rest) (post := pS G w oa f (M.2.1 21).toInt32 (M.2.1 22).toInt32) (aa := [Value.ref (ad 0 0), Value.ref oa].toArray) X (fun _ _ h => h) (fun H locs ls hP hE hlv => ?_) (fun v w2 hp hd => ?_)
  · exact vx_runSW (Ts := lw_g) (hh := [(0, 8, 11, 13)]) (bytes := cL_share) (maxL := 3) (ret := some .int) (As := [.ref (ad 0 0), .ref oa]) (n := 2) ⟨X.1, X.2.1, X.2.2.1, X.2.2.2.1, X.2.2.2.2.1⟩ (kL_share G l hl w (ad 0 0) oa _ _ _ _ _ _ _ _ _ _ _ _ _ f hO hD.2.2.1 H.size)
      ⟨⟨rfl, rfl, by decide, by decide, fun z hz a' U hW' => by
        rcases List.mem_cons.mp hz with h | h
        · rw [h]; exact g_warm X.2.2.2.2.1 hW' _ cw_Ls
        · exact g_warm X.2.2.2.2.1 hW' _ h, List.mem_cons_self⟩, X.2.2.2.2.1 _ cw_Ls, X.2.2.2.2.1 _ in_L, ⟨by decide, by decide⟩, sh_n, X.2.2.2.2.1 _ ml_L_167, X.2.2.2.2.1 _ st_L_share⟩
      ⟨mcp_blind, mcp_at X.2.2.2.2.2.1 hP hE⟩ rfl rfl hlv.1 rfl (lv_room hW) hdg ⟨by show cells + 1 ≤ 601024; omega, by show slots + 6 ≤ 7293034; omega⟩
  · rw [wm_fr_self]
    by_cases hz : (M.2.1 22).toInt32 = 0
    · obtain ⟨rfl, rfl⟩ := hp.1 hz
      exact aw_wid9 (by omega) (by omega) (kk 1 w2 f (Or.inl ⟨hz, rfl⟩) hD)
    · obtain ⟨rfl, rfl⟩ := hp.2 hz
      exact aw_wid9 (by omega) (by omega) (kk 0 _ _ (Or.inr ⟨hz, rfl, rfl⟩) (ld_o hD))
theorem law_c34 (hX : LX G p s m meth c b L xs) (hl : l.stackTraces = false) (hk : 6 * k + 6 ≤ L) (h : LQ G q oa ox om k M ad gi f wc w) (kk : LKK G p l e s m below meth c b Q q oa ox om k) : AWL G p l e s m below meth c b Q w (50 + 8 * k) (3300 + 100 * k) 1463 (llv b ox om oa k) [] := by
  obtain ⟨hI, hR, rfl, hq, rfl, hD⟩ := h
  have hL := hX.2.2.2
  have X := hX.1
  have h9 := hI.2.2.2.2.2.2.2.2
  unfold G9 at h9
  refine aw_aload_n X dL_law_1463 rfl rfl ?_
  refine aw_aload_n X dL_law_1464 rfl rfl ?_
  refine law_cs hX hl hD hR (Nat.le_of_ble_eq_true rfl) (by omega) (by omega) dL_law_1465 (fun r w1 f1 hc hD1 => ?_)
  have e1 : (mo_share M).2.1 0 = r := by
    unfold mo_share
    rw [sh_z h9.2.2.1 (by omega)] at hc
    rcases hc with ⟨z, hr⟩ | ⟨z, hr, _⟩
    · rw [if_pos z, hr]; rfl
    · rw [if_neg z, hr]; rfl
  have e2 : r = 0 → f1 0 = ((mo_share M).1).toInt64 := by
    intro hr
    rcases hc with ⟨z, hr1⟩ | ⟨z, _, hf⟩
    · rw [hr1] at hr; exact absurd hr (by decide)
    · have z' := z
      rw [sh_z h9.2.2.1 (by omega)] at z'
      have hd : 0 < (M.2.1 22).toInt := by
        have : (M.2.1 22).toInt ≠ 0 := fun y => z' (Int64.toInt_inj.mp y)
        omega
      unfold mo_share
      rw [if_neg z', hf, sh_q h9.1 (by omega) hd (by omega)]
  have hR2 := rl_sh hR
  have hI2 := iv_share hI
  refine aw_istore X (lv' := (5, .int r) :: llv b (ad 0 0) (q 0) oa k) dL_law_1468 (by decide) rfl ?_
  refine aw_aload_n X dL_law_1470 rfl rfl ?_
  refine law_cm hX hD1 (kX11_share G l q M hq) okm_X11_share ml_L_172 im_X11_share se_X11_X11_share rfl rfl (Nat.le_of_ble_eq_true rfl) (Nat.le_of_ble_eq_true rfl) (Nat.le_of_ble_eq_true rfl) rfl rfl (by omega) (by omega) dL_law_1471 (fun w2 hD2 => ?_)
  refine aw_istore X (lv' := (6, .int (mo_share M).1) :: (5, .int r) :: llv b (ad 0 0) (q 0) oa k) dL_law_1474 (by decide) rfl ?_
  refine aw_aload_n X dL_law_1476 rfl rfl ?_
  refine law_cm hX hD2 (kX11_thrown G l q (mo_share M).2 hq) okm_X11_thrown ml_L_173 im_X11_thrown se_X11_X11_thrown rfl rfl (Nat.le_of_ble_eq_true rfl) (Nat.le_of_ble_eq_true rfl) (Nat.le_of_ble_eq_true rfl) rfl rfl (by omega) (by omega) dL_law_1477 (fun w3 hD3 => ?_)
  have fin : AWL G p l e s m below meth c b Q w3 (50 + 8 * k + 8) (3300 + 100 * k + 100) 1507 ((6, .int (mo_share M).1) :: (5, .int r) :: llv b (ad 0 0) (q 0) oa k) [] :=
    aw_lv9 [2, 3, 4, 5, 6] rfl (kk _ ad gi f1 wc w3 ⟨hI2, hR2, rfl, hq, rfl, hD3⟩)
  refine aw_iload X dL_law_1480 rfl ?_
  refine aw_icmp_eq X (tgt := 1487) dL_law_1482 rfl (fun _ => ?_) (fun z => absurd e1 z)
  refine aw_iload X dL_law_1487 rfl ?_
  refine aw_if_ne X (tgt := 1504) dL_law_1489 rfl (fun _ => ?_) (fun z => ?_)
  · exact aw_goto X (tgt := 1507) dL_law_1504 rfl fin
  · refine aw_aload_n X dL_law_1492 rfl rfl ?_
    refine aw_iconst X (v := 0) dL_law_1493 (by decide) ?_
    refine aw_lald X (n := 1) (f := f1) hD3.2.2.1 (vp_in_iff.mpr ⟨by decide, by decide⟩) dL_law_1494 ?_
    refine aw_iload X dL_law_1495 rfl ?_
    refine aw_i2l X dL_law_1497 ?_
    refine aw_lcmp X dL_law_1498 ?_
    refine aw_if_eq X (tgt := 1504) dL_law_1499 rfl (fun _ => ?_) (fun y => absurd ?_ y)
    · exact aw_goto X (tgt := 1507) dL_law_1504 rfl fin
    · have : f1 (0 : Int32).toNatClampNeg = ((mo_share M).1).toInt64 := e2 z
      rw [this]
      exact lg_self _
end LWS
