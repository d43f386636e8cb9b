/-! to the law's end -/
section LWE
variable {G : GG} {p : Program} {l : Launch} {e : Env} {s : State} {m : MethodId} {below : List Frame} {meth : Method} {c : Code} {b L : Nat} {xs : Nat → Int32}
theorem law_loop (hX : LX G p s m meth c b L xs) (hl : l.stackTraces = false) (hr : meth.sig.returnType = ret) (q : Nat → Nat) (oa ox om : Nat) : ∀ (d k : Nat) (M : MS) (ad : AD) (gi : GI) (f : Nat → Int64) (wc w : WM), L ≤ 6 * k + d → 6 * k ≤ L → LQ G q oa ox om k M ad gi f wc w → AWL G p l e s m below meth c b (lw_Z below #[Value.ref b] s) w (50 + 8 * k) (3300 + 100 * k) 23 (llv b ox om oa k) [] := by
  obtain ⟨X, hX1, hbl, hL⟩ := id hX
  intro d
  induction d with
  | zero =>
    intro k M ad gi f wc w hd hk h
    refine aw_iload X dL_law_23 rfl ?_
    refine aw_aload_n X dL_law_25 rfl rfl ?_
    refine aw_slen X hX1 hbl (Nat.not_le.mpr hbl) dL_law_26 ?_
    refine aw_bipush X (v := 6) dL_law_27 (by decide) ?_
    refine aw_isub X dL_law_29 ?_
    have eL : (Int32.ofNat L).toInt = (L : Int) := nI_toInt (n := L) (by omega)
    have es := ti_sub (a := Int32.ofNat L) (b := 6) (y := 6) eL rfl (by omega)
    have ek : (nI (6 * k)).toInt = ((6 * k : Nat) : Int) := nI_toInt (by omega)
    refine aw_icmp_gt X (tgt := 1513) dL_law_30 rfl (fun _ => ?_) (fun z => ?_)
    · refine aw_iconst X (v := 1) dL_law_1513 (by decide) ?_
      intro H locs ls hP hA hS hl'
      exact va_forget (fun q hq => hS.2.2 q hq) (W.widen (by omega) (by omega) (lw_ret X.1 X.2.1 hr X.2.2.2.2.2.2.1 dL_law_1514))
    · exfalso
      rw [i32_lt] at z
      omega
  | succ d ih =>
    intro k M ad gi f wc w hd hk h
    refine aw_iload X dL_law_23 rfl ?_
    refine aw_aload_n X dL_law_25 rfl rfl ?_
    refine aw_slen X hX1 hbl (Nat.not_le.mpr hbl) dL_law_26 ?_
    refine aw_bipush X (v := 6) dL_law_27 (by decide) ?_
    refine aw_isub X dL_law_29 ?_
    have eL : (Int32.ofNat L).toInt = (L : Int) := nI_toInt (n := L) (by omega)
    have es := ti_sub (a := Int32.ofNat L) (b := 6) (y := 6) eL rfl (by omega)
    have ek : (nI (6 * k)).toInt = ((6 * k : Nat) : Int) := nI_toInt (by omega)
    refine aw_icmp_gt X (tgt := 1513) dL_law_30 rfl (fun _ => ?_) (fun z => ?_)
    · refine aw_iconst X (v := 1) dL_law_1513 (by decide) ?_
      intro H locs ls hP hA hS hl'
      exact va_forget (fun q hq => hS.2.2 q hq) (W.widen (by omega) (by omega) (lw_ret X.1 X.2.1 hr X.2.2.2.2.2.2.1 dL_law_1514))
    · rw [i32_lt] at z
      have hk6 : 6 * k + 6 ≤ L := by omega
      refine law_step hX hl hk6 h (fun M' ad' gi' f' wc' w' h' => ?_)
      have e6 : nI (6 * k) + Int32.ofInt 6 = nI (6 * (k + 1)) := by
        show nI (6 * k) + nI 6 = _
        rw [nI_add]
        rfl
      refine aw_iinc X (lv' := llv b ox om oa (k + 1)) dL_law_1507 rfl e6 (by decide) rfl ?_
      refine aw_goto X (tgt := 23) dL_law_1510 rfl ?_
      exact aw_wid9 (by omega) (by omega) (ih (k + 1) M' ad' gi' f' wc' w' (by omega) (by omega) h')
end LWE
