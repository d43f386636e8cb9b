/-! the law's loop -/
section LWL
variable {G : GG} {p : Program} {l : Launch} {e : Env} {s : State} {m : MethodId} {below : List Frame} {meth : Method} {c : Code} {b L : Nat} {xs : Nat → Int32} {Q : State → Prop} {w wc : WM} {cells slots pc k : Nat} {lv : List (Nat × Value)} {rest : List Value} {q : Nat → Nat} {M : MS} {ad : AD} {gi : GI} {f : Nat → Int64} {oa ox om : Nat}
theorem law_step (hX : LX G p s m meth c b L xs) (hl : l.stackTraces = false) (hk : 6 * k + 6 ≤ L) (h : LQ G q oa ox om k M ad gi f wc w) (kk : LKK G p l e s m below meth c b Q q oa ox om k) : AWL G p l e s m below meth c b Q w (50 + 8 * k) (3300 + 100 * k) 33 (llv b ox om oa k) [] := by
  obtain ⟨X, hX1, hbl, hL⟩ := id hX
  refine aw_aload_n X dL_law_33 rfl rfl ?_
  refine aw_iload X dL_law_34 rfl ?_
  refine aw_sld X hX1 hbl (Nat.not_le.mpr hbl) (pk_in (6 * k) L (by omega) rfl (by omega)) dL_law_36 ?_
  refine aw_bipush X (v := 63) dL_law_37 (by decide) ?_
  refine aw_iand X dL_law_39 ?_
  generalize xs (nI (6 * k)).toNatClampNeg &&& 63 = x
  by_cases hx : bt x 0 34 = true
  · obtain ⟨n, hn, rfl, -⟩ := bt_nat (hi := 34) hx
    match n, hn with
    | 0, _ => exact aw_tableIn X (tgt := 196) dL_law_40 (by decide) (by decide) rfl rfl (law_c0 hX hk h kk)
    | 1, _ => exact aw_tableIn X (tgt := 245) dL_law_40 (by decide) (by decide) rfl rfl (law_c1 hX hk h kk)
    | 2, _ => exact aw_tableIn X (tgt := 282) dL_law_40 (by decide) (by decide) rfl rfl (law_c2 hX hk h kk)
    | 3, _ => exact aw_tableIn X (tgt := 343) dL_law_40 (by decide) (by decide) rfl rfl (law_c3 hX hk h kk)
    | 4, _ => exact aw_tableIn X (tgt := 393) dL_law_40 (by decide) (by decide) rfl rfl (law_c4 hX hk h kk)
    | 5, _ => exact aw_tableIn X (tgt := 442) dL_law_40 (by decide) (by decide) rfl rfl (law_c5 hX hk h kk)
    | 6, _ => exact aw_tableIn X (tgt := 479) dL_law_40 (by decide) (by decide) rfl rfl (law_c6 hX hk h kk)
    | 7, _ => exact aw_tableIn X (tgt := 552) dL_law_40 (by decide) (by decide) rfl rfl (law_c7 hX hk h kk)
    | 8, _ => exact aw_tableIn X (tgt := 565) dL_law_40 (by decide) (by decide) rfl rfl (law_c8 hX hk h kk)
    | 9, _ => exact aw_tableIn X (tgt := 642) dL_law_40 (by decide) (by decide) rfl rfl (law_c9 hX hk h kk)
    | 10, _ => exact aw_tableIn X (tgt := 707) dL_law_40 (by decide) (by decide) rfl rfl (law_c10 hX hk h kk)
    | 11, _ => exact aw_tableIn X (tgt := 760) dL_law_40 (by decide) (by decide) rfl rfl (law_c11 hX hk h kk)
    | 12, _ => exact aw_tableIn X (tgt := 797) dL_law_40 (by decide) (by decide) rfl rfl (law_c12 hX hk h kk)
    | 13, _ => exact aw_tableIn X (tgt := 834) dL_law_40 (by decide) (by decide) rfl rfl (law_c13 hX hk h kk)
    | 14, _ => exact aw_tableIn X (tgt := 859) dL_law_40 (by decide) (by decide) rfl rfl (law_c14 hX hk h kk)
    | 15, _ => exact aw_tableIn X (tgt := 908) dL_law_40 (by decide) (by decide) rfl rfl (law_c15 hX hk h kk)
    | 16, _ => exact aw_tableIn X (tgt := 933) dL_law_40 (by decide) (by decide) rfl rfl (law_c16 hX hk h kk)
    | 17, _ => exact aw_tableIn X (tgt := 970) dL_law_40 (by decide) (by decide) rfl rfl (law_c17 hX hk h kk)
    | 18, _ => exact aw_tableIn X (tgt := 1007) dL_law_40 (by decide) (by decide) rfl rfl (law_c18 hX hk h kk)
    | 19, _ => exact aw_tableIn X (tgt := 1044) dL_law_40 (by decide) (by decide) rfl rfl (law_c19 hX hk h kk)
    | 20, _ => exact aw_tableIn X (tgt := 1069) dL_law_40 (by decide) (by decide) rfl rfl (law_c20 hX hk h kk)
    | 21, _ => exact aw_tableIn X (tgt := 1094) dL_law_40 (by decide) (by decide) rfl rfl (law_c21 hX hk h kk)
    | 22, _ => exact aw_tableIn X (tgt := 1119) dL_law_40 (by decide) (by decide) rfl rfl (law_c22 hX hk h kk)
    | 23, _ => exact aw_tableIn X (tgt := 1144) dL_law_40 (by decide) (by decide) rfl rfl (law_c23 hX hk h kk)
    | 24, _ => exact aw_tableIn X (tgt := 1169) dL_law_40 (by decide) (by decide) rfl rfl (law_c24 hX hk h kk)
    | 25, _ => exact aw_tableIn X (tgt := 1194) dL_law_40 (by decide) (by decide) rfl rfl (law_c25 hX hk h kk)
    | 26, _ => exact aw_tableIn X (tgt := 1219) dL_law_40 (by decide) (by decide) rfl rfl (law_c26 hX hk h kk)
    | 27, _ => exact aw_tableIn X (tgt := 1244) dL_law_40 (by decide) (by decide) rfl rfl (law_c27 hX hk h kk)
    | 28, _ => exact aw_tableIn X (tgt := 1269) dL_law_40 (by decide) (by decide) rfl rfl (law_c28 hX hk h kk)
    | 29, _ => exact aw_tableIn X (tgt := 1338) dL_law_40 (by decide) (by decide) rfl rfl (law_c29 hX hk h kk)
    | 30, _ => exact aw_tableIn X (tgt := 1363) dL_law_40 (by decide) (by decide) rfl rfl (law_c30 hX hk h kk)
    | 31, _ => exact aw_tableIn X (tgt := 1400) dL_law_40 (by decide) (by decide) rfl rfl (law_c31 hX hk h kk)
    | 32, _ => exact aw_tableIn X (tgt := 1425) dL_law_40 (by decide) (by decide) rfl rfl (law_c32 hX hk h kk)
    | 33, _ => exact aw_tableIn X (tgt := 1438) dL_law_40 (by decide) (by decide) rfl rfl (law_c33 hX hk h kk)
    | 34, _ => exact aw_tableIn X (tgt := 1463) dL_law_40 (by decide) (by decide) rfl rfl (law_c34 hX hl hk h kk)
    | n + 35, hn => omega
  · refine aw_tableOut X (tgt := 1507) dL_law_40 ?_ rfl ?_
    · rw [bt_iff] at hx
      omega
    · exact aw_wid9 (by omega) (by omega) (kk M ad gi f wc w ⟨iv_up h.1, h.2⟩)
end LWL
