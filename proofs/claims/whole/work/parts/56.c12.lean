/-! streams of files -/
theorem sC_6 {f' : Nat → Int32} {e x : Option Nat} (h' : f' 0 = 2) {l : List Value} (hl : l = sH f' e ++ [va_rf x, .int (f' 9)]) : (.inr (3, l) : va_E) = sC f' e x := by rw [sC_2 h', hl]
def wdt (wd : Int32) : Int32 := if wd = 0 then 1 else 4
theorem wdt_n0 (wd : Int32) : wdt wd ≠ 0 := by unfold wdt; split <;> decide
def fs_len (md wd ln : Int32) : Int32 := if md = 1 then 0 else if md = 5 then ln / wdt wd * wdt wd else ln
def fs_new (md wd ln : Int32) : Nat → Int32 := fun k => if k = 0 then 2 else if k = 1 then md else if k = 2 then wd else if k = 4 then (if md = 5 then ln / wdt wd else 0) else if k = 9 then wdt wd else 0
theorem i51 : ¬ (5 : Int32) = 1 := by decide
theorem i32_d1 (x : Int32) : x / 1 = x := Int32.div_one
set_option maxRecDepth 100000 in
set_option maxHeartbeats 4000000 in
theorem kX1_wholeSigns (G : GG) (l : Launch) (w : WM) (b xa : Nat) (a0 a1 wd a3 a4 a5 a6 a9 : Int32) (ec : Option Nat) (hO : w b = some (.inr (3, [.int a0, .int a1, .int wd, .int a3, .int a4, .int a5, .int a6, va_rf ec, .ref xa, .int a9]))) (aB : Nat) (ln th : Int32) (hI : w xa = some (.inr (10, [.ref aB, .int ln, .int th]))) : MC G l yX1_wholeSigns cX1_wholeSigns 1 ((Option.some .int)) ({ frames := 0, cells := 0, slots := 0, locals := 0 } : Room) [.ref b] w (fun v w' => v = some (.int (ln / wdt wd)) ∧ w' = w) := by
  refine mc_int (by decide) (Nat.le_of_ble_eq_true rfl) rfl rfl ?_
  intro p e s m args below meth c A H0 Q X hnm RTN
  have X : Cx G p s m args meth c A H0 cX1_wholeSigns 1 RX1 := X
  refine aw_aload_n X dX1_wholeSigns_0 rfl rfl ?_
  refine aw_get X okX1 (k := 2) hO (Nat.le_of_ble_eq_true rfl) fl_X1_31 (Or.inr sf_X1_wide) rfl dX1_wholeSigns_1 ?_
  refine aw_if_eq (tgt := 19) X dX1_wholeSigns_4 rfl (fun c4 => ?_) (fun c4 => ?_)
  · refine aw_aload_n X dX1_wholeSigns_19 rfl rfl ?_
    refine aw_get X okX1 (k := 8) hO (Nat.le_of_ble_eq_true rfl) fl_X1_9 (Or.inl rfl) rfl dX1_wholeSigns_20 ?_
    refine aw_get X okX8 (k := 1) hI (Nat.le_of_ble_eq_true rfl) fl_X1_19 (Or.inl rfl) rfl dX1_wholeSigns_23 ?_
    refine RTN (some (.int _)) _ _ _ _ _ dX1_wholeSigns_26 (⟨_, rfl⟩) (Nat.le_of_ble_eq_true rfl) (Nat.le_of_ble_eq_true rfl) ?_
    exact ⟨by rw [wdt, if_pos c4, i32_d1], rfl⟩
  · refine aw_aload_n X dX1_wholeSigns_7 rfl rfl ?_
    refine aw_get X okX1 (k := 8) hO (Nat.le_of_ble_eq_true rfl) fl_X1_9 (Or.inl rfl) rfl dX1_wholeSigns_8 ?_
    refine aw_get X okX8 (k := 1) hI (Nat.le_of_ble_eq_true rfl) fl_X1_19 (Or.inl rfl) rfl dX1_wholeSigns_11 ?_
    refine aw_iconst X dX1_wholeSigns_14 ci_4 ?_
    refine aw_idiv X dX1_wholeSigns_15 (by decide) ?_
    refine aw_goto (tgt := 26) X dX1_wholeSigns_16 rfl ?_
    refine RTN (some (.int _)) _ _ _ _ _ dX1_wholeSigns_26 (⟨_, rfl⟩) (Nat.le_of_ble_eq_true rfl) (Nat.le_of_ble_eq_true rfl) ?_
    exact ⟨by rw [wdt, if_neg c4], rfl⟩
set_option maxRecDepth 100000 in
set_option maxHeartbeats 4000000 in
theorem kX1_init (G : GG) (l : Launch) (w : WM) (b xa : Nat) (md wd : Int32) (hwd : wd = 0 ∨ wd = 1) (hO : w b = some (.inr (3, [.int 0, .int 0, .int 0, .int 0, .int 0, .int 0, .int 0, .null, .null, .int 0]))) (aB : Nat) (ln th : Int32) (hI : w xa = some (.inr (10, [.ref aB, .int ln, .int th]))) : MC G l yX1_init cX1_init 4 (none) ({ frames := 2, cells := 0, slots := 0, locals := 43 } : Room) [.ref b, .ref xa, .int md, .int wd] w (fun v w' => v = none ∧ w' b = some (sC (fs_new md wd ln) none (some xa)) ∧ w' xa = some (.inr (10, [.ref aB, .int (fs_len md wd ln), .int th])) ∧ ∀ c, c ≠ b → c ≠ xa → w' c = w c) := by
  refine mc_void (by decide) (Nat.le_of_ble_eq_true rfl) rfl rfl ?_
  intro p e s m args below meth c A H0 Q X hnm RTN
  have X : Cx G p s m args meth c A H0 cX1_init 4 RX1 := X
  have hin : meth.name = "<init>" := hnm
  refine aw_aload_n X dX1_init_0 rfl rfl ?_
  refine aw_iconst X dX1_init_1 ci_2 ?_
  refine aw_iload_n X dX1_init_2 rfl rfl ?_
  refine aw_iload_n X dX1_init_3 rfl rfl ?_
  refine aw_callI X (kX9_init_X1 _ _ _ _ _ _ _ hwd hO) okm_X9_init rfl ml_X1_3 im_X9_init rfl rfl (Nat.le_of_ble_eq_true rfl) ⟨Nat.le_of_ble_eq_true rfl, Nat.le_of_ble_eq_true rfl, Nat.le_of_ble_eq_true rfl, Nat.le_of_ble_eq_true rfl⟩ dX1_init_4 (fun v w2 hp => ?_)
  obtain ⟨rfl, hw1⟩ := hp
  have hk2 := (congrFun hw1 b).trans wm_ups
  have hk3 := ((congrFun hw1 xa).trans (wm_upn (ne_ci hI hO (by decide)))).trans hI
  refine aw_aload_n X dX1_init_7 rfl rfl ?_
  refine aw_aload_n X dX1_init_8 rfl rfl ?_
  refine aw_putF2 X hin okX1 (k := 8) (fs' := [.int 2, .int md, .int wd, .int 0, .int 0, .int 0, .int 0, .null, .ref xa, .int 0]) hk2 (Nat.le_of_ble_eq_true rfl) fl_X1_9 (Or.inl rfl) rfl rfl (rfl ) ( rfl) (Nat.le_of_ble_eq_true rfl) rfl dX1_init_9 (fun w4 hk5 hn6 he7 => ?_)
  have hk8 := (hn6 _ (ne_ci hk3 hk2 (by decide))).trans hk3
  refine aw_aload_n X dX1_init_12 rfl rfl ?_
  refine aw_iload_n X dX1_init_13 rfl rfl ?_
  refine aw_if_eq (tgt := 21) X dX1_init_14 rfl (fun c14 => ?_) (fun c14 => ?_)
  · refine aw_iconst X dX1_init_21 ci_1 ?_
    refine aw_putF2 X hin okX1 (k := 9) (fs' := [.int 2, .int md, .int wd, .int 0, .int 0, .int 0, .int 0, .null, .ref xa, .int 1]) hk5 (Nat.le_of_ble_eq_true rfl) fl_X1_15 (Or.inl rfl) rfl rfl (rfl ) ( rfl) (Nat.le_of_ble_eq_true rfl) rfl dX1_init_22 (fun w9 hk10 hn11 he12 => ?_)
    have hk13 := (hn11 _ (ne_ci hk8 hk5 (by decide))).trans hk8
    refine aw_iload_n X dX1_init_25 rfl rfl ?_
    refine aw_iconst X dX1_init_26 ci_1 ?_
    refine aw_icmp_ne (tgt := 35) X dX1_init_27 rfl (fun c27 => ?_) (fun c27 => ?_)
    · refine aw_iload_n X dX1_init_35 rfl rfl ?_
      refine aw_iconst X dX1_init_36 ci_5 ?_
      refine aw_icmp_ne (tgt := 61) X dX1_init_37 rfl (fun c37 => ?_) (fun c37 => ?_)
      · refine RTN (none) _ _ _ _ _ dX1_init_61 (rfl) (Nat.le_of_ble_eq_true rfl) (Nat.le_of_ble_eq_true rfl) ?_
        have hx : ∀ c, c ≠ b → c ≠ xa → w9 c = w c := fun c h1 h2 => by rw [he12, wm_upn h1, he7, wm_upn h1, hw1, wm_upn h1]
        refine ⟨rfl, ?_, ?_, hx⟩
        · rw [hk10]; refine congrArg some (sC_6 rfl ?_); show _ = ([.int 2, .int md, .int wd, .int 0, .int (if md = 5 then ln / wdt wd else 0), .int 0, .int 0, .null, .ref xa, .int (wdt wd)] : List Value); simp only [wdt, (eq_true c14), c27, c37, i51, if_true, if_false, not_true_eq_false, not_false_eq_true, and_self, true_and, and_true, false_and, and_false, or_true, true_or, or_false, false_or, reduceCtorEq, ne_eq, va_us, pk_us]
        · rw [hk13]; simp only [fs_len, wdt, (eq_true c14), c27, c37, i51, if_true, if_false, not_true_eq_false, not_false_eq_true, and_self, true_and, and_true, false_and, and_false, or_true, true_or, or_false, false_or, reduceCtorEq, ne_eq, va_us, pk_us]
      · refine aw_aload_n X dX1_init_40 rfl rfl ?_
        refine aw_aload_n X dX1_init_41 rfl rfl ?_
        refine aw_callV X (kX1_wholeSigns _ _ _ _ _ _ _ _ _ _ _ _ _ none hk10 _ _ _ hk13) okm_X1_wholeSigns okX1 hk10 ml_X1_24 im_X1_wholeSigns se_X1_X1_wholeSigns rfl rfl (Nat.le_of_ble_eq_true rfl) ⟨Nat.le_of_ble_eq_true rfl, Nat.le_of_ble_eq_true rfl, Nat.le_of_ble_eq_true rfl, Nat.le_of_ble_eq_true rfl⟩ dX1_init_42 (fun v w2 hp => ?_)
        obtain ⟨rfl, hw9⟩ := hp
        have hw9 := hw9.symm
        subst hw9
        refine aw_put2 X okX1 (k := 4) (fs' := [.int 2, .int md, .int wd, .int 0, .int (ln / wdt wd), .int 0, .int 0, .null, .ref xa, .int 1]) hk10 (Nat.le_of_ble_eq_true rfl) fl_X1_28 (Or.inr sf_X1_place) rfl (rfl ) ( rfl) (Nat.le_of_ble_eq_true rfl) rfl dX1_init_45 (fun w14 hk15 hn16 he17 => ?_)
        have hk18 := (hn16 _ (ne_ci hk13 hk10 (by decide))).trans hk13
        refine aw_aload_n X dX1_init_48 rfl rfl ?_
        refine aw_aload_n X dX1_init_49 rfl rfl ?_
        refine aw_get X okX1 (k := 4) hk15 (Nat.le_of_ble_eq_true rfl) fl_X1_28 (Or.inr sf_X1_place) rfl dX1_init_50 ?_
        refine aw_aload_n X dX1_init_53 rfl rfl ?_
        refine aw_get X okX1 (k := 9) hk15 (Nat.le_of_ble_eq_true rfl) fl_X1_15 (Or.inl rfl) rfl dX1_init_54 ?_
        refine aw_imul X dX1_init_57 ?_
        refine aw_put2 X okX8 (k := 1) (fs' := [.ref aB, .int ((ln / wdt wd) * 1), .int th]) hk18 (Nat.le_of_ble_eq_true rfl) fl_X1_19 (Or.inl rfl) rfl (rfl ) ( rfl) (Nat.le_of_ble_eq_true rfl) rfl dX1_init_58 (fun w19 hk20 hn21 he22 => ?_)
        have hk23 := (hn21 _ (ne_ci hk15 hk18 (by decide))).trans hk15
        refine RTN (none) _ _ _ _ _ dX1_init_61 (rfl) (Nat.le_of_ble_eq_true rfl) (Nat.le_of_ble_eq_true rfl) ?_
        have hx : ∀ c, c ≠ b → c ≠ xa → w19 c = w c := fun c h1 h2 => by rw [he22, wm_upn h2, he17, wm_upn h1, he12, wm_upn h1, he7, wm_upn h1, hw1, wm_upn h1]
        refine ⟨rfl, ?_, ?_, hx⟩
        · rw [hk23]; refine congrArg some (sC_6 rfl ?_); show _ = ([.int 2, .int md, .int wd, .int 0, .int (if md = 5 then ln / wdt wd else 0), .int 0, .int 0, .null, .ref xa, .int (wdt wd)] : List Value); simp only [wdt, (eq_true c14), c27, (eq_true c37), i51, if_true, if_false, not_true_eq_false, not_false_eq_true, and_self, true_and, and_true, false_and, and_false, or_true, true_or, or_false, false_or, reduceCtorEq, ne_eq, va_us, pk_us]
        · rw [hk20]; simp only [fs_len, wdt, (eq_true c14), c27, (eq_true c37), i51, if_true, if_false, not_true_eq_false, not_false_eq_true, and_self, true_and, and_true, false_and, and_false, or_true, true_or, or_false, false_or, reduceCtorEq, ne_eq, va_us, pk_us]
    · refine aw_aload_n X dX1_init_30 rfl rfl ?_
      refine aw_iconst X dX1_init_31 ci_0 ?_
      refine aw_put2 X okX8 (k := 1) (fs' := [.ref aB, .int 0, .int th]) hk13 (Nat.le_of_ble_eq_true rfl) fl_X1_19 (Or.inl rfl) rfl (rfl ) ( rfl) (Nat.le_of_ble_eq_true rfl) rfl dX1_init_32 (fun w24 hk25 hn26 he27 => ?_)
      have hk28 := (hn26 _ (ne_ci hk10 hk13 (by decide))).trans hk10
      refine aw_iload_n X dX1_init_35 rfl rfl ?_
      refine aw_iconst X dX1_init_36 ci_5 ?_
      refine aw_icmp_ne (tgt := 61) X dX1_init_37 rfl (fun c37 => ?_) (fun c37 => ?_)
      · refine RTN (none) _ _ _ _ _ dX1_init_61 (rfl) (Nat.le_of_ble_eq_true rfl) (Nat.le_of_ble_eq_true rfl) ?_
        have hx : ∀ c, c ≠ b → c ≠ xa → w24 c = w c := fun c h1 h2 => by rw [he27, wm_upn h2, he12, wm_upn h1, he7, wm_upn h1, hw1, wm_upn h1]
        refine ⟨rfl, ?_, ?_, hx⟩
        · rw [hk28]; refine congrArg some (sC_6 rfl ?_); show _ = ([.int 2, .int md, .int wd, .int 0, .int (if md = 5 then ln / wdt wd else 0), .int 0, .int 0, .null, .ref xa, .int (wdt wd)] : List Value); simp only [wdt, (eq_true c14), (eq_true c27), c37, i51, if_true, if_false, not_true_eq_false, not_false_eq_true, and_self, true_and, and_true, false_and, and_false, or_true, true_or, or_false, false_or, reduceCtorEq, ne_eq, va_us, pk_us]
        · rw [hk25]; simp only [fs_len, wdt, (eq_true c14), (eq_true c27), c37, i51, if_true, if_false, not_true_eq_false, not_false_eq_true, and_self, true_and, and_true, false_and, and_false, or_true, true_or, or_false, false_or, reduceCtorEq, ne_eq, va_us, pk_us]
      · exact absurd (c27.symm.trans c37) (by decide)
  · refine aw_iconst X dX1_init_17 ci_4 ?_
    refine aw_goto (tgt := 22) X dX1_init_18 rfl ?_
    refine aw_putF2 X hin okX1 (k := 9) (fs' := [.int 2, .int md, .int wd, .int 0, .int 0, .int 0, .int 0, .null, .ref xa, .int 4]) hk5 (Nat.le_of_ble_eq_true rfl) fl_X1_15 (Or.inl rfl) rfl rfl (rfl ) ( rfl) (Nat.le_of_ble_eq_true rfl) rfl dX1_init_22 (fun w29 hk30 hn31 he32 => ?_)
    have hk33 := (hn31 _ (ne_ci hk8 hk5 (by decide))).trans hk8
    refine aw_iload_n X dX1_init_25 rfl rfl ?_
    refine aw_iconst X dX1_init_26 ci_1 ?_
    refine aw_icmp_ne (tgt := 35) X dX1_init_27 rfl (fun c27 => ?_) (fun c27 => ?_)
    · refine aw_iload_n X dX1_init_35 rfl rfl ?_
      refine aw_iconst X dX1_init_36 ci_5 ?_
      refine aw_icmp_ne (tgt := 61) X dX1_init_37 rfl (fun c37 => ?_) (fun c37 => ?_)
      · refine RTN (none) _ _ _ _ _ dX1_init_61 (rfl) (Nat.le_of_ble_eq_true rfl) (Nat.le_of_ble_eq_true rfl) ?_
        have hx : ∀ c, c ≠ b → c ≠ xa → w29 c = w c := fun c h1 h2 => by rw [he32, wm_upn h1, he7, wm_upn h1, hw1, wm_upn h1]
        refine ⟨rfl, ?_, ?_, hx⟩
        · rw [hk30]; refine congrArg some (sC_6 rfl ?_); show _ = ([.int 2, .int md, .int wd, .int 0, .int (if md = 5 then ln / wdt wd else 0), .int 0, .int 0, .null, .ref xa, .int (wdt wd)] : List Value); simp only [wdt, c14, c27, c37, i51, if_true, if_false, not_true_eq_false, not_false_eq_true, and_self, true_and, and_true, false_and, and_false, or_true, true_or, or_false, false_or, reduceCtorEq, ne_eq, va_us, pk_us]
        · rw [hk33]; simp only [fs_len, wdt, c14, c27, c37, i51, if_true, if_false, not_true_eq_false, not_false_eq_true, and_self, true_and, and_true, false_and, and_false, or_true, true_or, or_false, false_or, reduceCtorEq, ne_eq, va_us, pk_us]
      · refine aw_aload_n X dX1_init_40 rfl rfl ?_
        refine aw_aload_n X dX1_init_41 rfl rfl ?_
        refine aw_callV X (kX1_wholeSigns _ _ _ _ _ _ _ _ _ _ _ _ _ none hk30 _ _ _ hk33) okm_X1_wholeSigns okX1 hk30 ml_X1_24 im_X1_wholeSigns se_X1_X1_wholeSigns rfl rfl (Nat.le_of_ble_eq_true rfl) ⟨Nat.le_of_ble_eq_true rfl, Nat.le_of_ble_eq_true rfl, Nat.le_of_ble_eq_true rfl, Nat.le_of_ble_eq_true rfl⟩ dX1_init_42 (fun v w2 hp => ?_)
        obtain ⟨rfl, hw9⟩ := hp
        have hw9 := hw9.symm
        subst hw9
        refine aw_put2 X okX1 (k := 4) (fs' := [.int 2, .int md, .int wd, .int 0, .int (ln / wdt wd), .int 0, .int 0, .null, .ref xa, .int 4]) hk30 (Nat.le_of_ble_eq_true rfl) fl_X1_28 (Or.inr sf_X1_place) rfl (rfl ) ( rfl) (Nat.le_of_ble_eq_true rfl) rfl dX1_init_45 (fun w34 hk35 hn36 he37 => ?_)
        have hk38 := (hn36 _ (ne_ci hk33 hk30 (by decide))).trans hk33
        refine aw_aload_n X dX1_init_48 rfl rfl ?_
        refine aw_aload_n X dX1_init_49 rfl rfl ?_
        refine aw_get X okX1 (k := 4) hk35 (Nat.le_of_ble_eq_true rfl) fl_X1_28 (Or.inr sf_X1_place) rfl dX1_init_50 ?_
        refine aw_aload_n X dX1_init_53 rfl rfl ?_
        refine aw_get X okX1 (k := 9) hk35 (Nat.le_of_ble_eq_true rfl) fl_X1_15 (Or.inl rfl) rfl dX1_init_54 ?_
        refine aw_imul X dX1_init_57 ?_
        refine aw_put2 X okX8 (k := 1) (fs' := [.ref aB, .int ((ln / wdt wd) * 4), .int th]) hk38 (Nat.le_of_ble_eq_true rfl) fl_X1_19 (Or.inl rfl) rfl (rfl ) ( rfl) (Nat.le_of_ble_eq_true rfl) rfl dX1_init_58 (fun w39 hk40 hn41 he42 => ?_)
        have hk43 := (hn41 _ (ne_ci hk35 hk38 (by decide))).trans hk35
        refine RTN (none) _ _ _ _ _ dX1_init_61 (rfl) (Nat.le_of_ble_eq_true rfl) (Nat.le_of_ble_eq_true rfl) ?_
        have hx : ∀ c, c ≠ b → c ≠ xa → w39 c = w c := fun c h1 h2 => by rw [he42, wm_upn h2, he37, wm_upn h1, he32, wm_upn h1, he7, wm_upn h1, hw1, wm_upn h1]
        refine ⟨rfl, ?_, ?_, hx⟩
        · rw [hk43]; refine congrArg some (sC_6 rfl ?_); show _ = ([.int 2, .int md, .int wd, .int 0, .int (if md = 5 then ln / wdt wd else 0), .int 0, .int 0, .null, .ref xa, .int (wdt wd)] : List Value); simp only [wdt, c14, c27, (eq_true c37), i51, if_true, if_false, not_true_eq_false, not_false_eq_true, and_self, true_and, and_true, false_and, and_false, or_true, true_or, or_false, false_or, reduceCtorEq, ne_eq, va_us, pk_us]
        · rw [hk40]; simp only [fs_len, wdt, c14, c27, (eq_true c37), i51, if_true, if_false, not_true_eq_false, not_false_eq_true, and_self, true_and, and_true, false_and, and_false, or_true, true_or, or_false, false_or, reduceCtorEq, ne_eq, va_us, pk_us]
    · refine aw_aload_n X dX1_init_30 rfl rfl ?_
      refine aw_iconst X dX1_init_31 ci_0 ?_
      refine aw_put2 X okX8 (k := 1) (fs' := [.ref aB, .int 0, .int th]) hk33 (Nat.le_of_ble_eq_true rfl) fl_X1_19 (Or.inl rfl) rfl (rfl ) ( rfl) (Nat.le_of_ble_eq_true rfl) rfl dX1_init_32 (fun w44 hk45 hn46 he47 => ?_)
      have hk48 := (hn46 _ (ne_ci hk30 hk33 (by decide))).trans hk30
      refine aw_iload_n X dX1_init_35 rfl rfl ?_
      refine aw_iconst X dX1_init_36 ci_5 ?_
      refine aw_icmp_ne (tgt := 61) X dX1_init_37 rfl (fun c37 => ?_) (fun c37 => ?_)
      · refine RTN (none) _ _ _ _ _ dX1_init_61 (rfl) (Nat.le_of_ble_eq_true rfl) (Nat.le_of_ble_eq_true rfl) ?_
        have hx : ∀ c, c ≠ b → c ≠ xa → w44 c = w c := fun c h1 h2 => by rw [he47, wm_upn h2, he32, wm_upn h1, he7, wm_upn h1, hw1, wm_upn h1]
        refine ⟨rfl, ?_, ?_, hx⟩
        · rw [hk48]; refine congrArg some (sC_6 rfl ?_); show _ = ([.int 2, .int md, .int wd, .int 0, .int (if md = 5 then ln / wdt wd else 0), .int 0, .int 0, .null, .ref xa, .int (wdt wd)] : List Value); simp only [wdt, c14, (eq_true c27), c37, i51, if_true, if_false, not_true_eq_false, not_false_eq_true, and_self, true_and, and_true, false_and, and_false, or_true, true_or, or_false, false_or, reduceCtorEq, ne_eq, va_us, pk_us]
        · rw [hk45]; simp only [fs_len, wdt, c14, (eq_true c27), c37, i51, if_true, if_false, not_true_eq_false, not_false_eq_true, and_self, true_and, and_true, false_and, and_false, or_true, true_or, or_false, false_or, reduceCtorEq, ne_eq, va_us, pk_us]
      · exact absurd (c27.symm.trans c37) (by decide)
set_option maxRecDepth 100000 in
set_option maxHeartbeats 4000000 in
theorem kX1_end (G : GG) (l : Launch) (w : WM) (b : Nat) (f : Nat → Int32) (ec : Option Nat) (xa : Nat) (hk : f 0 = 2) (hO0 : w b = some (sC f ec (some xa))) (aB : Nat) (ln th : Int32) (hI : w xa = some (.inr (10, [.ref aB, .int ln, .int th]))) : MC G l yX1_end cX1_end 1 ((Option.some .int)) ({ frames := 1, cells := 0, slots := 0, locals := 20 } : Room) [.ref b] w (fun v w' => v = some (.int (ln / wdt (f 2))) ∧ w' = w) := by
  refine mc_int (by decide) (Nat.le_of_ble_eq_true rfl) rfl rfl ?_
  intro p e s m args below meth c A H0 Q X hnm RTN
  have X : Cx G p s m args meth c A H0 cX1_end 1 RX1 := X
  have hO : w b = some (.inr (3, [.int (f 0), .int (f 1), .int (f 2), .int (f 3), .int (f 4), .int (f 5), .int (f 6), va_rf ec, .ref xa, .int (f 9)])) := by rw [hO0, sC_2 hk]; rfl
  refine aw_aload_n X dX1_end_0 rfl rfl ?_
  refine aw_callV X (kX1_wholeSigns _ _ _ _ _ _ _ _ _ _ _ _ _ ec hO _ _ _ hI) okm_X1_wholeSigns okX1 hO ml_X1_24 im_X1_wholeSigns se_X1_X1_wholeSigns rfl rfl (Nat.le_of_ble_eq_true rfl) ⟨Nat.le_of_ble_eq_true rfl, Nat.le_of_ble_eq_true rfl, Nat.le_of_ble_eq_true rfl, Nat.le_of_ble_eq_true rfl⟩ dX1_end_1 (fun v w2 hp => ?_)
  obtain ⟨rfl, hw9⟩ := hp
  have hw9 := hw9.symm
  subst hw9
  refine RTN (some (.int _)) _ _ _ _ _ dX1_end_4 (⟨_, rfl⟩) (Nat.le_of_ble_eq_true rfl) (Nat.le_of_ble_eq_true rfl) ?_
  exact ⟨rfl, rfl⟩
def fs_w1 (f : Nat → Int32) (c1 : Int32) (g : Nat → Int32) : Nat → Int32 := (upd g ((f 4 * 1) + 0).toNatClampNeg (vp_nar .byte ((c1 >>> (8 * (1 - 1 - 0) &&& 31)).toInt8.toInt32)))
def fs_r1 (f : Nat → Int32) (g : Nat → Int32) : Int32 := ((0 <<< ((8 : Int32) &&& 31)) ||| (g ((f 4 * 1) + 0).toNatClampNeg &&& 255))
theorem fs_ix1 {p i : Int32} (hp : bt p 0 60) (hi : bt i 0 0) (h : p * 1 + 1 ≤ 60) : vp_in (p * 1 + i) 60 := by
  have a1 := bt_iff.mp hp
  have a2 := bt_iff.mp hi
  rw [i32_le] at h
  have e60 : (60 : Int32).toInt = 60 := rfl
  have t1 := ti_mul (a := p) (b := 1) (y := 1) rfl rfl (by omega)
  have t2 := ti_add (b := 1) (y := 1) t1 rfl (by omega)
  have t3 := ti_add (b := i) t1 rfl (by omega)
  exact vp_in_iff.mpr ⟨by omega, by omega⟩
set_option maxRecDepth 100000 in
set_option maxHeartbeats 4000000 in
theorem kX1_write1 (G : GG) (l : Launch) (w : WM) (b : Nat) (f : Nat → Int32) (ec : Option Nat) (xa : Nat) (hk : f 0 = 2) (hO0 : w b = some (sC f ec (some xa))) (aB : Nat) (ln th : Int32) (hI : w xa = some (.inr (10, [.ref aB, .int ln, .int th]))) (g : Nat → Int32) (hV : w aB = some (.inl (gA G 1, 60, .inl g))) (h9 : f 9 = 1) (h4 : bt (f 4) 0 60) (c1 : Int32) : MC G l yX1_write cX1_write 4 ((Option.some .int)) ({ frames := 1, cells := 0, slots := 0, locals := 21 } : Room) [.ref b, .int c1] w (fun v w' => (¬ (¬ ((f 4 * 1) < 0) ∧ (f 4 * 1) + 1 ≤ 60) ∧ v = some (.int (-5)) ∧ w' = w) ∨ ((¬ ((f 4 * 1) < 0) ∧ (f 4 * 1) + 1 ≤ 60) ∧ v = some (.int 1) ∧ w' b = some (sC (upd f 4 (f 4 + 1)) ec (some xa)) ∧ w' xa = some (.inr (10, [.ref aB, .int (if ln < (f 4 * 1) + 1 then (f 4 * 1) + 1 else ln), .int th])) ∧ w' aB = some (.inl (gA G 1, 60, .inl (fs_w1 f c1 g))) ∧ ∀ c, c ≠ b → c ≠ xa → c ≠ aB → w' c = w c)) := by
  refine mc_int (by decide) (Nat.le_of_ble_eq_true rfl) rfl rfl ?_
  intro p e s m args below meth c A H0 Q X hnm RTN
  have X : Cx G p s m args meth c A H0 cX1_write 4 RX1 := X
  have hO : w b = some (.inr (3, [.int (f 0), .int (f 1), .int (f 2), .int (f 3), .int (f 4), .int (f 5), .int (f 6), va_rf ec, .ref xa, .int 1])) := by rw [hO0, sC_2 hk, h9]; rfl
  refine aw_aload_n X dX1_write_0 rfl rfl ?_
  refine aw_get X okX1 (k := 4) hO (Nat.le_of_ble_eq_true rfl) fl_X1_28 (Or.inr sf_X1_place) rfl dX1_write_1 ?_
  refine aw_aload_n X dX1_write_4 rfl rfl ?_
  refine aw_get X okX1 (k := 9) hO (Nat.le_of_ble_eq_true rfl) fl_X1_15 (Or.inl rfl) rfl dX1_write_5 ?_
  refine aw_imul X dX1_write_8 ?_
  refine aw_istore_n (lv' := [(2, _), (0, _), (1, _)]) X dX1_write_9 rfl (by decide) rfl ?_
  refine aw_iload_n X dX1_write_10 rfl rfl ?_
  refine aw_if_lt (tgt := 25) X dX1_write_11 rfl (fun c11 => ?_) (fun c11 => ?_)
  · refine aw_bipush X dX1_write_25 cb_m5 ?_
    refine RTN (some (.int _)) _ _ _ _ _ dX1_write_27 (⟨_, rfl⟩) (Nat.le_of_ble_eq_true rfl) (Nat.le_of_ble_eq_true rfl) ?_
    exact Or.inl ⟨fun h => h.1 c11, rfl, rfl⟩
  · refine aw_iload_n X dX1_write_14 rfl rfl ?_
    refine aw_aload_n X dX1_write_15 rfl rfl ?_
    refine aw_get X okX1 (k := 9) hO (Nat.le_of_ble_eq_true rfl) fl_X1_15 (Or.inl rfl) rfl dX1_write_16 ?_
    refine aw_iadd X dX1_write_19 ?_
    refine aw_bipush X dX1_write_20 cb_60 ?_
    refine aw_icmp_le (tgt := 28) X dX1_write_22 rfl (fun c22 => ?_) (fun c22 => ?_)
    · refine aw_iconst X dX1_write_28 ci_0 ?_
      refine aw_istore_n (lv' := [(3, _), (2, _), (0, _), (1, _)]) X dX1_write_29 rfl (by decide) rfl ?_
      refine aw_iload_n X dX1_write_30 rfl rfl ?_
      refine aw_aload_n X dX1_write_31 rfl rfl ?_
      refine aw_get X okX1 (k := 9) hO (Nat.le_of_ble_eq_true rfl) fl_X1_15 (Or.inl rfl) rfl dX1_write_32 ?_
      refine aw_icmp_ge (tgt := 69) X dX1_write_35 rfl (fun c35 => ?_) (fun c35 => ?_)
      · exact absurd c35 (by decide)
      · refine aw_aload_n X dX1_write_38 rfl rfl ?_
        refine aw_get X okX1 (k := 8) hO (Nat.le_of_ble_eq_true rfl) fl_X1_9 (Or.inl rfl) rfl dX1_write_39 ?_
        refine aw_get X okX8 (k := 0) hI (Nat.le_of_ble_eq_true rfl) fl_X1_35 (Or.inl rfl) rfl dX1_write_42 ?_
        refine aw_iload_n X dX1_write_45 rfl rfl ?_
        refine aw_iload_n X dX1_write_46 rfl rfl ?_
        refine aw_iadd X dX1_write_47 ?_
        refine aw_iload_n X dX1_write_48 rfl rfl ?_
        refine aw_bipush X dX1_write_49 cb_8 ?_
        refine aw_aload_n X dX1_write_51 rfl rfl ?_
        refine aw_get X okX1 (k := 9) hO (Nat.le_of_ble_eq_true rfl) fl_X1_15 (Or.inl rfl) rfl dX1_write_52 ?_
        refine aw_iconst X dX1_write_55 ci_1 ?_
        refine aw_isub X dX1_write_56 ?_
        refine aw_iload_n X dX1_write_57 rfl rfl ?_
        refine aw_isub X dX1_write_58 ?_
        refine aw_imul X dX1_write_59 ?_
        refine aw_ishr X dX1_write_60 ?_
        refine aw_i2b X dX1_write_61 ?_
        refine aw_bast2 X hV (fs_ix1 h4 (i := 0) (by decide) c22) dX1_write_62 (fun w49 hk50 hn51 he52 => ?_)
        have hk53 := (hn51 _ (ne_oa hO hV)).trans hO
        have hk54 := (hn51 _ (ne_oa hI hV)).trans hI
        refine aw_iinc (v := 1) (lv' := [(3, _), (2, _), (0, _), (1, _)]) X dX1_write_63 rfl (by decide) (by decide) rfl ?_
        refine aw_goto (tgt := 30) X dX1_write_66 rfl ?_
        refine aw_iload_n X dX1_write_30 rfl rfl ?_
        refine aw_aload_n X dX1_write_31 rfl rfl ?_
        refine aw_get X okX1 (k := 9) hk53 (Nat.le_of_ble_eq_true rfl) fl_X1_15 (Or.inl rfl) rfl dX1_write_32 ?_
        refine aw_icmp_ge (tgt := 69) X dX1_write_35 rfl (fun c35 => ?_) (fun c35 => ?_)
        · refine aw_aload_n X dX1_write_69 rfl rfl ?_
          refine aw_get X okX1 (k := 8) hk53 (Nat.le_of_ble_eq_true rfl) fl_X1_9 (Or.inl rfl) rfl dX1_write_70 ?_
          refine aw_aload_n X dX1_write_73 rfl rfl ?_
          refine aw_get X okX1 (k := 8) hk53 (Nat.le_of_ble_eq_true rfl) fl_X1_9 (Or.inl rfl) rfl dX1_write_74 ?_
          refine aw_get X okX8 (k := 1) hk54 (Nat.le_of_ble_eq_true rfl) fl_X1_19 (Or.inl rfl) rfl dX1_write_77 ?_
          refine aw_iload_n X dX1_write_80 rfl rfl ?_
          refine aw_aload_n X dX1_write_81 rfl rfl ?_
          refine aw_get X okX1 (k := 9) hk53 (Nat.le_of_ble_eq_true rfl) fl_X1_15 (Or.inl rfl) rfl dX1_write_82 ?_
          refine aw_iadd X dX1_write_85 ?_
          refine aw_callS X (kJ9_max_7cf53 _ _ _ _ _) okm_J9_max_7cf53 ml_X1_39 st_J9_max_7cf53 rfl rfl (Nat.le_of_ble_eq_true rfl) ⟨Nat.le_of_ble_eq_true rfl, Nat.le_of_ble_eq_true rfl, Nat.le_of_ble_eq_true rfl, Nat.le_of_ble_eq_true rfl⟩ dX1_write_86 (fun v w2 hp => ?_)
          obtain ⟨rfl, hw9⟩ := hp
          have hw9 := hw9.symm
          subst hw9
          refine aw_put2 X okX8 (k := 1) (fs' := [.ref aB, .int (if ln < (((f 4) * 1) + 1) then (((f 4) * 1) + 1) else ln), .int th]) hk54 (Nat.le_of_ble_eq_true rfl) fl_X1_19 (Or.inl rfl) rfl (rfl ) ( rfl) (Nat.le_of_ble_eq_true rfl) rfl dX1_write_89 (fun w55 hk56 hn57 he58 => ?_)
          have hk59 := (hn57 _ (ne_ci hk53 hk54 (by decide))).trans hk53
          have hk60 := (hn57 _ (Ne.symm (ne_oa hk54 hk50))).trans hk50
          refine aw_aload_n X dX1_write_92 rfl rfl ?_
          refine aw_dup X dX1_write_93 rfl ?_
          refine aw_get X okX1 (k := 4) hk59 (Nat.le_of_ble_eq_true rfl) fl_X1_28 (Or.inr sf_X1_place) rfl dX1_write_94 ?_
          refine aw_iconst X dX1_write_97 ci_1 ?_
          refine aw_iadd X dX1_write_98 ?_
          refine aw_put2 X okX1 (k := 4) (fs' := [.int (f 0), .int (f 1), .int (f 2), .int (f 3), .int ((f 4) + 1), .int (f 5), .int (f 6), va_rf ec, .ref xa, .int 1]) hk59 (Nat.le_of_ble_eq_true rfl) fl_X1_28 (Or.inr sf_X1_place) rfl (rfl ) ( rfl) (Nat.le_of_ble_eq_true rfl) rfl dX1_write_99 (fun w61 hk62 hn63 he64 => ?_)
          have hk65 := (hn63 _ (ne_ci hk56 hk59 (by decide))).trans hk56
          have hk66 := (hn63 _ (Ne.symm (ne_oa hk59 hk60))).trans hk60
          refine aw_iconst X dX1_write_102 ci_1 ?_
          refine RTN (some (.int _)) _ _ _ _ _ dX1_write_103 (⟨_, rfl⟩) (Nat.le_of_ble_eq_true rfl) (Nat.le_of_ble_eq_true rfl) ?_
          refine Or.inr ⟨⟨c11, c22⟩, rfl, ?_, hk65, hk66, fun c h1 h2 h3 => by rw [he64, wm_upn h1, he58, wm_upn h2, he52, wm_upn h3]⟩
          rw [hk62]; refine congrArg some (sC_6 (by show f 0 = 2; exact hk) ?_); show _ = sH (upd f 4 (f 4 + 1)) ec ++ [va_rf (some xa), .int (f 9)]; rw [h9]; rfl
        · exact absurd c35 (by decide)
    · refine aw_bipush X dX1_write_25 cb_m5 ?_
      refine RTN (some (.int _)) _ _ _ _ _ dX1_write_27 (⟨_, rfl⟩) (Nat.le_of_ble_eq_true rfl) (Nat.le_of_ble_eq_true rfl) ?_
      exact Or.inl ⟨fun h => c22 h.2, rfl, rfl⟩
set_option maxRecDepth 100000 in
set_option maxHeartbeats 4000000 in
theorem kX1_read1 (G : GG) (l : Launch) (w : WM) (b : Nat) (f : Nat → Int32) (ec : Option Nat) (xa : Nat) (hk : f 0 = 2) (hO0 : w b = some (sC f ec (some xa))) (aB : Nat) (ln th : Int32) (hI : w xa = some (.inr (10, [.ref aB, .int ln, .int th]))) (g : Nat → Int32) (hV : w aB = some (.inl (gA G 1, 60, .inl g))) (h9 : f 9 = 1) (h4 : bt (f 4) 0 60) : MC G l yX1_read cX1_read 4 ((Option.some .int)) ({ frames := 3, cells := 0, slots := 0, locals := 63 } : Room) [.ref b] w (fun v w' => v = some (.int (if (¬ ((f 4 * 1) < 0) ∧ (f 4 * 1) + 1 ≤ 60) then cl_sgn (fs_r1 f g) else (-1))) ∧ w' = w) := by
  refine mc_int (by decide) (Nat.le_of_ble_eq_true rfl) rfl rfl ?_
  intro p e s m args below meth c A H0 Q X hnm RTN
  have X : Cx G p s m args meth c A H0 cX1_read 4 RX1 := X
  have hO : w b = some (.inr (3, [.int (f 0), .int (f 1), .int (f 2), .int (f 3), .int (f 4), .int (f 5), .int (f 6), va_rf ec, .ref xa, .int 1])) := by rw [hO0, sC_2 hk, h9]; rfl
  refine aw_aload_n X dX1_read_0 rfl rfl ?_
  refine aw_get X okX1 (k := 4) hO (Nat.le_of_ble_eq_true rfl) fl_X1_28 (Or.inr sf_X1_place) rfl dX1_read_1 ?_
  refine aw_aload_n X dX1_read_4 rfl rfl ?_
  refine aw_get X okX1 (k := 9) hO (Nat.le_of_ble_eq_true rfl) fl_X1_15 (Or.inl rfl) rfl dX1_read_5 ?_
  refine aw_imul X dX1_read_8 ?_
  refine aw_istore_n (lv' := [(1, _), (0, _)]) X dX1_read_9 rfl (by decide) rfl ?_
  refine aw_iload_n X dX1_read_10 rfl rfl ?_
  refine aw_if_lt (tgt := 25) X dX1_read_11 rfl (fun c11 => ?_) (fun c11 => ?_)
  · refine aw_iconst X dX1_read_25 ci_m1 ?_
    refine RTN (some (.int _)) _ _ _ _ _ dX1_read_26 (⟨_, rfl⟩) (Nat.le_of_ble_eq_true rfl) (Nat.le_of_ble_eq_true rfl) ?_
    exact ⟨by rw [if_neg (fun h => h.1 c11)], rfl⟩
  · refine aw_iload_n X dX1_read_14 rfl rfl ?_
    refine aw_aload_n X dX1_read_15 rfl rfl ?_
    refine aw_get X okX1 (k := 9) hO (Nat.le_of_ble_eq_true rfl) fl_X1_15 (Or.inl rfl) rfl dX1_read_16 ?_
    refine aw_iadd X dX1_read_19 ?_
    refine aw_bipush X dX1_read_20 cb_60 ?_
    refine aw_icmp_le (tgt := 27) X dX1_read_22 rfl (fun c22 => ?_) (fun c22 => ?_)
    · refine aw_iconst X dX1_read_27 ci_0 ?_
      refine aw_istore_n (lv' := [(2, _), (1, _), (0, _)]) X dX1_read_28 rfl (by decide) rfl ?_
      refine aw_iconst X dX1_read_29 ci_0 ?_
      refine aw_istore_n (lv' := [(3, _), (2, _), (1, _), (0, _)]) X dX1_read_30 rfl (by decide) rfl ?_
      refine aw_iload_n X dX1_read_31 rfl rfl ?_
      refine aw_aload_n X dX1_read_32 rfl rfl ?_
      refine aw_get X okX1 (k := 9) hO (Nat.le_of_ble_eq_true rfl) fl_X1_15 (Or.inl rfl) rfl dX1_read_33 ?_
      refine aw_icmp_ge (tgt := 66) X dX1_read_36 rfl (fun c36 => ?_) (fun c36 => ?_)
      · exact absurd c36 (by decide)
      · refine aw_iload_n X dX1_read_39 rfl rfl ?_
        refine aw_bipush X dX1_read_40 cb_8 ?_
        refine aw_ishl X dX1_read_42 ?_
        refine aw_aload_n X dX1_read_43 rfl rfl ?_
        refine aw_get X okX1 (k := 8) hO (Nat.le_of_ble_eq_true rfl) fl_X1_9 (Or.inl rfl) rfl dX1_read_44 ?_
        refine aw_get X okX8 (k := 0) hI (Nat.le_of_ble_eq_true rfl) fl_X1_35 (Or.inl rfl) rfl dX1_read_47 ?_
        refine aw_iload_n X dX1_read_50 rfl rfl ?_
        refine aw_iload_n X dX1_read_51 rfl rfl ?_
        refine aw_iadd X dX1_read_52 ?_
        refine aw_bald X hV (fs_ix1 h4 (i := 0) (by decide) c22) dX1_read_53 ?_
        refine aw_sipush X dX1_read_54 cs_255 ?_
        refine aw_iand X dX1_read_57 ?_
        refine aw_ior X dX1_read_58 ?_
        refine aw_istore_n (lv' := [(2, _), (3, _), (1, _), (0, _)]) X dX1_read_59 rfl (by decide) rfl ?_
        refine aw_iinc (v := 1) (lv' := [(3, _), (2, _), (1, _), (0, _)]) X dX1_read_60 rfl (by decide) (by decide) rfl ?_
        refine aw_goto (tgt := 31) X dX1_read_63 rfl ?_
        refine aw_iload_n X dX1_read_31 rfl rfl ?_
        refine aw_aload_n X dX1_read_32 rfl rfl ?_
        refine aw_get X okX1 (k := 9) hO (Nat.le_of_ble_eq_true rfl) fl_X1_15 (Or.inl rfl) rfl dX1_read_33 ?_
        refine aw_icmp_ge (tgt := 66) X dX1_read_36 rfl (fun c36 => ?_) (fun c36 => ?_)
        · refine aw_iload_n X dX1_read_66 rfl rfl ?_
          refine aw_callSN X (kX10_signOf _ _ _ _) okm_X10_signOf mn_X1_45 st_X10_signOf rfl rfl (Nat.le_of_ble_eq_true rfl) ⟨Nat.le_of_ble_eq_true rfl, Nat.le_of_ble_eq_true rfl, Nat.le_of_ble_eq_true rfl, Nat.le_of_ble_eq_true rfl⟩ dX1_read_67 (fun v w2 hp => ?_)
          obtain ⟨rfl, hw9⟩ := hp
          have hw9 := hw9.symm
          subst hw9
          refine RTN (some (.int _)) _ _ _ _ _ dX1_read_70 (⟨_, rfl⟩) (Nat.le_of_ble_eq_true rfl) (Nat.le_of_ble_eq_true rfl) ?_
          exact ⟨by rw [if_pos ⟨c11, c22⟩]; rfl, rfl⟩
        · exact absurd c36 (by decide)
    · refine aw_iconst X dX1_read_25 ci_m1 ?_
      refine RTN (some (.int _)) _ _ _ _ _ dX1_read_26 (⟨_, rfl⟩) (Nat.le_of_ble_eq_true rfl) (Nat.le_of_ble_eq_true rfl) ?_
      exact ⟨by rw [if_neg (fun h => c22 h.2)], rfl⟩
def fs_w4 (f : Nat → Int32) (c1 : Int32) (g : Nat → Int32) : Nat → Int32 := (upd (upd (upd (upd g ((f 4 * 4) + 0).toNatClampNeg (vp_nar .byte ((c1 >>> (8 * (4 - 1 - 0) &&& 31)).toInt8.toInt32))) ((f 4 * 4) + 1).toNatClampNeg (vp_nar .byte ((c1 >>> (8 * (4 - 1 - 1) &&& 31)).toInt8.toInt32))) ((f 4 * 4) + 2).toNatClampNeg (vp_nar .byte ((c1 >>> (8 * (4 - 1 - 2) &&& 31)).toInt8.toInt32))) ((f 4 * 4) + 3).toNatClampNeg (vp_nar .byte ((c1 >>> (8 * (4 - 1 - 3) &&& 31)).toInt8.toInt32)))
def fs_r4 (f : Nat → Int32) (g : Nat → Int32) : Int32 := ((((((((0 <<< ((8 : Int32) &&& 31)) ||| (g ((f 4 * 4) + 0).toNatClampNeg &&& 255)) <<< ((8 : Int32) &&& 31)) ||| (g ((f 4 * 4) + 1).toNatClampNeg &&& 255)) <<< ((8 : Int32) &&& 31)) ||| (g ((f 4 * 4) + 2).toNatClampNeg &&& 255)) <<< ((8 : Int32) &&& 31)) ||| (g ((f 4 * 4) + 3).toNatClampNeg &&& 255))
theorem fs_ix4 {p i : Int32} (hp : bt p 0 60) (hi : bt i 0 3) (h : p * 4 + 4 ≤ 60) : vp_in (p * 4 + i) 60 := by
  have a1 := bt_iff.mp hp
  have a2 := bt_iff.mp hi
  rw [i32_le] at h
  have e60 : (60 : Int32).toInt = 60 := rfl
  have t1 := ti_mul (a := p) (b := 4) (y := 4) rfl rfl (by omega)
  have t2 := ti_add (b := 4) (y := 4) t1 rfl (by omega)
  have t3 := ti_add (b := i) t1 rfl (by omega)
  exact vp_in_iff.mpr ⟨by omega, by omega⟩
set_option maxRecDepth 100000 in
set_option maxHeartbeats 4000000 in
theorem kX1_write4 (G : GG) (l : Launch) (w : WM) (b : Nat) (f : Nat → Int32) (ec : Option Nat) (xa : Nat) (hk : f 0 = 2) (hO0 : w b = some (sC f ec (some xa))) (aB : Nat) (ln th : Int32) (hI : w xa = some (.inr (10, [.ref aB, .int ln, .int th]))) (g : Nat → Int32) (hV : w aB = some (.inl (gA G 1, 60, .inl g))) (h9 : f 9 = 4) (h4 : bt (f 4) 0 60) (c1 : Int32) : MC G l yX1_write cX1_write 4 ((Option.some .int)) ({ frames := 1, cells := 0, slots := 0, locals := 21 } : Room) [.ref b, .int c1] w (fun v w' => (¬ (¬ ((f 4 * 4) < 0) ∧ (f 4 * 4) + 4 ≤ 60) ∧ v = some (.int (-5)) ∧ w' = w) ∨ ((¬ ((f 4 * 4) < 0) ∧ (f 4 * 4) + 4 ≤ 60) ∧ v = some (.int 1) ∧ w' b = some (sC (upd f 4 (f 4 + 1)) ec (some xa)) ∧ w' xa = some (.inr (10, [.ref aB, .int (if ln < (f 4 * 4) + 4 then (f 4 * 4) + 4 else ln), .int th])) ∧ w' aB = some (.inl (gA G 1, 60, .inl (fs_w4 f c1 g))) ∧ ∀ c, c ≠ b → c ≠ xa → c ≠ aB → w' c = w c)) := by
  refine mc_int (by decide) (Nat.le_of_ble_eq_true rfl) rfl rfl ?_
  intro p e s m args below meth c A H0 Q X hnm RTN
  have X : Cx G p s m args meth c A H0 cX1_write 4 RX1 := X
  have hO : w b = some (.inr (3, [.int (f 0), .int (f 1), .int (f 2), .int (f 3), .int (f 4), .int (f 5), .int (f 6), va_rf ec, .ref xa, .int 4])) := by rw [hO0, sC_2 hk, h9]; rfl
  refine aw_aload_n X dX1_write_0 rfl rfl ?_
  refine aw_get X okX1 (k := 4) hO (Nat.le_of_ble_eq_true rfl) fl_X1_28 (Or.inr sf_X1_place) rfl dX1_write_1 ?_
  refine aw_aload_n X dX1_write_4 rfl rfl ?_
  refine aw_get X okX1 (k := 9) hO (Nat.le_of_ble_eq_true rfl) fl_X1_15 (Or.inl rfl) rfl dX1_write_5 ?_
  refine aw_imul X dX1_write_8 ?_
  refine aw_istore_n (lv' := [(2, _), (0, _), (1, _)]) X dX1_write_9 rfl (by decide) rfl ?_
  refine aw_iload_n X dX1_write_10 rfl rfl ?_
  refine aw_if_lt (tgt := 25) X dX1_write_11 rfl (fun c11 => ?_) (fun c11 => ?_)
  · refine aw_bipush X dX1_write_25 cb_m5 ?_
    refine RTN (some (.int _)) _ _ _ _ _ dX1_write_27 (⟨_, rfl⟩) (Nat.le_of_ble_eq_true rfl) (Nat.le_of_ble_eq_true rfl) ?_
    exact Or.inl ⟨fun h => h.1 c11, rfl, rfl⟩
  · refine aw_iload_n X dX1_write_14 rfl rfl ?_
    refine aw_aload_n X dX1_write_15 rfl rfl ?_
    refine aw_get X okX1 (k := 9) hO (Nat.le_of_ble_eq_true rfl) fl_X1_15 (Or.inl rfl) rfl dX1_write_16 ?_
    refine aw_iadd X dX1_write_19 ?_
    refine aw_bipush X dX1_write_20 cb_60 ?_
    refine aw_icmp_le (tgt := 28) X dX1_write_22 rfl (fun c22 => ?_) (fun c22 => ?_)
    · refine aw_iconst X dX1_write_28 ci_0 ?_
      refine aw_istore_n (lv' := [(3, _), (2, _), (0, _), (1, _)]) X dX1_write_29 rfl (by decide) rfl ?_
      refine aw_iload_n X dX1_write_30 rfl rfl ?_
      refine aw_aload_n X dX1_write_31 rfl rfl ?_
      refine aw_get X okX1 (k := 9) hO (Nat.le_of_ble_eq_true rfl) fl_X1_15 (Or.inl rfl) rfl dX1_write_32 ?_
      refine aw_icmp_ge (tgt := 69) X dX1_write_35 rfl (fun c35 => ?_) (fun c35 => ?_)
      · exact absurd c35 (by decide)
      · refine aw_aload_n X dX1_write_38 rfl rfl ?_
        refine aw_get X okX1 (k := 8) hO (Nat.le_of_ble_eq_true rfl) fl_X1_9 (Or.inl rfl) rfl dX1_write_39 ?_
        refine aw_get X okX8 (k := 0) hI (Nat.le_of_ble_eq_true rfl) fl_X1_35 (Or.inl rfl) rfl dX1_write_42 ?_
        refine aw_iload_n X dX1_write_45 rfl rfl ?_
        refine aw_iload_n X dX1_write_46 rfl rfl ?_
        refine aw_iadd X dX1_write_47 ?_
        refine aw_iload_n X dX1_write_48 rfl rfl ?_
        refine aw_bipush X dX1_write_49 cb_8 ?_
        refine aw_aload_n X dX1_write_51 rfl rfl ?_
        refine aw_get X okX1 (k := 9) hO (Nat.le_of_ble_eq_true rfl) fl_X1_15 (Or.inl rfl) rfl dX1_write_52 ?_
        refine aw_iconst X dX1_write_55 ci_1 ?_
        refine aw_isub X dX1_write_56 ?_
        refine aw_iload_n X dX1_write_57 rfl rfl ?_
        refine aw_isub X dX1_write_58 ?_
        refine aw_imul X dX1_write_59 ?_
        refine aw_ishr X dX1_write_60 ?_
        refine aw_i2b X dX1_write_61 ?_
        refine aw_bast2 X hV (fs_ix4 h4 (i := 0) (by decide) c22) dX1_write_62 (fun w67 hk68 hn69 he70 => ?_)
        have hk71 := (hn69 _ (ne_oa hO hV)).trans hO
        have hk72 := (hn69 _ (ne_oa hI hV)).trans hI
        refine aw_iinc (v := 1) (lv' := [(3, _), (2, _), (0, _), (1, _)]) X dX1_write_63 rfl (by decide) (by decide) rfl ?_
        refine aw_goto (tgt := 30) X dX1_write_66 rfl ?_
        refine aw_iload_n X dX1_write_30 rfl rfl ?_
        refine aw_aload_n X dX1_write_31 rfl rfl ?_
        refine aw_get X okX1 (k := 9) hk71 (Nat.le_of_ble_eq_true rfl) fl_X1_15 (Or.inl rfl) rfl dX1_write_32 ?_
        refine aw_icmp_ge (tgt := 69) X dX1_write_35 rfl (fun c35 => ?_) (fun c35 => ?_)
        · exact absurd c35 (by decide)
        · refine aw_aload_n X dX1_write_38 rfl rfl ?_
          refine aw_get X okX1 (k := 8) hk71 (Nat.le_of_ble_eq_true rfl) fl_X1_9 (Or.inl rfl) rfl dX1_write_39 ?_
          refine aw_get X okX8 (k := 0) hk72 (Nat.le_of_ble_eq_true rfl) fl_X1_35 (Or.inl rfl) rfl dX1_write_42 ?_
          refine aw_iload_n X dX1_write_45 rfl rfl ?_
          refine aw_iload_n X dX1_write_46 rfl rfl ?_
          refine aw_iadd X dX1_write_47 ?_
          refine aw_iload_n X dX1_write_48 rfl rfl ?_
          refine aw_bipush X dX1_write_49 cb_8 ?_
          refine aw_aload_n X dX1_write_51 rfl rfl ?_
          refine aw_get X okX1 (k := 9) hk71 (Nat.le_of_ble_eq_true rfl) fl_X1_15 (Or.inl rfl) rfl dX1_write_52 ?_
          refine aw_iconst X dX1_write_55 ci_1 ?_
          refine aw_isub X dX1_write_56 ?_
          refine aw_iload_n X dX1_write_57 rfl rfl ?_
          refine aw_isub X dX1_write_58 ?_
          refine aw_imul X dX1_write_59 ?_
          refine aw_ishr X dX1_write_60 ?_
          refine aw_i2b X dX1_write_61 ?_
          refine aw_bast2 X hk68 (fs_ix4 h4 (i := 1) (by decide) c22) dX1_write_62 (fun w73 hk74 hn75 he76 => ?_)
          have hk77 := (hn75 _ (ne_oa hk71 hk68)).trans hk71
          have hk78 := (hn75 _ (ne_oa hk72 hk68)).trans hk72
          refine aw_iinc (v := 2) (lv' := [(3, _), (2, _), (0, _), (1, _)]) X dX1_write_63 rfl (by decide) (by decide) rfl ?_
          refine aw_goto (tgt := 30) X dX1_write_66 rfl ?_
          refine aw_iload_n X dX1_write_30 rfl rfl ?_
          refine aw_aload_n X dX1_write_31 rfl rfl ?_
          refine aw_get X okX1 (k := 9) hk77 (Nat.le_of_ble_eq_true rfl) fl_X1_15 (Or.inl rfl) rfl dX1_write_32 ?_
          refine aw_icmp_ge (tgt := 69) X dX1_write_35 rfl (fun c35 => ?_) (fun c35 => ?_)
          · exact absurd c35 (by decide)
          · refine aw_aload_n X dX1_write_38 rfl rfl ?_
            refine aw_get X okX1 (k := 8) hk77 (Nat.le_of_ble_eq_true rfl) fl_X1_9 (Or.inl rfl) rfl dX1_write_39 ?_
            refine aw_get X okX8 (k := 0) hk78 (Nat.le_of_ble_eq_true rfl) fl_X1_35 (Or.inl rfl) rfl dX1_write_42 ?_
            refine aw_iload_n X dX1_write_45 rfl rfl ?_
            refine aw_iload_n X dX1_write_46 rfl rfl ?_
            refine aw_iadd X dX1_write_47 ?_
            refine aw_iload_n X dX1_write_48 rfl rfl ?_
            refine aw_bipush X dX1_write_49 cb_8 ?_
            refine aw_aload_n X dX1_write_51 rfl rfl ?_
            refine aw_get X okX1 (k := 9) hk77 (Nat.le_of_ble_eq_true rfl) fl_X1_15 (Or.inl rfl) rfl dX1_write_52 ?_
            refine aw_iconst X dX1_write_55 ci_1 ?_
            refine aw_isub X dX1_write_56 ?_
            refine aw_iload_n X dX1_write_57 rfl rfl ?_
            refine aw_isub X dX1_write_58 ?_
            refine aw_imul X dX1_write_59 ?_
            refine aw_ishr X dX1_write_60 ?_
            refine aw_i2b X dX1_write_61 ?_
            refine aw_bast2 X hk74 (fs_ix4 h4 (i := 2) (by decide) c22) dX1_write_62 (fun w79 hk80 hn81 he82 => ?_)
            have hk83 := (hn81 _ (ne_oa hk77 hk74)).trans hk77
            have hk84 := (hn81 _ (ne_oa hk78 hk74)).trans hk78
            refine aw_iinc (v := 3) (lv' := [(3, _), (2, _), (0, _), (1, _)]) X dX1_write_63 rfl (by decide) (by decide) rfl ?_
            refine aw_goto (tgt := 30) X dX1_write_66 rfl ?_
            refine aw_iload_n X dX1_write_30 rfl rfl ?_
            refine aw_aload_n X dX1_write_31 rfl rfl ?_
            refine aw_get X okX1 (k := 9) hk83 (Nat.le_of_ble_eq_true rfl) fl_X1_15 (Or.inl rfl) rfl dX1_write_32 ?_
            refine aw_icmp_ge (tgt := 69) X dX1_write_35 rfl (fun c35 => ?_) (fun c35 => ?_)
            · exact absurd c35 (by decide)
            · refine aw_aload_n X dX1_write_38 rfl rfl ?_
              refine aw_get X okX1 (k := 8) hk83 (Nat.le_of_ble_eq_true rfl) fl_X1_9 (Or.inl rfl) rfl dX1_write_39 ?_
              refine aw_get X okX8 (k := 0) hk84 (Nat.le_of_ble_eq_true rfl) fl_X1_35 (Or.inl rfl) rfl dX1_write_42 ?_
              refine aw_iload_n X dX1_write_45 rfl rfl ?_
              refine aw_iload_n X dX1_write_46 rfl rfl ?_
              refine aw_iadd X dX1_write_47 ?_
              refine aw_iload_n X dX1_write_48 rfl rfl ?_
              refine aw_bipush X dX1_write_49 cb_8 ?_
              refine aw_aload_n X dX1_write_51 rfl rfl ?_
              refine aw_get X okX1 (k := 9) hk83 (Nat.le_of_ble_eq_true rfl) fl_X1_15 (Or.inl rfl) rfl dX1_write_52 ?_
              refine aw_iconst X dX1_write_55 ci_1 ?_
              refine aw_isub X dX1_write_56 ?_
              refine aw_iload_n X dX1_write_57 rfl rfl ?_
              refine aw_isub X dX1_write_58 ?_
              refine aw_imul X dX1_write_59 ?_
              refine aw_ishr X dX1_write_60 ?_
              refine aw_i2b X dX1_write_61 ?_
              refine aw_bast2 X hk80 (fs_ix4 h4 (i := 3) (by decide) c22) dX1_write_62 (fun w85 hk86 hn87 he88 => ?_)
              have hk89 := (hn87 _ (ne_oa hk83 hk80)).trans hk83
              have hk90 := (hn87 _ (ne_oa hk84 hk80)).trans hk84
              refine aw_iinc (v := 4) (lv' := [(3, _), (2, _), (0, _), (1, _)]) X dX1_write_63 rfl (by decide) (by decide) rfl ?_
              refine aw_goto (tgt := 30) X dX1_write_66 rfl ?_
              refine aw_iload_n X dX1_write_30 rfl rfl ?_
              refine aw_aload_n X dX1_write_31 rfl rfl ?_
              refine aw_get X okX1 (k := 9) hk89 (Nat.le_of_ble_eq_true rfl) fl_X1_15 (Or.inl rfl) rfl dX1_write_32 ?_
              refine aw_icmp_ge (tgt := 69) X dX1_write_35 rfl (fun c35 => ?_) (fun c35 => ?_)
              · refine aw_aload_n X dX1_write_69 rfl rfl ?_
                refine aw_get X okX1 (k := 8) hk89 (Nat.le_of_ble_eq_true rfl) fl_X1_9 (Or.inl rfl) rfl dX1_write_70 ?_
                refine aw_aload_n X dX1_write_73 rfl rfl ?_
                refine aw_get X okX1 (k := 8) hk89 (Nat.le_of_ble_eq_true rfl) fl_X1_9 (Or.inl rfl) rfl dX1_write_74 ?_
                refine aw_get X okX8 (k := 1) hk90 (Nat.le_of_ble_eq_true rfl) fl_X1_19 (Or.inl rfl) rfl dX1_write_77 ?_
                refine aw_iload_n X dX1_write_80 rfl rfl ?_
                refine aw_aload_n X dX1_write_81 rfl rfl ?_
                refine aw_get X okX1 (k := 9) hk89 (Nat.le_of_ble_eq_true rfl) fl_X1_15 (Or.inl rfl) rfl dX1_write_82 ?_
                refine aw_iadd X dX1_write_85 ?_
                refine aw_callS X (kJ9_max_7cf53 _ _ _ _ _) okm_J9_max_7cf53 ml_X1_39 st_J9_max_7cf53 rfl rfl (Nat.le_of_ble_eq_true rfl) ⟨Nat.le_of_ble_eq_true rfl, Nat.le_of_ble_eq_true rfl, Nat.le_of_ble_eq_true rfl, Nat.le_of_ble_eq_true rfl⟩ dX1_write_86 (fun v w2 hp => ?_)
                obtain ⟨rfl, hw9⟩ := hp
                have hw9 := hw9.symm
                subst hw9
                refine aw_put2 X okX8 (k := 1) (fs' := [.ref aB, .int (if ln < (((f 4) * 4) + 4) then (((f 4) * 4) + 4) else ln), .int th]) hk90 (Nat.le_of_ble_eq_true rfl) fl_X1_19 (Or.inl rfl) rfl (rfl ) ( rfl) (Nat.le_of_ble_eq_true rfl) rfl dX1_write_89 (fun w91 hk92 hn93 he94 => ?_)
                have hk95 := (hn93 _ (ne_ci hk89 hk90 (by decide))).trans hk89
                have hk96 := (hn93 _ (Ne.symm (ne_oa hk90 hk86))).trans hk86
                refine aw_aload_n X dX1_write_92 rfl rfl ?_
                refine aw_dup X dX1_write_93 rfl ?_
                refine aw_get X okX1 (k := 4) hk95 (Nat.le_of_ble_eq_true rfl) fl_X1_28 (Or.inr sf_X1_place) rfl dX1_write_94 ?_
                refine aw_iconst X dX1_write_97 ci_1 ?_
                refine aw_iadd X dX1_write_98 ?_
                refine aw_put2 X okX1 (k := 4) (fs' := [.int (f 0), .int (f 1), .int (f 2), .int (f 3), .int ((f 4) + 1), .int (f 5), .int (f 6), va_rf ec, .ref xa, .int 4]) hk95 (Nat.le_of_ble_eq_true rfl) fl_X1_28 (Or.inr sf_X1_place) rfl (rfl ) ( rfl) (Nat.le_of_ble_eq_true rfl) rfl dX1_write_99 (fun w97 hk98 hn99 he100 => ?_)
                have hk101 := (hn99 _ (ne_ci hk92 hk95 (by decide))).trans hk92
                have hk102 := (hn99 _ (Ne.symm (ne_oa hk95 hk96))).trans hk96
                refine aw_iconst X dX1_write_102 ci_1 ?_
                refine RTN (some (.int _)) _ _ _ _ _ dX1_write_103 (⟨_, rfl⟩) (Nat.le_of_ble_eq_true rfl) (Nat.le_of_ble_eq_true rfl) ?_
                refine Or.inr ⟨⟨c11, c22⟩, rfl, ?_, hk101, hk102, fun c h1 h2 h3 => by rw [he100, wm_upn h1, he94, wm_upn h2, he88, wm_upn h3, he82, wm_upn h3, he76, wm_upn h3, he70, wm_upn h3]⟩
                rw [hk98]; refine congrArg some (sC_6 (by show f 0 = 2; exact hk) ?_); show _ = sH (upd f 4 (f 4 + 1)) ec ++ [va_rf (some xa), .int (f 9)]; rw [h9]; rfl
              · exact absurd c35 (by decide)
    · refine aw_bipush X dX1_write_25 cb_m5 ?_
      refine RTN (some (.int _)) _ _ _ _ _ dX1_write_27 (⟨_, rfl⟩) (Nat.le_of_ble_eq_true rfl) (Nat.le_of_ble_eq_true rfl) ?_
      exact Or.inl ⟨fun h => c22 h.2, rfl, rfl⟩
set_option maxRecDepth 100000 in
set_option maxHeartbeats 4000000 in
theorem kX1_read4 (G : GG) (l : Launch) (w : WM) (b : Nat) (f : Nat → Int32) (ec : Option Nat) (xa : Nat) (hk : f 0 = 2) (hO0 : w b = some (sC f ec (some xa))) (aB : Nat) (ln th : Int32) (hI : w xa = some (.inr (10, [.ref aB, .int ln, .int th]))) (g : Nat → Int32) (hV : w aB = some (.inl (gA G 1, 60, .inl g))) (h9 : f 9 = 4) (h4 : bt (f 4) 0 60) : MC G l yX1_read cX1_read 4 ((Option.some .int)) ({ frames := 3, cells := 0, slots := 0, locals := 63 } : Room) [.ref b] w (fun v w' => v = some (.int (if (¬ ((f 4 * 4) < 0) ∧ (f 4 * 4) + 4 ≤ 60) then cl_sgn (fs_r4 f g) else (-1))) ∧ w' = w) := by
  refine mc_int (by decide) (Nat.le_of_ble_eq_true rfl) rfl rfl ?_
  intro p e s m args below meth c A H0 Q X hnm RTN
  have X : Cx G p s m args meth c A H0 cX1_read 4 RX1 := X
  have hO : w b = some (.inr (3, [.int (f 0), .int (f 1), .int (f 2), .int (f 3), .int (f 4), .int (f 5), .int (f 6), va_rf ec, .ref xa, .int 4])) := by rw [hO0, sC_2 hk, h9]; rfl
  refine aw_aload_n X dX1_read_0 rfl rfl ?_
  refine aw_get X okX1 (k := 4) hO (Nat.le_of_ble_eq_true rfl) fl_X1_28 (Or.inr sf_X1_place) rfl dX1_read_1 ?_
  refine aw_aload_n X dX1_read_4 rfl rfl ?_
  refine aw_get X okX1 (k := 9) hO (Nat.le_of_ble_eq_true rfl) fl_X1_15 (Or.inl rfl) rfl dX1_read_5 ?_
  refine aw_imul X dX1_read_8 ?_
  refine aw_istore_n (lv' := [(1, _), (0, _)]) X dX1_read_9 rfl (by decide) rfl ?_
  refine aw_iload_n X dX1_read_10 rfl rfl ?_
  refine aw_if_lt (tgt := 25) X dX1_read_11 rfl (fun c11 => ?_) (fun c11 => ?_)
  · refine aw_iconst X dX1_read_25 ci_m1 ?_
    refine RTN (some (.int _)) _ _ _ _ _ dX1_read_26 (⟨_, rfl⟩) (Nat.le_of_ble_eq_true rfl) (Nat.le_of_ble_eq_true rfl) ?_
    exact ⟨by rw [if_neg (fun h => h.1 c11)], rfl⟩
  · refine aw_iload_n X dX1_read_14 rfl rfl ?_
    refine aw_aload_n X dX1_read_15 rfl rfl ?_
    refine aw_get X okX1 (k := 9) hO (Nat.le_of_ble_eq_true rfl) fl_X1_15 (Or.inl rfl) rfl dX1_read_16 ?_
    refine aw_iadd X dX1_read_19 ?_
    refine aw_bipush X dX1_read_20 cb_60 ?_
    refine aw_icmp_le (tgt := 27) X dX1_read_22 rfl (fun c22 => ?_) (fun c22 => ?_)
    · refine aw_iconst X dX1_read_27 ci_0 ?_
      refine aw_istore_n (lv' := [(2, _), (1, _), (0, _)]) X dX1_read_28 rfl (by decide) rfl ?_
      refine aw_iconst X dX1_read_29 ci_0 ?_
      refine aw_istore_n (lv' := [(3, _), (2, _), (1, _), (0, _)]) X dX1_read_30 rfl (by decide) rfl ?_
      refine aw_iload_n X dX1_read_31 rfl rfl ?_
      refine aw_aload_n X dX1_read_32 rfl rfl ?_
      refine aw_get X okX1 (k := 9) hO (Nat.le_of_ble_eq_true rfl) fl_X1_15 (Or.inl rfl) rfl dX1_read_33 ?_
      refine aw_icmp_ge (tgt := 66) X dX1_read_36 rfl (fun c36 => ?_) (fun c36 => ?_)
      · exact absurd c36 (by decide)
      · refine aw_iload_n X dX1_read_39 rfl rfl ?_
        refine aw_bipush X dX1_read_40 cb_8 ?_
        refine aw_ishl X dX1_read_42 ?_
        refine aw_aload_n X dX1_read_43 rfl rfl ?_
        refine aw_get X okX1 (k := 8) hO (Nat.le_of_ble_eq_true rfl) fl_X1_9 (Or.inl rfl) rfl dX1_read_44 ?_
        refine aw_get X okX8 (k := 0) hI (Nat.le_of_ble_eq_true rfl) fl_X1_35 (Or.inl rfl) rfl dX1_read_47 ?_
        refine aw_iload_n X dX1_read_50 rfl rfl ?_
        refine aw_iload_n X dX1_read_51 rfl rfl ?_
        refine aw_iadd X dX1_read_52 ?_
        refine aw_bald X hV (fs_ix4 h4 (i := 0) (by decide) c22) dX1_read_53 ?_
        refine aw_sipush X dX1_read_54 cs_255 ?_
        refine aw_iand X dX1_read_57 ?_
        refine aw_ior X dX1_read_58 ?_
        refine aw_istore_n (lv' := [(2, _), (3, _), (1, _), (0, _)]) X dX1_read_59 rfl (by decide) rfl ?_
        refine aw_iinc (v := 1) (lv' := [(3, _), (2, _), (1, _), (0, _)]) X dX1_read_60 rfl (by decide) (by decide) rfl ?_
        refine aw_goto (tgt := 31) X dX1_read_63 rfl ?_
        refine aw_iload_n X dX1_read_31 rfl rfl ?_
        refine aw_aload_n X dX1_read_32 rfl rfl ?_
        refine aw_get X okX1 (k := 9) hO (Nat.le_of_ble_eq_true rfl) fl_X1_15 (Or.inl rfl) rfl dX1_read_33 ?_
        refine aw_icmp_ge (tgt := 66) X dX1_read_36 rfl (fun c36 => ?_) (fun c36 => ?_)
        · exact absurd c36 (by decide)
        · refine aw_iload_n X dX1_read_39 rfl rfl ?_
          refine aw_bipush X dX1_read_40 cb_8 ?_
          refine aw_ishl X dX1_read_42 ?_
          refine aw_aload_n X dX1_read_43 rfl rfl ?_
          refine aw_get X okX1 (k := 8) hO (Nat.le_of_ble_eq_true rfl) fl_X1_9 (Or.inl rfl) rfl dX1_read_44 ?_
          refine aw_get X okX8 (k := 0) hI (Nat.le_of_ble_eq_true rfl) fl_X1_35 (Or.inl rfl) rfl dX1_read_47 ?_
          refine aw_iload_n X dX1_read_50 rfl rfl ?_
          refine aw_iload_n X dX1_read_51 rfl rfl ?_
          refine aw_iadd X dX1_read_52 ?_
          refine aw_bald X hV (fs_ix4 h4 (i := 1) (by decide) c22) dX1_read_53 ?_
          refine aw_sipush X dX1_read_54 cs_255 ?_
          refine aw_iand X dX1_read_57 ?_
          refine aw_ior X dX1_read_58 ?_
          refine aw_istore_n (lv' := [(2, _), (3, _), (1, _), (0, _)]) X dX1_read_59 rfl (by decide) rfl ?_
          refine aw_iinc (v := 2) (lv' := [(3, _), (2, _), (1, _), (0, _)]) X dX1_read_60 rfl (by decide) (by decide) rfl ?_
          refine aw_goto (tgt := 31) X dX1_read_63 rfl ?_
          refine aw_iload_n X dX1_read_31 rfl rfl ?_
          refine aw_aload_n X dX1_read_32 rfl rfl ?_
          refine aw_get X okX1 (k := 9) hO (Nat.le_of_ble_eq_true rfl) fl_X1_15 (Or.inl rfl) rfl dX1_read_33 ?_
          refine aw_icmp_ge (tgt := 66) X dX1_read_36 rfl (fun c36 => ?_) (fun c36 => ?_)
          · exact absurd c36 (by decide)
          · refine aw_iload_n X dX1_read_39 rfl rfl ?_
            refine aw_bipush X dX1_read_40 cb_8 ?_
            refine aw_ishl X dX1_read_42 ?_
            refine aw_aload_n X dX1_read_43 rfl rfl ?_
            refine aw_get X okX1 (k := 8) hO (Nat.le_of_ble_eq_true rfl) fl_X1_9 (Or.inl rfl) rfl dX1_read_44 ?_
            refine aw_get X okX8 (k := 0) hI (Nat.le_of_ble_eq_true rfl) fl_X1_35 (Or.inl rfl) rfl dX1_read_47 ?_
            refine aw_iload_n X dX1_read_50 rfl rfl ?_
            refine aw_iload_n X dX1_read_51 rfl rfl ?_
            refine aw_iadd X dX1_read_52 ?_
            refine aw_bald X hV (fs_ix4 h4 (i := 2) (by decide) c22) dX1_read_53 ?_
            refine aw_sipush X dX1_read_54 cs_255 ?_
            refine aw_iand X dX1_read_57 ?_
            refine aw_ior X dX1_read_58 ?_
            refine aw_istore_n (lv' := [(2, _), (3, _), (1, _), (0, _)]) X dX1_read_59 rfl (by decide) rfl ?_
            refine aw_iinc (v := 3) (lv' := [(3, _), (2, _), (1, _), (0, _)]) X dX1_read_60 rfl (by decide) (by decide) rfl ?_
            refine aw_goto (tgt := 31) X dX1_read_63 rfl ?_
            refine aw_iload_n X dX1_read_31 rfl rfl ?_
            refine aw_aload_n X dX1_read_32 rfl rfl ?_
            refine aw_get X okX1 (k := 9) hO (Nat.le_of_ble_eq_true rfl) fl_X1_15 (Or.inl rfl) rfl dX1_read_33 ?_
            refine aw_icmp_ge (tgt := 66) X dX1_read_36 rfl (fun c36 => ?_) (fun c36 => ?_)
            · exact absurd c36 (by decide)
            · refine aw_iload_n X dX1_read_39 rfl rfl ?_
              refine aw_bipush X dX1_read_40 cb_8 ?_
              refine aw_ishl X dX1_read_42 ?_
              refine aw_aload_n X dX1_read_43 rfl rfl ?_
              refine aw_get X okX1 (k := 8) hO (Nat.le_of_ble_eq_true rfl) fl_X1_9 (Or.inl rfl) rfl dX1_read_44 ?_
              refine aw_get X okX8 (k := 0) hI (Nat.le_of_ble_eq_true rfl) fl_X1_35 (Or.inl rfl) rfl dX1_read_47 ?_
              refine aw_iload_n X dX1_read_50 rfl rfl ?_
              refine aw_iload_n X dX1_read_51 rfl rfl ?_
              refine aw_iadd X dX1_read_52 ?_
              refine aw_bald X hV (fs_ix4 h4 (i := 3) (by decide) c22) dX1_read_53 ?_
              refine aw_sipush X dX1_read_54 cs_255 ?_
              refine aw_iand X dX1_read_57 ?_
              refine aw_ior X dX1_read_58 ?_
              refine aw_istore_n (lv' := [(2, _), (3, _), (1, _), (0, _)]) X dX1_read_59 rfl (by decide) rfl ?_
              refine aw_iinc (v := 4) (lv' := [(3, _), (2, _), (1, _), (0, _)]) X dX1_read_60 rfl (by decide) (by decide) rfl ?_
              refine aw_goto (tgt := 31) X dX1_read_63 rfl ?_
              refine aw_iload_n X dX1_read_31 rfl rfl ?_
              refine aw_aload_n X dX1_read_32 rfl rfl ?_
              refine aw_get X okX1 (k := 9) hO (Nat.le_of_ble_eq_true rfl) fl_X1_15 (Or.inl rfl) rfl dX1_read_33 ?_
              refine aw_icmp_ge (tgt := 66) X dX1_read_36 rfl (fun c36 => ?_) (fun c36 => ?_)
              · refine aw_iload_n X dX1_read_66 rfl rfl ?_
                refine aw_callSN X (kX10_signOf _ _ _ _) okm_X10_signOf mn_X1_45 st_X10_signOf rfl rfl (Nat.le_of_ble_eq_true rfl) ⟨Nat.le_of_ble_eq_true rfl, Nat.le_of_ble_eq_true rfl, Nat.le_of_ble_eq_true rfl, Nat.le_of_ble_eq_true rfl⟩ dX1_read_67 (fun v w2 hp => ?_)
                obtain ⟨rfl, hw9⟩ := hp
                have hw9 := hw9.symm
                subst hw9
                refine RTN (some (.int _)) _ _ _ _ _ dX1_read_70 (⟨_, rfl⟩) (Nat.le_of_ble_eq_true rfl) (Nat.le_of_ble_eq_true rfl) ?_
                exact ⟨by rw [if_pos ⟨c11, c22⟩]; rfl, rfl⟩
              · exact absurd c36 (by decide)
    · refine aw_iconst X dX1_read_25 ci_m1 ?_
      refine RTN (some (.int _)) _ _ _ _ _ dX1_read_26 (⟨_, rfl⟩) (Nat.le_of_ble_eq_true rfl) (Nat.le_of_ble_eq_true rfl) ?_
      exact ⟨by rw [if_neg (fun h => c22 h.2)], rfl⟩
