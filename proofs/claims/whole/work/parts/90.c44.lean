/-! the name at hand -/
theorem b_i2c : ∀ n : Nat, n < 256 → ((nI n).toUInt32 % 65536).toInt32 = nI n := by decide +kernel
theorem b_i2b : ∀ n : Nat, n < 128 → vp_nar .byte (nI n).toInt8.toInt32 = nI n := by decide +kernel
theorem b_i2b' : ∀ n : Nat, n < 128 → (nI n).toInt8.toInt32 = nI n := by decide +kernel
theorem bt_ex {c : Int32} {hi : Int} (h : bt c 0 hi = true) : ∃ n : Nat, c = nI n ∧ (n : Int) ≤ hi := by
  have hb := bt_iff.mp h
  exact ⟨c.toNatClampNeg, (nI_cl hb.1).symm, by have := cl_toInt hb.1; omega⟩
theorem i2c_id {c : Int32} (h : bt c 0 255 = true) : (c.toUInt32 % 65536).toInt32 = c := by
  obtain ⟨n, rfl, hn⟩ := bt_ex h
  exact b_i2c n (by omega)
theorem i2b_id {c : Int32} (h : bt c 0 127 = true) : vp_nar .byte c.toInt8.toInt32 = c := by
  obtain ⟨n, rfl, hn⟩ := bt_ex h
  exact b_i2b n (by omega)
theorem i2b_id' {c : Int32} (h : bt c 0 127 = true) : c.toInt8.toInt32 = c := by
  obtain ⟨n, rfl, hn⟩ := bt_ex h
  exact b_i2b' n (by omega)
theorem bt_wk {c : Int32} {a b a' b' : Int} (h : bt c a b = true) (h1 : a' ≤ a) (h2 : b ≤ b') : bt c a' b' = true := by
  have hb := bt_iff.mp h
  exact bt_iff.mpr ⟨by omega, by omega⟩
theorem un_o {c : Int32} (h : ¬ bt c 32 126 = true) : barr c = true := by
  unfold barr
  by_cases h1 : c < 32
  · rw [decide_eq_true h1, Bool.true_or]
  · by_cases h2 : 126 < c
    · rw [decide_eq_true h2, Bool.true_or, Bool.or_true]
    · exfalso
      rw [i32_lt] at h1 h2
      have e1 : (32 : Int32).toInt = 32 := rfl
      have e2 : (126 : Int32).toInt = 126 := rfl
      exact h (bt_iff.mpr ⟨by omega, by omega⟩)
theorem un_i {c : Int32} (h : bt c 32 126 = true) : barr c = ixu c := by
  have hb := bt_iff.mp h
  have h1 : ¬ c < 32 := by
    rw [i32_lt]
    have e1 : (32 : Int32).toInt = 32 := rfl
    omega
  have h2 : ¬ 126 < c := by
    rw [i32_lt]
    have e2 : (126 : Int32).toInt = 126 := rfl
    omega
  unfold barr ixu
  rw [decide_eq_false h1, decide_eq_false h2, Bool.false_or, Bool.false_or]
theorem un_bt {c : Int32} (h : ¬ barr c = true) : bt c 32 126 = true := by
  by_cases h1 : bt c 32 126 = true
  · exact h1
  · exact absurd (un_o h1) h
def col (ch dot chg cnt : Int32) (f : Nat → Int32) : Int32 × Int32 × Int32 × (Nat → Int32) :=
  if ¬ (if ch = 46 then 1 else dot) = 0 ∨ barr ch = true then ((if ch = 46 then 1 else dot), chg + 1, cnt, f)
  else if 8 ≤ cnt then ((if ch = 46 then 1 else dot), chg, cnt, f)
  else ((if ch = 46 then 1 else dot), chg, cnt + 1, upd f cnt.toNatClampNeg ch)
theorem bI_1 {p : Prop} [Decidable p] (h : p) : bI p = 1 := by unfold bI; rw [if_pos h]
theorem bI_0' {p : Prop} [Decidable p] (h : ¬ p) : bI p = 0 := by unfold bI; rw [if_neg h]
set_option maxRecDepth 100000 in
set_option maxHeartbeats 4000000 in
theorem kX4_isUnsafe (G : GG) (l : Launch) (w : WM) (ch : Int32) : MC G l yX4_isUnsafe cX4_isUnsafe 1 ((Option.some .boolean)) ({ frames := 7, cells := 0, slots := 0, locals := 159 } : Room) [.int ch] w (fun v w' => v = some (.int (bI (barr ch = true))) ∧ w' = w) := by
  refine mc_bool (by decide) (Nat.le_of_ble_eq_true rfl) rfl rfl ?_
  intro p e s m args below meth c A H0 Q X hnm RTN
  have X : Cx G p s m args meth c A H0 cX4_isUnsafe 1 RX4 := X
  refine aw_iload_n X dX4_isUnsafe_0 rfl rfl ?_
  refine aw_bipush X dX4_isUnsafe_1 cb_32 ?_
  refine aw_bipush X dX4_isUnsafe_3 cb_126 ?_
  refine aw_callSN X (kX10_within _ _ _ _ _ _ 32 126 rfl rfl) okm_X10_within mn_X4_42 st_X10_within rfl rfl (Nat.le_of_ble_eq_true rfl) ⟨Nat.le_of_ble_eq_true rfl, Nat.le_of_ble_eq_true rfl, Nat.le_of_ble_eq_true rfl, Nat.le_of_ble_eq_true rfl⟩ dX4_isUnsafe_5 (fun v w2 hp => ?_)
  obtain ⟨rfl, hw9⟩ := hp
  have hw9 := hw9.symm
  subst hw9
  refine aw_if_eq (tgt := 21) X dX4_isUnsafe_8 rfl (fun c8 => ?_) (fun c8 => ?_)
  · rw [bI_0] at c8
    refine aw_iconst X dX4_isUnsafe_21 ci_1 ?_
    refine aw_goto (tgt := 26) X dX4_isUnsafe_22 rfl ?_
    refine RTN (some (.int _)) _ _ _ _ _ dX4_isUnsafe_26 (by first | exact Or.inl rfl | exact Or.inr rfl) (Nat.le_of_ble_eq_true rfl) (Nat.le_of_ble_eq_true rfl) ?_
    exact ⟨by rw [bI_1 (un_o c8)], rfl⟩
  · rw [bI_n0] at c8
    refine aw_ldcS X X.2.2.2.2.2.2.2.2.2.2.2.2.2.2.2.2.2.1 dX4_isUnsafe_11 ?_
    refine aw_iload_n X dX4_isUnsafe_13 rfl rfl ?_
    refine aw_i2c X dX4_isUnsafe_14 ?_
    have hc : bt ch 0 255 = true := bt_wk c8 (by decide) (by decide)
    rw [i2c_id hc]
    refine aw_callVK (i := 0) X (by decide) (kJ0_indexOf_0f7a4 _ _ _ _ hc) okm_J0_indexOf_0f7a4 ml_X4_48 im_J0_indexOf_0f7a4 se_J0_J0_indexOf_0f7a4 rfl rfl (Nat.le_of_ble_eq_true rfl) ⟨Nat.le_of_ble_eq_true rfl, Nat.le_of_ble_eq_true rfl, Nat.le_of_ble_eq_true rfl, Nat.le_of_ble_eq_true rfl⟩ dX4_isUnsafe_15 (fun v w2 hp => ?_)
    obtain ⟨r9, rfl, hw9, hr9⟩ := hp
    have hw9 := hw9.symm
    subst hw9
    refine aw_if_lt (tgt := 25) X dX4_isUnsafe_18 rfl (fun c18 => ?_) (fun c18 => ?_)
    · refine aw_iconst X dX4_isUnsafe_25 ci_0 ?_
      refine RTN (some (.int _)) _ _ _ _ _ dX4_isUnsafe_26 (by first | exact Or.inl rfl | exact Or.inr rfl) (Nat.le_of_ble_eq_true rfl) (Nat.le_of_ble_eq_true rfl) ?_
      have hI : barr ch = true ↔ 0 ≤ r9 := by rw [un_i c8, hr9, i2b_id' (bt_wk c8 (by decide) (by decide))]
      have h9 : ¬ barr ch = true := fun h => by have h2 := hI.mp h; rw [i32_le] at h2; rw [i32_lt] at c18; omega
      exact ⟨by rw [bI_0' h9], rfl⟩
    · refine aw_iconst X dX4_isUnsafe_21 ci_1 ?_
      refine aw_goto (tgt := 26) X dX4_isUnsafe_22 rfl ?_
      refine RTN (some (.int _)) _ _ _ _ _ dX4_isUnsafe_26 (by first | exact Or.inl rfl | exact Or.inr rfl) (Nat.le_of_ble_eq_true rfl) (Nat.le_of_ble_eq_true rfl) ?_
      have hI : barr ch = true ↔ 0 ≤ r9 := by rw [un_i c8, hr9, i2b_id' (bt_wk c8 (by decide) (by decide))]
      have h9 : barr ch = true := hI.mpr (by rw [i32_le]; rw [i32_lt] at c18; omega)
      exact ⟨by rw [bI_1 h9], rfl⟩
set_option maxRecDepth 100000 in
set_option maxHeartbeats 4000000 in
theorem kX4_begin (G : GG) (l : Launch) (w : WM) (o b vb : Nat) (dot chg ml cnt : Int32) (hO : w o = some (.inr (6, [.ref b, .int dot, .int chg]))) (hB : w b = some (.inr (1, [.ref vb, .int 0, .int ml, .int cnt]))) (f : Nat → Int32) (hV : w vb = some (.inl (gA G 1, 16, .inl f))) (h0 : 0 ≤ cnt) : MC G l yX4_begin cX4_begin 1 (none) ({ frames := 6, cells := 0, slots := 0, locals := 146 } : Room) [.ref o] w (fun v w' => v = none ∧ w' o = some (.inr (6, [.ref b, .int 0, .int chg])) ∧ w' b = some (.inr (1, [.ref vb, .int 0, .int (if cnt ≤ 0 then ml else 1), .int 0])) ∧ ∀ q, q ≠ o → q ≠ b → w' q = w q) := by
  refine mc_void (by decide) (Nat.le_of_ble_eq_true rfl) rfl rfl ?_
  intro p e s m args below meth c A H0 Q X hnm RTN
  have X : Cx G p s m args meth c A H0 cX4_begin 1 RX4 := X
  refine aw_aload_n X dX4_begin_0 rfl rfl ?_
  refine aw_get X okX4 (k := 0) hO (Nat.le_of_ble_eq_true rfl) fl_X4_12 (Or.inl rfl) rfl dX4_begin_1 ?_
  refine aw_iconst X dX4_begin_4 ci_0 ?_
  refine aw_callV X (kJ4_setLength_d00df _ _ _ _ _ _ _ hB _ hV h0) okm_J4_setLength_d00df okJ4 hB ml_X4_18 im_J4_setLength_d00df se_J4_J4_setLength_d00df rfl rfl (Nat.le_of_ble_eq_true rfl) ⟨Nat.le_of_ble_eq_true rfl, Nat.le_of_ble_eq_true rfl, Nat.le_of_ble_eq_true rfl, Nat.le_of_ble_eq_true rfl⟩ dX4_begin_5 (fun v w2 hp => ?_)
  obtain ⟨rfl, hw101⟩ := hp
  have hk102 := (congrFun hw101 b).trans wm_ups
  have hk103 := ((congrFun hw101 o).trans (wm_upn (ne_ci hO hB (by decide)))).trans hO
  have hk104 := ((congrFun hw101 vb).trans (wm_upn (Ne.symm (ne_oa hB hV)))).trans hV
  refine aw_aload_n X dX4_begin_8 rfl rfl ?_
  refine aw_iconst X dX4_begin_9 ci_0 ?_
  refine aw_put2 X okX4 (k := 1) (fs' := [.ref b, .int 0, .int chg]) hk103 (Nat.le_of_ble_eq_true rfl) fl_X4_22 (Or.inl rfl) rfl (rfl ) ( rfl) (Nat.le_of_ble_eq_true rfl) rfl dX4_begin_10 (fun w105 hk106 hn107 he108 => ?_)
  have hk109 := (hn107 _ (ne_ci hk102 hk103 (by decide))).trans hk102
  have hk110 := (hn107 _ (Ne.symm (ne_oa hk103 hk104))).trans hk104
  refine RTN (none) _ _ _ _ _ dX4_begin_13 (rfl) (Nat.le_of_ble_eq_true rfl) (Nat.le_of_ble_eq_true rfl) ?_
  exact ⟨rfl, hk106, hk109, fun q h1 h2 => by rw [he108, wm_upn h1, hw101, wm_upn h2]⟩
set_option maxRecDepth 100000 in
set_option maxHeartbeats 4000000 in
theorem kX4_collect (G : GG) (l : Launch) (w : WM) (o b vb : Nat) (dot chg ml cnt : Int32) (hO : w o = some (.inr (6, [.ref b, .int dot, .int chg]))) (hB : w b = some (.inr (1, [.ref vb, .int 0, .int ml, .int cnt]))) (f : Nat → Int32) (hV : w vb = some (.inl (gA G 1, 16, .inl f))) (ch : Int32) (hn8 : bt cnt 0 8) : MC G l yX4_collect cX4_collect 2 (none) ({ frames := 8, cells := 0, slots := 0, locals := 179 } : Room) [.ref o, .int ch] w (fun v w' => v = none ∧ w' o = some (.inr (6, [.ref b, .int (col ch dot chg cnt f).1, .int (col ch dot chg cnt f).2.1])) ∧ w' b = some (.inr (1, [.ref vb, .int 0, .int ml, .int (col ch dot chg cnt f).2.2.1])) ∧ w' vb = some (.inl (gA G 1, 16, .inl (col ch dot chg cnt f).2.2.2)) ∧ ∀ q, q ≠ o → q ≠ b → q ≠ vb → w' q = w q) := by
  refine mc_void (by decide) (Nat.le_of_ble_eq_true rfl) rfl rfl ?_
  intro p e s m args below meth c A H0 Q X hnm RTN
  have X : Cx G p s m args meth c A H0 cX4_collect 2 RX4 := X
  refine aw_iload_n X dX4_collect_0 rfl rfl ?_
  refine aw_bipush X dX4_collect_1 cb_46 ?_
  refine aw_icmp_ne (tgt := 11) X dX4_collect_3 rfl (fun c3 => ?_) (fun c3 => ?_)
  · refine aw_aload_n X dX4_collect_11 rfl rfl ?_
    refine aw_get X okX4 (k := 1) hO (Nat.le_of_ble_eq_true rfl) fl_X4_22 (Or.inl rfl) rfl dX4_collect_12 ?_
    refine aw_if_ne (tgt := 25) X dX4_collect_15 rfl (fun c15 => ?_) (fun c15 => ?_)
    · refine aw_aload_n X dX4_collect_25 rfl rfl ?_
      refine aw_dup X dX4_collect_26 rfl ?_
      refine aw_get X okX4 (k := 2) hO (Nat.le_of_ble_eq_true rfl) fl_X4_30 (Or.inl rfl) rfl dX4_collect_27 ?_
      refine aw_iconst X dX4_collect_30 ci_1 ?_
      refine aw_iadd X dX4_collect_31 ?_
      refine aw_put2 X okX4 (k := 2) (fs' := [.ref b, .int dot, .int (chg + 1)]) hO (Nat.le_of_ble_eq_true rfl) fl_X4_30 (Or.inl rfl) rfl (rfl ) ( rfl) (Nat.le_of_ble_eq_true rfl) rfl dX4_collect_32 (fun w111 hk112 hn113 he114 => ?_)
      have hk115 := (hn113 _ (ne_ci hB hO (by decide))).trans hB
      have hk116 := (hn113 _ (Ne.symm (ne_oa hO hV))).trans hV
      refine aw_goto (tgt := 60) X dX4_collect_35 rfl ?_
      refine RTN (none) _ _ _ _ _ dX4_collect_60 (rfl) (Nat.le_of_ble_eq_true rfl) (Nat.le_of_ble_eq_true rfl) ?_
      have hq : (col ch dot chg cnt f) = (dot, chg + 1, cnt, f) := by unfold col; rw [if_neg c3, if_pos (Or.inl c15)]
      rw [hq]
      exact ⟨rfl, hk112, hk115, hk116, fun q h1 h2 h3 => by rw [he114, wm_upn h1]⟩
    · refine aw_iload_n X dX4_collect_18 rfl rfl ?_
      refine aw_callS X (kX4_isUnsafe _ _ _ _) okm_X4_isUnsafe ml_X4_26 st_X4_isUnsafe rfl rfl (Nat.le_of_ble_eq_true rfl) ⟨Nat.le_of_ble_eq_true rfl, Nat.le_of_ble_eq_true rfl, Nat.le_of_ble_eq_true rfl, Nat.le_of_ble_eq_true rfl⟩ dX4_collect_19 (fun v w2 hp => ?_)
      obtain ⟨rfl, hw9⟩ := hp
      have hw9 := hw9.symm
      subst hw9
      refine aw_if_eq (tgt := 38) X dX4_collect_22 rfl (fun c22 => ?_) (fun c22 => ?_)
      · rw [bI_0] at c22
        refine aw_aload_n X dX4_collect_38 rfl rfl ?_
        refine aw_get X okX4 (k := 0) hO (Nat.le_of_ble_eq_true rfl) fl_X4_12 (Or.inl rfl) rfl dX4_collect_39 ?_
        refine aw_callV X (kJ4_length_8abf5 _ _ _ _ _ _ _ hB) okm_J4_length_8abf5 okJ4 hB ml_X4_34 im_J4_length_8abf5 se_J4_J4_length_8abf5 rfl rfl (Nat.le_of_ble_eq_true rfl) ⟨Nat.le_of_ble_eq_true rfl, Nat.le_of_ble_eq_true rfl, Nat.le_of_ble_eq_true rfl, Nat.le_of_ble_eq_true rfl⟩ dX4_collect_42 (fun v w2 hp => ?_)
        obtain ⟨rfl, hw9⟩ := hp
        have hw9 := hw9.symm
        subst hw9
        refine aw_bipush X dX4_collect_45 cb_8 ?_
        refine aw_icmp_ge (tgt := 60) X dX4_collect_47 rfl (fun c47 => ?_) (fun c47 => ?_)
        · refine RTN (none) _ _ _ _ _ dX4_collect_60 (rfl) (Nat.le_of_ble_eq_true rfl) (Nat.le_of_ble_eq_true rfl) ?_
          have hq : (col ch dot chg cnt f) = (dot, chg, cnt, f) := by unfold col; rw [if_neg c3, if_neg (fun h => h.elim (fun h => h c15) (fun h => c22 h)), if_pos c47]
          rw [hq]
          exact ⟨rfl, hO, hB, hV, fun q h1 h2 h3 => rfl⟩
        · refine aw_aload_n X dX4_collect_50 rfl rfl ?_
          refine aw_get X okX4 (k := 0) hO (Nat.le_of_ble_eq_true rfl) fl_X4_12 (Or.inl rfl) rfl dX4_collect_51 ?_
          refine aw_iload_n X dX4_collect_54 rfl rfl ?_
          refine aw_i2c X dX4_collect_55 ?_
          have hu := un_bt c22
          have hc : bt ch 0 255 = true := bt_wk hu (by decide) (by decide)
          have hn : bt cnt 0 15 = true := by have hb := bt_iff.mp hn8; exact bt_iff.mpr ⟨by omega, by omega⟩
          rw [i2c_id hc]
          refine aw_callV X (kJ4_append_cf468 _ _ _ _ _ _ _ hB _ hV _ hc hn) okm_J4_append_cf468 okJ4 hB ml_X4_38 im_J4_append_cf468 se_J4_J4_append_cf468 rfl rfl (Nat.le_of_ble_eq_true rfl) ⟨Nat.le_of_ble_eq_true rfl, Nat.le_of_ble_eq_true rfl, Nat.le_of_ble_eq_true rfl, Nat.le_of_ble_eq_true rfl⟩ dX4_collect_56 (fun v w2 hp => ?_)
          obtain ⟨rfl, hk117, hk118, hb119⟩ := hp
          have hk120 := (hb119 o (ne_ci hO hB (by decide)) (ne_oa hO hV)).trans hO
          refine aw_pop X dX4_collect_59 rfl ?_
          refine RTN (none) _ _ _ _ _ dX4_collect_60 (rfl) (Nat.le_of_ble_eq_true rfl) (Nat.le_of_ble_eq_true rfl) ?_
          have hq : (col ch dot chg cnt f) = (dot, chg, cnt + 1, upd f cnt.toNatClampNeg ch) := by unfold col; rw [if_neg c3, if_neg (fun h => h.elim (fun h => h c15) (fun h => c22 h)), if_neg c47]
          rw [hq]
          have hv9 := hk118
          rw [i2b_id (bt_wk hu (by decide) (by decide))] at hv9
          exact ⟨rfl, hk120, hk117, hv9, fun q h1 h2 h3 => hb119 q h2 h3⟩
      · rw [bI_n0] at c22
        refine aw_aload_n X dX4_collect_25 rfl rfl ?_
        refine aw_dup X dX4_collect_26 rfl ?_
        refine aw_get X okX4 (k := 2) hO (Nat.le_of_ble_eq_true rfl) fl_X4_30 (Or.inl rfl) rfl dX4_collect_27 ?_
        refine aw_iconst X dX4_collect_30 ci_1 ?_
        refine aw_iadd X dX4_collect_31 ?_
        refine aw_put2 X okX4 (k := 2) (fs' := [.ref b, .int dot, .int (chg + 1)]) hO (Nat.le_of_ble_eq_true rfl) fl_X4_30 (Or.inl rfl) rfl (rfl ) ( rfl) (Nat.le_of_ble_eq_true rfl) rfl dX4_collect_32 (fun w121 hk122 hn123 he124 => ?_)
        have hk125 := (hn123 _ (ne_ci hB hO (by decide))).trans hB
        have hk126 := (hn123 _ (Ne.symm (ne_oa hO hV))).trans hV
        refine aw_goto (tgt := 60) X dX4_collect_35 rfl ?_
        refine RTN (none) _ _ _ _ _ dX4_collect_60 (rfl) (Nat.le_of_ble_eq_true rfl) (Nat.le_of_ble_eq_true rfl) ?_
        have hq : (col ch dot chg cnt f) = (dot, chg + 1, cnt, f) := by unfold col; rw [if_neg c3, if_pos (Or.inr c22)]
        rw [hq]
        exact ⟨rfl, hk122, hk125, hk126, fun q h1 h2 h3 => by rw [he124, wm_upn h1]⟩
  · refine aw_aload_n X dX4_collect_6 rfl rfl ?_
    refine aw_iconst X dX4_collect_7 ci_1 ?_
    refine aw_put2 X okX4 (k := 1) (fs' := [.ref b, .int 1, .int chg]) hO (Nat.le_of_ble_eq_true rfl) fl_X4_22 (Or.inl rfl) rfl (rfl ) ( rfl) (Nat.le_of_ble_eq_true rfl) rfl dX4_collect_8 (fun w127 hk128 hn129 he130 => ?_)
    have hk131 := (hn129 _ (ne_ci hB hO (by decide))).trans hB
    have hk132 := (hn129 _ (Ne.symm (ne_oa hO hV))).trans hV
    refine aw_aload_n X dX4_collect_11 rfl rfl ?_
    refine aw_get X okX4 (k := 1) hk128 (Nat.le_of_ble_eq_true rfl) fl_X4_22 (Or.inl rfl) rfl dX4_collect_12 ?_
    refine aw_if_ne (tgt := 25) X dX4_collect_15 rfl (fun c15 => ?_) (fun c15 => ?_)
    · refine aw_aload_n X dX4_collect_25 rfl rfl ?_
      refine aw_dup X dX4_collect_26 rfl ?_
      refine aw_get X okX4 (k := 2) hk128 (Nat.le_of_ble_eq_true rfl) fl_X4_30 (Or.inl rfl) rfl dX4_collect_27 ?_
      refine aw_iconst X dX4_collect_30 ci_1 ?_
      refine aw_iadd X dX4_collect_31 ?_
      refine aw_put2 X okX4 (k := 2) (fs' := [.ref b, .int 1, .int (chg + 1)]) hk128 (Nat.le_of_ble_eq_true rfl) fl_X4_30 (Or.inl rfl) rfl (rfl ) ( rfl) (Nat.le_of_ble_eq_true rfl) rfl dX4_collect_32 (fun w133 hk134 hn135 he136 => ?_)
      have hk137 := (hn135 _ (ne_ci hk131 hk128 (by decide))).trans hk131
      have hk138 := (hn135 _ (Ne.symm (ne_oa hk128 hk132))).trans hk132
      refine aw_goto (tgt := 60) X dX4_collect_35 rfl ?_
      refine RTN (none) _ _ _ _ _ dX4_collect_60 (rfl) (Nat.le_of_ble_eq_true rfl) (Nat.le_of_ble_eq_true rfl) ?_
      have hq : (col ch dot chg cnt f) = (1, chg + 1, cnt, f) := by unfold col; rw [if_pos c3, if_pos (Or.inl (by decide))]
      rw [hq]
      exact ⟨rfl, hk134, hk137, hk138, fun q h1 h2 h3 => by rw [he136, wm_upn h1, he130, wm_upn h1]⟩
    · exact absurd c15 (by decide)
